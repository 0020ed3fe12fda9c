set_option maxRecDepth 20000 in
theorem ggX9_canHold_X9_clearCost : GoodIn wsX9_canHold wsX9_clearCost := goodIn_r _ [5, 6, 7, 8, 28, 29, 30, 31, 32, 33, 34, 35, 36, 37, 38, 39, 40, 41, 42, 43, 44, 45, 46, 47, 48, 49, 50, 51, 52, 53, 54, 55, 56, 57, 58, 59, 60, 61, 62, 63] (by decide +kernel) (by decide +kernel)
set_option maxRecDepth 20000 in
theorem gX9_canHold_X9_clearCost : GoodIn wsX9_canHold (wsV RX9 124 RX9 yX9_clearCost wsX9_clearCost) := goodIn_app (goodIn_of _ (by decide +kernel)) ggX9_canHold_X9_clearCost
set_option maxRecDepth 20000 in
theorem ggX9_canHold_X9_worstRow : GoodIn wsX9_canHold wsX9_worstRow := goodIn_r _ [12, 8, 7, 13, 28, 29, 30, 31, 32, 33, 34, 35, 36, 37, 38, 39, 40, 41, 42, 43, 44, 45, 46, 47, 48, 49, 50, 51, 52, 53, 54, 55, 56, 57, 58, 59, 60, 61, 62, 63] (by decide +kernel) (by decide +kernel)
set_option maxRecDepth 20000 in
theorem gX9_canHold_X9_worstRow : GoodIn wsX9_canHold (wsV RX9 127 RX9 yX9_worstRow wsX9_worstRow) := goodIn_app (goodIn_of _ (by decide +kernel)) ggX9_canHold_X9_worstRow
set_option maxRecDepth 20000 in
theorem ggX9_canHold_X9_helper : GoodIn wsX9_canHold wsX9_helper := goodIn_r _ [17, 6, 7, 18, 28, 29, 30, 31, 32, 33, 34, 35, 36, 37, 38, 39, 40, 41, 42, 43, 44, 45, 46, 47, 48, 49, 50, 51, 52, 53, 54, 55, 56, 57, 58, 59, 60, 61, 62, 63] (by decide +kernel) (by decide +kernel)
set_option maxRecDepth 20000 in
theorem gX9_canHold_X9_helper : GoodIn wsX9_canHold (wsV RX9 131 RX9 yX9_helper wsX9_helper) := goodIn_app (goodIn_of _ (by decide +kernel)) ggX9_canHold_X9_helper
set_option maxRecDepth 20000 in
theorem ggX9_canHold_X9_swap : GoodIn wsX9_canHold wsX9_swap := goodIn_r _ [22, 7, 8, 6, 23, 13, 18, 24, 25, 26, 4, 27, 28, 29, 30, 31, 32, 33, 34, 35, 36, 37, 38, 39, 40, 41, 42, 43, 44, 45, 46, 47, 48, 49, 50, 51, 52, 53, 54, 55, 56, 57, 58, 59, 60, 61, 62, 63] (by decide +kernel) (by decide +kernel)
set_option maxRecDepth 20000 in
theorem gX9_canHold_X9_swap : GoodIn wsX9_canHold (wsV RX9 134 RX9 yX9_swap wsX9_swap) := goodIn_app (goodIn_of _ (by decide +kernel)) ggX9_canHold_X9_swap
theorem dX9_canHold_0 : decode cX9_canHold 0 = .ok (.aload_n 0, 1) := by decide +kernel
theorem dX9_canHold_1 : decode cX9_canHold 1 = .ok (.invokevirtual 124, 3) := by decide +kernel
theorem dX9_canHold_4 : decode cX9_canHold 4 = .ok (.aload_n 0, 1) := by decide +kernel
theorem dX9_canHold_5 : decode cX9_canHold 5 = .ok (.invokevirtual 127, 3) := by decide +kernel
theorem dX9_canHold_8 : decode cX9_canHold 8 = .ok (.istore_n 1, 1) := by decide +kernel
theorem dX9_canHold_9 : decode cX9_canHold 9 = .ok (.iload_n 1, 1) := by decide +kernel
theorem dX9_canHold_10 : decode cX9_canHold 10 = .ok (.ifCond .lt 29, 3) := by decide +kernel
theorem dX9_canHold_13 : decode cX9_canHold 13 = .ok (.aload_n 0, 1) := by decide +kernel
theorem dX9_canHold_14 : decode cX9_canHold 14 = .ok (.iload_n 1, 1) := by decide +kernel
theorem dX9_canHold_15 : decode cX9_canHold 15 = .ok (.invokevirtual 131, 3) := by decide +kernel
theorem dX9_canHold_18 : decode cX9_canHold 18 = .ok (.istore_n 2, 1) := by decide +kernel
theorem dX9_canHold_19 : decode cX9_canHold 19 = .ok (.iload_n 2, 1) := by decide +kernel
theorem dX9_canHold_20 : decode cX9_canHold 20 = .ok (.ifCond .ge 5, 3) := by decide +kernel
theorem dX9_canHold_23 : decode cX9_canHold 23 = .ok (.iconst 0, 1) := by decide +kernel
theorem dX9_canHold_24 : decode cX9_canHold 24 = .ok (.ireturn, 1) := by decide +kernel
theorem dX9_canHold_25 : decode cX9_canHold 25 = .ok (.aload_n 0, 1) := by decide +kernel
theorem dX9_canHold_26 : decode cX9_canHold 26 = .ok (.iload_n 1, 1) := by decide +kernel
theorem dX9_canHold_27 : decode cX9_canHold 27 = .ok (.iload_n 2, 1) := by decide +kernel
theorem dX9_canHold_28 : decode cX9_canHold 28 = .ok (.invokevirtual 134, 3) := by decide +kernel
theorem dX9_canHold_31 : decode cX9_canHold 31 = .ok (.aload_n 0, 1) := by decide +kernel
theorem dX9_canHold_32 : decode cX9_canHold 32 = .ok (.invokevirtual 127, 3) := by decide +kernel
theorem dX9_canHold_35 : decode cX9_canHold 35 = .ok (.istore_n 1, 1) := by decide +kernel
theorem dX9_canHold_36 : decode cX9_canHold 36 = .ok (.goto (-27), 3) := by decide +kernel
theorem dX9_canHold_39 : decode cX9_canHold 39 = .ok (.iconst 1, 1) := by decide +kernel
theorem dX9_canHold_40 : decode cX9_canHold 40 = .ok (.ireturn, 1) := by decide +kernel
theorem dX9_addCost_0 : decode cX9_addCost 0 = .ok (.iconst 0, 1) := by decide +kernel
theorem dX9_addCost_1 : decode cX9_addCost 1 = .ok (.istore 4, 2) := by decide +kernel
theorem dX9_addCost_3 : decode cX9_addCost 3 = .ok (.iload 4, 2) := by decide +kernel
theorem dX9_addCost_5 : decode cX9_addCost 5 = .ok (.aload_n 0, 1) := by decide +kernel
theorem dX9_addCost_6 : decode cX9_addCost 6 = .ok (.getfield 84, 3) := by decide +kernel
theorem dX9_addCost_9 : decode cX9_addCost 9 = .ok (.if_icmp .ge 71, 3) := by decide +kernel
theorem dX9_addCost_12 : decode cX9_addCost 12 = .ok (.iconst 0, 1) := by decide +kernel
theorem dX9_addCost_13 : decode cX9_addCost 13 = .ok (.istore 5, 2) := by decide +kernel
theorem dX9_addCost_15 : decode cX9_addCost 15 = .ok (.iload 5, 2) := by decide +kernel
theorem dX9_addCost_17 : decode cX9_addCost 17 = .ok (.aload_n 0, 1) := by decide +kernel
theorem dX9_addCost_18 : decode cX9_addCost 18 = .ok (.getfield 88, 3) := by decide +kernel
theorem dX9_addCost_21 : decode cX9_addCost 21 = .ok (.if_icmp .gt 53, 3) := by decide +kernel
theorem dX9_addCost_24 : decode cX9_addCost 24 = .ok (.aload_n 0, 1) := by decide +kernel
theorem dX9_addCost_25 : decode cX9_addCost 25 = .ok (.getfield 39, 3) := by decide +kernel
theorem dX9_addCost_28 : decode cX9_addCost 28 = .ok (.iload 4, 2) := by decide +kernel
theorem dX9_addCost_30 : decode cX9_addCost 30 = .ok (.iaload, 1) := by decide +kernel
theorem dX9_addCost_31 : decode cX9_addCost 31 = .ok (.iload_n 1, 1) := by decide +kernel
theorem dX9_addCost_32 : decode cX9_addCost 32 = .ok (.if_icmp .ne 42, 3) := by decide +kernel
theorem dX9_addCost_35 : decode cX9_addCost 35 = .ok (.aload_n 0, 1) := by decide +kernel
theorem dX9_addCost_36 : decode cX9_addCost 36 = .ok (.getfield 35, 3) := by decide +kernel
theorem dX9_addCost_39 : decode cX9_addCost 39 = .ok (.bipush 22, 2) := by decide +kernel
theorem dX9_addCost_41 : decode cX9_addCost 41 = .ok (.aload_n 0, 1) := by decide +kernel
theorem dX9_addCost_42 : decode cX9_addCost 42 = .ok (.getfield 84, 3) := by decide +kernel
theorem dX9_addCost_45 : decode cX9_addCost 45 = .ok (.imul, 1) := by decide +kernel
theorem dX9_addCost_46 : decode cX9_addCost 46 = .ok (.iload 5, 2) := by decide +kernel
theorem dX9_addCost_48 : decode cX9_addCost 48 = .ok (.iadd, 1) := by decide +kernel
theorem dX9_addCost_49 : decode cX9_addCost 49 = .ok (.dup2, 1) := by decide +kernel
theorem dX9_addCost_50 : decode cX9_addCost 50 = .ok (.laload, 1) := by decide +kernel
theorem dX9_addCost_51 : decode cX9_addCost 51 = .ok (.lload_n 2, 1) := by decide +kernel
theorem dX9_addCost_52 : decode cX9_addCost 52 = .ok (.aload_n 0, 1) := by decide +kernel
theorem dX9_addCost_53 : decode cX9_addCost 53 = .ok (.getfield 35, 3) := by decide +kernel
theorem dX9_addCost_56 : decode cX9_addCost 56 = .ok (.bipush 22, 2) := by decide +kernel
theorem dX9_addCost_58 : decode cX9_addCost 58 = .ok (.iload 4, 2) := by decide +kernel
theorem dX9_addCost_60 : decode cX9_addCost 60 = .ok (.imul, 1) := by decide +kernel
theorem dX9_addCost_61 : decode cX9_addCost 61 = .ok (.iload 5, 2) := by decide +kernel
theorem dX9_addCost_63 : decode cX9_addCost 63 = .ok (.iadd, 1) := by decide +kernel
theorem dX9_addCost_64 : decode cX9_addCost 64 = .ok (.laload, 1) := by decide +kernel
theorem dX9_addCost_65 : decode cX9_addCost 65 = .ok (.lmul, 1) := by decide +kernel
theorem dX9_addCost_66 : decode cX9_addCost 66 = .ok (.ladd, 1) := by decide +kernel
theorem dX9_addCost_67 : decode cX9_addCost 67 = .ok (.lastore, 1) := by decide +kernel
theorem dX9_addCost_68 : decode cX9_addCost 68 = .ok (.iinc 5 1, 3) := by decide +kernel
theorem dX9_addCost_71 : decode cX9_addCost 71 = .ok (.goto (-56), 3) := by decide +kernel
theorem dX9_addCost_74 : decode cX9_addCost 74 = .ok (.iinc 4 1, 3) := by decide +kernel
theorem dX9_addCost_77 : decode cX9_addCost 77 = .ok (.goto (-74), 3) := by decide +kernel
theorem dX9_addCost_80 : decode cX9_addCost 80 = .ok (.iconst 1, 1) := by decide +kernel
theorem dX9_addCost_81 : decode cX9_addCost 81 = .ok (.istore 4, 2) := by decide +kernel
theorem dX9_addCost_83 : decode cX9_addCost 83 = .ok (.iload 4, 2) := by decide +kernel
theorem dX9_addCost_85 : decode cX9_addCost 85 = .ok (.aload_n 0, 1) := by decide +kernel
theorem dX9_addCost_86 : decode cX9_addCost 86 = .ok (.getfield 88, 3) := by decide +kernel
theorem dX9_addCost_89 : decode cX9_addCost 89 = .ok (.if_icmp .gt 48, 3) := by decide +kernel
theorem dX9_addCost_92 : decode cX9_addCost 92 = .ok (.aload_n 0, 1) := by decide +kernel
theorem dX9_addCost_93 : decode cX9_addCost 93 = .ok (.getfield 35, 3) := by decide +kernel
theorem dX9_addCost_96 : decode cX9_addCost 96 = .ok (.bipush 22, 2) := by decide +kernel
theorem dX9_addCost_98 : decode cX9_addCost 98 = .ok (.aload_n 0, 1) := by decide +kernel
theorem dX9_addCost_99 : decode cX9_addCost 99 = .ok (.getfield 84, 3) := by decide +kernel
theorem dX9_addCost_102 : decode cX9_addCost 102 = .ok (.imul, 1) := by decide +kernel
theorem dX9_addCost_103 : decode cX9_addCost 103 = .ok (.iload 4, 2) := by decide +kernel
theorem dX9_addCost_105 : decode cX9_addCost 105 = .ok (.iadd, 1) := by decide +kernel
theorem dX9_addCost_106 : decode cX9_addCost 106 = .ok (.dup2, 1) := by decide +kernel
theorem dX9_addCost_107 : decode cX9_addCost 107 = .ok (.laload, 1) := by decide +kernel
theorem dX9_addCost_108 : decode cX9_addCost 108 = .ok (.aload_n 0, 1) := by decide +kernel
theorem dX9_addCost_109 : decode cX9_addCost 109 = .ok (.getfield 42, 3) := by decide +kernel
theorem dX9_addCost_112 : decode cX9_addCost 112 = .ok (.iload 4, 2) := by decide +kernel
theorem dX9_addCost_114 : decode cX9_addCost 114 = .ok (.iaload, 1) := by decide +kernel
theorem dX9_addCost_115 : decode cX9_addCost 115 = .ok (.iload_n 1, 1) := by decide +kernel
theorem dX9_addCost_116 : decode cX9_addCost 116 = .ok (.if_icmp .ne 12, 3) := by decide +kernel
theorem dX9_addCost_119 : decode cX9_addCost 119 = .ok (.lload_n 2, 1) := by decide +kernel
theorem dX9_addCost_120 : decode cX9_addCost 120 = .ok (.aload_n 0, 1) := by decide +kernel
theorem dX9_addCost_121 : decode cX9_addCost 121 = .ok (.getfield 91, 3) := by decide +kernel
theorem dX9_addCost_124 : decode cX9_addCost 124 = .ok (.lmul, 1) := by decide +kernel
theorem dX9_addCost_125 : decode cX9_addCost 125 = .ok (.goto 4, 3) := by decide +kernel
theorem dX9_addCost_128 : decode cX9_addCost 128 = .ok (.lconst 0, 1) := by decide +kernel
theorem dX9_addCost_129 : decode cX9_addCost 129 = .ok (.ladd, 1) := by decide +kernel
theorem dX9_addCost_130 : decode cX9_addCost 130 = .ok (.lastore, 1) := by decide +kernel
theorem dX9_addCost_131 : decode cX9_addCost 131 = .ok (.iinc 4 1, 3) := by decide +kernel
theorem dX9_addCost_134 : decode cX9_addCost 134 = .ok (.goto (-51), 3) := by decide +kernel
theorem dX9_addCost_137 : decode cX9_addCost 137 = .ok (.return_, 1) := by decide +kernel
theorem dX9_cheaper_0 : decode cX9_cheaper 0 = .ok (.bipush (-6), 2) := by decide +kernel
theorem dX9_cheaper_2 : decode cX9_cheaper 2 = .ok (.istore_n 1, 1) := by decide +kernel
theorem dX9_cheaper_3 : decode cX9_cheaper 3 = .ok (.iconst 1, 1) := by decide +kernel
theorem dX9_cheaper_4 : decode cX9_cheaper 4 = .ok (.istore_n 2, 1) := by decide +kernel
theorem dX9_cheaper_5 : decode cX9_cheaper 5 = .ok (.iload_n 2, 1) := by decide +kernel
theorem dX9_cheaper_6 : decode cX9_cheaper 6 = .ok (.aload_n 0, 1) := by decide +kernel
theorem dX9_cheaper_7 : decode cX9_cheaper 7 = .ok (.getfield 88, 3) := by decide +kernel
theorem dX9_cheaper_10 : decode cX9_cheaper 10 = .ok (.if_icmp .gt 77, 3) := by decide +kernel
theorem dX9_cheaper_13 : decode cX9_cheaper 13 = .ok (.aload_n 0, 1) := by decide +kernel
theorem dX9_cheaper_14 : decode cX9_cheaper 14 = .ok (.getfield 45, 3) := by decide +kernel
theorem dX9_cheaper_17 : decode cX9_cheaper 17 = .ok (.aload_n 0, 1) := by decide +kernel
theorem dX9_cheaper_18 : decode cX9_cheaper 18 = .ok (.getfield 42, 3) := by decide +kernel
theorem dX9_cheaper_21 : decode cX9_cheaper 21 = .ok (.iload_n 2, 1) := by decide +kernel
theorem dX9_cheaper_22 : decode cX9_cheaper 22 = .ok (.iaload, 1) := by decide +kernel
theorem dX9_cheaper_23 : decode cX9_cheaper 23 = .ok (.baload, 1) := by decide +kernel
theorem dX9_cheaper_24 : decode cX9_cheaper 24 = .ok (.ifCond .ne 26, 3) := by decide +kernel
theorem dX9_cheaper_27 : decode cX9_cheaper 27 = .ok (.aload_n 0, 1) := by decide +kernel
theorem dX9_cheaper_28 : decode cX9_cheaper 28 = .ok (.getfield 35, 3) := by decide +kernel
theorem dX9_cheaper_31 : decode cX9_cheaper 31 = .ok (.bipush 22, 2) := by decide +kernel
theorem dX9_cheaper_33 : decode cX9_cheaper 33 = .ok (.aload_n 0, 1) := by decide +kernel
theorem dX9_cheaper_34 : decode cX9_cheaper 34 = .ok (.getfield 84, 3) := by decide +kernel
theorem dX9_cheaper_37 : decode cX9_cheaper 37 = .ok (.imul, 1) := by decide +kernel
theorem dX9_cheaper_38 : decode cX9_cheaper 38 = .ok (.iload_n 2, 1) := by decide +kernel
theorem dX9_cheaper_39 : decode cX9_cheaper 39 = .ok (.iadd, 1) := by decide +kernel
theorem dX9_cheaper_40 : decode cX9_cheaper 40 = .ok (.laload, 1) := by decide +kernel
theorem dX9_cheaper_41 : decode cX9_cheaper 41 = .ok (.lconst 0, 1) := by decide +kernel
theorem dX9_cheaper_42 : decode cX9_cheaper 42 = .ok (.lcmp, 1) := by decide +kernel
theorem dX9_cheaper_43 : decode cX9_cheaper 43 = .ok (.ifCond .ge 7, 3) := by decide +kernel
theorem dX9_cheaper_46 : decode cX9_cheaper 46 = .ok (.iconst 1, 1) := by decide +kernel
theorem dX9_cheaper_47 : decode cX9_cheaper 47 = .ok (.goto 4, 3) := by decide +kernel
theorem dX9_cheaper_50 : decode cX9_cheaper 50 = .ok (.iconst 0, 1) := by decide +kernel
theorem dX9_cheaper_51 : decode cX9_cheaper 51 = .ok (.istore_n 3, 1) := by decide +kernel
theorem dX9_cheaper_52 : decode cX9_cheaper 52 = .ok (.iload_n 3, 1) := by decide +kernel
theorem dX9_cheaper_53 : decode cX9_cheaper 53 = .ok (.ifCond .eq 26, 3) := by decide +kernel
theorem dX9_cheaper_56 : decode cX9_cheaper 56 = .ok (.iload_n 1, 1) := by decide +kernel
theorem dX9_cheaper_57 : decode cX9_cheaper 57 = .ok (.ifCond .lt 18, 3) := by decide +kernel
theorem dX9_cheaper_60 : decode cX9_cheaper 60 = .ok (.aload_n 0, 1) := by decide +kernel
theorem dX9_cheaper_61 : decode cX9_cheaper 61 = .ok (.getfield 42, 3) := by decide +kernel
theorem dX9_cheaper_64 : decode cX9_cheaper 64 = .ok (.iload_n 2, 1) := by decide +kernel
theorem dX9_cheaper_65 : decode cX9_cheaper 65 = .ok (.iaload, 1) := by decide +kernel
theorem dX9_cheaper_66 : decode cX9_cheaper 66 = .ok (.aload_n 0, 1) := by decide +kernel
theorem dX9_cheaper_67 : decode cX9_cheaper 67 = .ok (.getfield 42, 3) := by decide +kernel
theorem dX9_cheaper_70 : decode cX9_cheaper 70 = .ok (.iload_n 1, 1) := by decide +kernel
theorem dX9_cheaper_71 : decode cX9_cheaper 71 = .ok (.iaload, 1) := by decide +kernel
theorem dX9_cheaper_72 : decode cX9_cheaper 72 = .ok (.if_icmp .ge 7, 3) := by decide +kernel
theorem dX9_cheaper_75 : decode cX9_cheaper 75 = .ok (.iload_n 2, 1) := by decide +kernel
theorem dX9_cheaper_76 : decode cX9_cheaper 76 = .ok (.goto 4, 3) := by decide +kernel
theorem dX9_cheaper_79 : decode cX9_cheaper 79 = .ok (.iload_n 1, 1) := by decide +kernel
theorem dX9_cheaper_80 : decode cX9_cheaper 80 = .ok (.istore_n 1, 1) := by decide +kernel
theorem dX9_cheaper_81 : decode cX9_cheaper 81 = .ok (.iinc 2 1, 3) := by decide +kernel
theorem dX9_cheaper_84 : decode cX9_cheaper 84 = .ok (.goto (-79), 3) := by decide +kernel
theorem dX9_cheaper_87 : decode cX9_cheaper 87 = .ok (.iload_n 1, 1) := by decide +kernel
theorem dX9_cheaper_88 : decode cX9_cheaper 88 = .ok (.ireturn, 1) := by decide +kernel
theorem dX9_firstToEnd_0 : decode cX9_firstToEnd 0 = .ok (.bipush (-6), 2) := by decide +kernel
theorem dX9_firstToEnd_2 : decode cX9_firstToEnd 2 = .ok (.istore_n 2, 1) := by decide +kernel
theorem dX9_firstToEnd_3 : decode cX9_firstToEnd 3 = .ok (.iconst 0, 1) := by decide +kernel
theorem dX9_firstToEnd_4 : decode cX9_firstToEnd 4 = .ok (.istore_n 3, 1) := by decide +kernel
theorem dX9_firstToEnd_5 : decode cX9_firstToEnd 5 = .ok (.iload_n 3, 1) := by decide +kernel
theorem dX9_firstToEnd_6 : decode cX9_firstToEnd 6 = .ok (.aload_n 0, 1) := by decide +kernel
theorem dX9_firstToEnd_7 : decode cX9_firstToEnd 7 = .ok (.getfield 84, 3) := by decide +kernel
theorem dX9_firstToEnd_10 : decode cX9_firstToEnd 10 = .ok (.if_icmp .ge 144, 3) := by decide +kernel
theorem dX9_firstToEnd_13 : decode cX9_firstToEnd 13 = .ok (.aload_n 0, 1) := by decide +kernel
theorem dX9_firstToEnd_14 : decode cX9_firstToEnd 14 = .ok (.getfield 35, 3) := by decide +kernel
theorem dX9_firstToEnd_17 : decode cX9_firstToEnd 17 = .ok (.bipush 22, 2) := by decide +kernel
theorem dX9_firstToEnd_19 : decode cX9_firstToEnd 19 = .ok (.iload_n 3, 1) := by decide +kernel
theorem dX9_firstToEnd_20 : decode cX9_firstToEnd 20 = .ok (.imul, 1) := by decide +kernel
theorem dX9_firstToEnd_21 : decode cX9_firstToEnd 21 = .ok (.iload_n 1, 1) := by decide +kernel
theorem dX9_firstToEnd_22 : decode cX9_firstToEnd 22 = .ok (.iadd, 1) := by decide +kernel
theorem dX9_firstToEnd_23 : decode cX9_firstToEnd 23 = .ok (.laload, 1) := by decide +kernel
theorem dX9_firstToEnd_24 : decode cX9_firstToEnd 24 = .ok (.lconst 0, 1) := by decide +kernel
theorem dX9_firstToEnd_25 : decode cX9_firstToEnd 25 = .ok (.lcmp, 1) := by decide +kernel
theorem dX9_firstToEnd_26 : decode cX9_firstToEnd 26 = .ok (.ifCond .ge 122, 3) := by decide +kernel
theorem dX9_firstToEnd_29 : decode cX9_firstToEnd 29 = .ok (.iload_n 2, 1) := by decide +kernel
theorem dX9_firstToEnd_30 : decode cX9_firstToEnd 30 = .ok (.ifCond .ge 9, 3) := by decide +kernel
theorem dX9_firstToEnd_33 : decode cX9_firstToEnd 33 = .ok (.ldc2_w 97, 3) := by decide +kernel
theorem dX9_firstToEnd_36 : decode cX9_firstToEnd 36 = .ok (.goto 25, 3) := by decide +kernel
theorem dX9_firstToEnd_39 : decode cX9_firstToEnd 39 = .ok (.aload_n 0, 1) := by decide +kernel
theorem dX9_firstToEnd_40 : decode cX9_firstToEnd 40 = .ok (.getfield 35, 3) := by decide +kernel
theorem dX9_firstToEnd_43 : decode cX9_firstToEnd 43 = .ok (.bipush 22, 2) := by decide +kernel
theorem dX9_firstToEnd_45 : decode cX9_firstToEnd 45 = .ok (.iload_n 3, 1) := by decide +kernel
theorem dX9_firstToEnd_46 : decode cX9_firstToEnd 46 = .ok (.imul, 1) := by decide +kernel
theorem dX9_firstToEnd_47 : decode cX9_firstToEnd 47 = .ok (.laload, 1) := by decide +kernel
theorem dX9_firstToEnd_48 : decode cX9_firstToEnd 48 = .ok (.aload_n 0, 1) := by decide +kernel
theorem dX9_firstToEnd_49 : decode cX9_firstToEnd 49 = .ok (.getfield 35, 3) := by decide +kernel
theorem dX9_firstToEnd_52 : decode cX9_firstToEnd 52 = .ok (.bipush 22, 2) := by decide +kernel
theorem dX9_firstToEnd_54 : decode cX9_firstToEnd 54 = .ok (.iload_n 2, 1) := by decide +kernel
theorem dX9_firstToEnd_55 : decode cX9_firstToEnd 55 = .ok (.imul, 1) := by decide +kernel
theorem dX9_firstToEnd_56 : decode cX9_firstToEnd 56 = .ok (.iload_n 1, 1) := by decide +kernel
theorem dX9_firstToEnd_57 : decode cX9_firstToEnd 57 = .ok (.iadd, 1) := by decide +kernel
theorem dX9_firstToEnd_58 : decode cX9_firstToEnd 58 = .ok (.laload, 1) := by decide +kernel
theorem dX9_firstToEnd_59 : decode cX9_firstToEnd 59 = .ok (.lneg, 1) := by decide +kernel
theorem dX9_firstToEnd_60 : decode cX9_firstToEnd 60 = .ok (.lmul, 1) := by decide +kernel
theorem dX9_firstToEnd_61 : decode cX9_firstToEnd 61 = .ok (.lstore 4, 2) := by decide +kernel
theorem dX9_firstToEnd_63 : decode cX9_firstToEnd 63 = .ok (.iload_n 2, 1) := by decide +kernel
theorem dX9_firstToEnd_64 : decode cX9_firstToEnd 64 = .ok (.ifCond .ge 7, 3) := by decide +kernel
theorem dX9_firstToEnd_67 : decode cX9_firstToEnd 67 = .ok (.lconst 0, 1) := by decide +kernel
theorem dX9_firstToEnd_68 : decode cX9_firstToEnd 68 = .ok (.goto 25, 3) := by decide +kernel
theorem dX9_firstToEnd_71 : decode cX9_firstToEnd 71 = .ok (.aload_n 0, 1) := by decide +kernel
theorem dX9_firstToEnd_72 : decode cX9_firstToEnd 72 = .ok (.getfield 35, 3) := by decide +kernel
theorem dX9_firstToEnd_75 : decode cX9_firstToEnd 75 = .ok (.bipush 22, 2) := by decide +kernel
theorem dX9_firstToEnd_77 : decode cX9_firstToEnd 77 = .ok (.iload_n 2, 1) := by decide +kernel
theorem dX9_firstToEnd_78 : decode cX9_firstToEnd 78 = .ok (.imul, 1) := by decide +kernel
theorem dX9_firstToEnd_79 : decode cX9_firstToEnd 79 = .ok (.laload, 1) := by decide +kernel
theorem dX9_firstToEnd_80 : decode cX9_firstToEnd 80 = .ok (.aload_n 0, 1) := by decide +kernel
theorem dX9_firstToEnd_81 : decode cX9_firstToEnd 81 = .ok (.getfield 35, 3) := by decide +kernel
theorem dX9_firstToEnd_84 : decode cX9_firstToEnd 84 = .ok (.bipush 22, 2) := by decide +kernel
theorem dX9_firstToEnd_86 : decode cX9_firstToEnd 86 = .ok (.iload_n 3, 1) := by decide +kernel
theorem dX9_firstToEnd_87 : decode cX9_firstToEnd 87 = .ok (.imul, 1) := by decide +kernel
theorem dX9_firstToEnd_88 : decode cX9_firstToEnd 88 = .ok (.iload_n 1, 1) := by decide +kernel
theorem dX9_firstToEnd_89 : decode cX9_firstToEnd 89 = .ok (.iadd, 1) := by decide +kernel
theorem dX9_firstToEnd_90 : decode cX9_firstToEnd 90 = .ok (.laload, 1) := by decide +kernel
theorem dX9_firstToEnd_91 : decode cX9_firstToEnd 91 = .ok (.lneg, 1) := by decide +kernel
theorem dX9_firstToEnd_92 : decode cX9_firstToEnd 92 = .ok (.lmul, 1) := by decide +kernel
theorem dX9_firstToEnd_93 : decode cX9_firstToEnd 93 = .ok (.lstore 6, 2) := by decide +kernel
theorem dX9_firstToEnd_95 : decode cX9_firstToEnd 95 = .ok (.iload_n 2, 1) := by decide +kernel
theorem dX9_firstToEnd_96 : decode cX9_firstToEnd 96 = .ok (.ifCond .lt 34, 3) := by decide +kernel
theorem dX9_firstToEnd_99 : decode cX9_firstToEnd 99 = .ok (.lload 4, 2) := by decide +kernel
theorem dX9_firstToEnd_101 : decode cX9_firstToEnd 101 = .ok (.lload 6, 2) := by decide +kernel
theorem dX9_firstToEnd_103 : decode cX9_firstToEnd 103 = .ok (.lcmp, 1) := by decide +kernel
theorem dX9_firstToEnd_104 : decode cX9_firstToEnd 104 = .ok (.ifCond .lt 26, 3) := by decide +kernel
theorem dX9_firstToEnd_107 : decode cX9_firstToEnd 107 = .ok (.lload 4, 2) := by decide +kernel
theorem dX9_firstToEnd_109 : decode cX9_firstToEnd 109 = .ok (.lload 6, 2) := by decide +kernel
theorem dX9_firstToEnd_111 : decode cX9_firstToEnd 111 = .ok (.lcmp, 1) := by decide +kernel
theorem dX9_firstToEnd_112 : decode cX9_firstToEnd 112 = .ok (.ifCond .ne 22, 3) := by decide +kernel
theorem dX9_firstToEnd_115 : decode cX9_firstToEnd 115 = .ok (.aload_n 0, 1) := by decide +kernel
theorem dX9_firstToEnd_116 : decode cX9_firstToEnd 116 = .ok (.getfield 39, 3) := by decide +kernel
theorem dX9_firstToEnd_119 : decode cX9_firstToEnd 119 = .ok (.iload_n 3, 1) := by decide +kernel
theorem dX9_firstToEnd_120 : decode cX9_firstToEnd 120 = .ok (.iaload, 1) := by decide +kernel
theorem dX9_firstToEnd_121 : decode cX9_firstToEnd 121 = .ok (.aload_n 0, 1) := by decide +kernel
theorem dX9_firstToEnd_122 : decode cX9_firstToEnd 122 = .ok (.getfield 39, 3) := by decide +kernel
theorem dX9_firstToEnd_125 : decode cX9_firstToEnd 125 = .ok (.iload_n 2, 1) := by decide +kernel
theorem dX9_firstToEnd_126 : decode cX9_firstToEnd 126 = .ok (.iaload, 1) := by decide +kernel
theorem dX9_firstToEnd_127 : decode cX9_firstToEnd 127 = .ok (.if_icmp .ge 7, 3) := by decide +kernel
theorem dX9_firstToEnd_130 : decode cX9_firstToEnd 130 = .ok (.iconst 1, 1) := by decide +kernel
theorem dX9_firstToEnd_131 : decode cX9_firstToEnd 131 = .ok (.goto 4, 3) := by decide +kernel
theorem dX9_firstToEnd_134 : decode cX9_firstToEnd 134 = .ok (.iconst 0, 1) := by decide +kernel
theorem dX9_firstToEnd_135 : decode cX9_firstToEnd 135 = .ok (.istore 8, 2) := by decide +kernel
theorem dX9_firstToEnd_137 : decode cX9_firstToEnd 137 = .ok (.iload 8, 2) := by decide +kernel
theorem dX9_firstToEnd_139 : decode cX9_firstToEnd 139 = .ok (.ifCond .eq 7, 3) := by decide +kernel
theorem dX9_firstToEnd_142 : decode cX9_firstToEnd 142 = .ok (.iload_n 3, 1) := by decide +kernel
theorem dX9_firstToEnd_143 : decode cX9_firstToEnd 143 = .ok (.goto 4, 3) := by decide +kernel
theorem dX9_firstToEnd_146 : decode cX9_firstToEnd 146 = .ok (.iload_n 2, 1) := by decide +kernel
theorem dX9_firstToEnd_147 : decode cX9_firstToEnd 147 = .ok (.istore_n 2, 1) := by decide +kernel
theorem dX9_firstToEnd_148 : decode cX9_firstToEnd 148 = .ok (.iinc 3 1, 3) := by decide +kernel
theorem dX9_firstToEnd_151 : decode cX9_firstToEnd 151 = .ok (.goto (-146), 3) := by decide +kernel
theorem dX9_firstToEnd_154 : decode cX9_firstToEnd 154 = .ok (.iload_n 2, 1) := by decide +kernel
theorem dX9_firstToEnd_155 : decode cX9_firstToEnd 155 = .ok (.ireturn, 1) := by decide +kernel
set_option maxRecDepth 20000 in
theorem ggX9_lessen_X9_cheaper : GoodIn wsX9_lessen wsX9_cheaper := goodIn_r _ [5, 6, 7, 8, 9, 10, 26, 27, 28, 29, 30, 31, 32, 33, 34, 35, 36, 37, 38, 39, 40, 41, 42, 43, 44, 45, 46, 47, 48, 49, 50, 51, 52, 53, 54, 55, 56, 57, 58, 59, 60, 61] (by decide +kernel) (by decide +kernel)
set_option maxRecDepth 20000 in
theorem gX9_lessen_X9_cheaper : GoodIn wsX9_lessen (wsV RX9 138 RX9 yX9_cheaper wsX9_cheaper) := goodIn_app (goodIn_of _ (by decide +kernel)) ggX9_lessen_X9_cheaper
set_option maxRecDepth 20000 in
theorem ggX9_lessen_X9_firstToEnd : GoodIn wsX9_lessen wsX9_firstToEnd := goodIn_r _ [14, 10, 9, 15, 16, 26, 27, 28, 29, 30, 31, 32, 33, 34, 35, 36, 37, 38, 39, 40, 41, 42, 43, 44, 45, 46, 47, 48, 49, 50, 51, 52, 53, 54, 55, 56, 57, 58, 59, 60, 61] (by decide +kernel) (by decide +kernel)
set_option maxRecDepth 20000 in
theorem gX9_lessen_X9_firstToEnd : GoodIn wsX9_lessen (wsV RX9 141 RX9 yX9_firstToEnd wsX9_firstToEnd) := goodIn_app (goodIn_of _ (by decide +kernel)) ggX9_lessen_X9_firstToEnd
set_option maxRecDepth 20000 in
theorem ggX9_lessen_X9_swap : GoodIn wsX9_lessen wsX9_swap := goodIn_r _ [20, 9, 10, 6, 21, 16, 8, 22, 23, 24, 4, 25, 26, 27, 28, 29, 30, 31, 32, 33, 34, 35, 36, 37, 38, 39, 40, 41, 42, 43, 44, 45, 46, 47, 48, 49, 50, 51, 52, 53, 54, 55, 56, 57, 58, 59, 60, 61] (by decide +kernel) (by decide +kernel)
set_option maxRecDepth 20000 in
theorem gX9_lessen_X9_swap : GoodIn wsX9_lessen (wsV RX9 134 RX9 yX9_swap wsX9_swap) := goodIn_app (goodIn_of _ (by decide +kernel)) ggX9_lessen_X9_swap
theorem dX9_lessen_0 : decode cX9_lessen 0 = .ok (.aload_n 0, 1) := by decide +kernel
theorem dX9_lessen_1 : decode cX9_lessen 1 = .ok (.invokevirtual 138, 3) := by decide +kernel
theorem dX9_lessen_4 : decode cX9_lessen 4 = .ok (.istore_n 1, 1) := by decide +kernel
theorem dX9_lessen_5 : decode cX9_lessen 5 = .ok (.iload_n 1, 1) := by decide +kernel
theorem dX9_lessen_6 : decode cX9_lessen 6 = .ok (.ifCond .lt 21, 3) := by decide +kernel
theorem dX9_lessen_9 : decode cX9_lessen 9 = .ok (.aload_n 0, 1) := by decide +kernel
theorem dX9_lessen_10 : decode cX9_lessen 10 = .ok (.aload_n 0, 1) := by decide +kernel
theorem dX9_lessen_11 : decode cX9_lessen 11 = .ok (.iload_n 1, 1) := by decide +kernel
theorem dX9_lessen_12 : decode cX9_lessen 12 = .ok (.invokevirtual 141, 3) := by decide +kernel
theorem dX9_lessen_15 : decode cX9_lessen 15 = .ok (.iload_n 1, 1) := by decide +kernel
theorem dX9_lessen_16 : decode cX9_lessen 16 = .ok (.invokevirtual 134, 3) := by decide +kernel
theorem dX9_lessen_19 : decode cX9_lessen 19 = .ok (.aload_n 0, 1) := by decide +kernel
theorem dX9_lessen_20 : decode cX9_lessen 20 = .ok (.invokevirtual 138, 3) := by decide +kernel
theorem dX9_lessen_23 : decode cX9_lessen 23 = .ok (.istore_n 1, 1) := by decide +kernel
theorem dX9_lessen_24 : decode cX9_lessen 24 = .ok (.goto (-19), 3) := by decide +kernel
theorem dX9_lessen_27 : decode cX9_lessen 27 = .ok (.return_, 1) := by decide +kernel
theorem dX9_bar_0 : decode cX9_bar 0 = .ok (.iconst 1, 1) := by decide +kernel
theorem dX9_bar_1 : decode cX9_bar 1 = .ok (.istore_n 1, 1) := by decide +kernel
theorem dX9_bar_2 : decode cX9_bar 2 = .ok (.iload_n 1, 1) := by decide +kernel
theorem dX9_bar_3 : decode cX9_bar 3 = .ok (.aload_n 0, 1) := by decide +kernel
theorem dX9_bar_4 : decode cX9_bar 4 = .ok (.getfield 88, 3) := by decide +kernel
theorem dX9_bar_7 : decode cX9_bar 7 = .ok (.if_icmp .gt 58, 3) := by decide +kernel
theorem dX9_bar_10 : decode cX9_bar 10 = .ok (.aload_n 0, 1) := by decide +kernel
theorem dX9_bar_11 : decode cX9_bar 11 = .ok (.getfield 45, 3) := by decide +kernel
theorem dX9_bar_14 : decode cX9_bar 14 = .ok (.aload_n 0, 1) := by decide +kernel
theorem dX9_bar_15 : decode cX9_bar 15 = .ok (.getfield 42, 3) := by decide +kernel
theorem dX9_bar_18 : decode cX9_bar 18 = .ok (.iload_n 1, 1) := by decide +kernel
theorem dX9_bar_19 : decode cX9_bar 19 = .ok (.iaload, 1) := by decide +kernel
theorem dX9_bar_20 : decode cX9_bar 20 = .ok (.aload_n 0, 1) := by decide +kernel
theorem dX9_bar_21 : decode cX9_bar 21 = .ok (.getfield 45, 3) := by decide +kernel
theorem dX9_bar_24 : decode cX9_bar 24 = .ok (.aload_n 0, 1) := by decide +kernel
theorem dX9_bar_25 : decode cX9_bar 25 = .ok (.getfield 42, 3) := by decide +kernel
theorem dX9_bar_28 : decode cX9_bar 28 = .ok (.iload_n 1, 1) := by decide +kernel
theorem dX9_bar_29 : decode cX9_bar 29 = .ok (.iaload, 1) := by decide +kernel
theorem dX9_bar_30 : decode cX9_bar 30 = .ok (.baload, 1) := by decide +kernel
theorem dX9_bar_31 : decode cX9_bar 31 = .ok (.ifCond .ne 22, 3) := by decide +kernel
theorem dX9_bar_34 : decode cX9_bar 34 = .ok (.aload_n 0, 1) := by decide +kernel
theorem dX9_bar_35 : decode cX9_bar 35 = .ok (.getfield 35, 3) := by decide +kernel
theorem dX9_bar_38 : decode cX9_bar 38 = .ok (.bipush 22, 2) := by decide +kernel
theorem dX9_bar_40 : decode cX9_bar 40 = .ok (.aload_n 0, 1) := by decide +kernel
theorem dX9_bar_41 : decode cX9_bar 41 = .ok (.getfield 84, 3) := by decide +kernel
theorem dX9_bar_44 : decode cX9_bar 44 = .ok (.imul, 1) := by decide +kernel
theorem dX9_bar_45 : decode cX9_bar 45 = .ok (.iload_n 1, 1) := by decide +kernel
theorem dX9_bar_46 : decode cX9_bar 46 = .ok (.iadd, 1) := by decide +kernel
theorem dX9_bar_47 : decode cX9_bar 47 = .ok (.laload, 1) := by decide +kernel
theorem dX9_bar_48 : decode cX9_bar 48 = .ok (.lconst 0, 1) := by decide +kernel
theorem dX9_bar_49 : decode cX9_bar 49 = .ok (.lcmp, 1) := by decide +kernel
theorem dX9_bar_50 : decode cX9_bar 50 = .ok (.ifCond .le 7, 3) := by decide +kernel
theorem dX9_bar_53 : decode cX9_bar 53 = .ok (.iconst 1, 1) := by decide +kernel
theorem dX9_bar_54 : decode cX9_bar 54 = .ok (.goto 4, 3) := by decide +kernel
theorem dX9_bar_57 : decode cX9_bar 57 = .ok (.iconst 0, 1) := by decide +kernel
theorem dX9_bar_58 : decode cX9_bar 58 = .ok (.bastore, 1) := by decide +kernel
theorem dX9_bar_59 : decode cX9_bar 59 = .ok (.iinc 1 1, 3) := by decide +kernel
theorem dX9_bar_62 : decode cX9_bar 62 = .ok (.goto (-60), 3) := by decide +kernel
theorem dX9_bar_65 : decode cX9_bar 65 = .ok (.return_, 1) := by decide +kernel
theorem dX9_part_0 : decode cX9_part 0 = .ok (.lload_n 0, 1) := by decide +kernel
theorem dX9_part_1 : decode cX9_part 1 = .ok (.lconst 0, 1) := by decide +kernel
theorem dX9_part_2 : decode cX9_part 2 = .ok (.lcmp, 1) := by decide +kernel
theorem dX9_part_3 : decode cX9_part 3 = .ok (.ifCond .ge 8, 3) := by decide +kernel
theorem dX9_part_6 : decode cX9_part 6 = .ok (.lload_n 0, 1) := by decide +kernel
theorem dX9_part_7 : decode cX9_part 7 = .ok (.lneg, 1) := by decide +kernel
theorem dX9_part_8 : decode cX9_part 8 = .ok (.goto 4, 3) := by decide +kernel
theorem dX9_part_11 : decode cX9_part 11 = .ok (.lload_n 0, 1) := by decide +kernel
theorem dX9_part_12 : decode cX9_part 12 = .ok (.lstore 5, 2) := by decide +kernel
theorem dX9_part_14 : decode cX9_part 14 = .ok (.lload_n 2, 1) := by decide +kernel
theorem dX9_part_15 : decode cX9_part 15 = .ok (.lstore 7, 2) := by decide +kernel
theorem dX9_part_17 : decode cX9_part 17 = .ok (.lload 7, 2) := by decide +kernel
theorem dX9_part_19 : decode cX9_part 19 = .ok (.lconst 0, 1) := by decide +kernel
theorem dX9_part_20 : decode cX9_part 20 = .ok (.lcmp, 1) := by decide +kernel
theorem dX9_part_21 : decode cX9_part 21 = .ok (.ifCond .eq 21, 3) := by decide +kernel
theorem dX9_part_24 : decode cX9_part 24 = .ok (.lload 5, 2) := by decide +kernel
theorem dX9_part_26 : decode cX9_part 26 = .ok (.lload 7, 2) := by decide +kernel
theorem dX9_part_28 : decode cX9_part 28 = .ok (.lrem, 1) := by decide +kernel
theorem dX9_part_29 : decode cX9_part 29 = .ok (.lstore 9, 2) := by decide +kernel
theorem dX9_part_31 : decode cX9_part 31 = .ok (.lload 7, 2) := by decide +kernel
theorem dX9_part_33 : decode cX9_part 33 = .ok (.lstore 5, 2) := by decide +kernel
theorem dX9_part_35 : decode cX9_part 35 = .ok (.lload 9, 2) := by decide +kernel
theorem dX9_part_37 : decode cX9_part 37 = .ok (.lstore 7, 2) := by decide +kernel
theorem dX9_part_39 : decode cX9_part 39 = .ok (.goto (-22), 3) := by decide +kernel
theorem dX9_part_42 : decode cX9_part 42 = .ok (.iload 4, 2) := by decide +kernel
theorem dX9_part_44 : decode cX9_part 44 = .ok (.ifCond .ne 10, 3) := by decide +kernel
theorem dX9_part_47 : decode cX9_part 47 = .ok (.lload_n 0, 1) := by decide +kernel
theorem dX9_part_48 : decode cX9_part 48 = .ok (.lload 5, 2) := by decide +kernel
theorem dX9_part_50 : decode cX9_part 50 = .ok (.ldiv, 1) := by decide +kernel
theorem dX9_part_51 : decode cX9_part 51 = .ok (.goto 7, 3) := by decide +kernel
theorem dX9_part_54 : decode cX9_part 54 = .ok (.lload_n 2, 1) := by decide +kernel
theorem dX9_part_55 : decode cX9_part 55 = .ok (.lload 5, 2) := by decide +kernel
theorem dX9_part_57 : decode cX9_part 57 = .ok (.ldiv, 1) := by decide +kernel
theorem dX9_part_58 : decode cX9_part 58 = .ok (.lreturn, 1) := by decide +kernel
set_option maxRecDepth 20000 in
theorem ggX9_solveAll_X9_layRows : GoodIn wsX9_solveAll wsX9_layRows := goodIn_r _ [10, 11, 12, 13, 9, 14, 2, 15, 3, 16, 4, 17, 18, 19, 20, 21, 22, 23, 24, 25, 26, 27, 28, 29, 30, 31, 32, 33, 34, 35, 36, 37, 38, 39, 40, 41, 42, 43, 44, 45, 46, 94, 95, 96, 97, 98, 99, 100, 101, 102, 103, 104, 105, 106, 107, 108, 109, 110, 111, 112, 113, 114, 115, 116, 117, 118, 119, 120, 121, 122, 123, 124, 125, 126, 127, 128, 129] (by decide +kernel) (by decide +kernel)
set_option maxRecDepth 20000 in
theorem gX9_solveAll_X9_layRows : GoodIn wsX9_solveAll (wsV RX9 144 RX9 yX9_layRows wsX9_layRows) := goodIn_app (goodIn_of _ (by decide +kernel)) ggX9_solveAll_X9_layRows
set_option maxRecDepth 20000 in
theorem ggX9_solveAll_X9_canHold : GoodIn wsX9_solveAll wsX9_canHold := goodIn_r _ [50, 51, 52, 53, 9, 54, 16, 2, 3, 55, 56, 57, 58, 18, 59, 60, 61, 62, 17, 63, 64, 65, 66, 4, 67, 68, 69, 70, 94, 95, 96, 97, 98, 99, 100, 101, 102, 103, 104, 105, 106, 107, 108, 109, 110, 111, 112, 113, 114, 115, 116, 117, 118, 119, 120, 121, 122, 123, 124, 125, 126, 127, 128, 129] (by decide +kernel) (by decide +kernel)
set_option maxRecDepth 20000 in
theorem gX9_solveAll_X9_canHold : GoodIn wsX9_solveAll (wsV RX9 148 RX9 yX9_canHold wsX9_canHold) := goodIn_app (goodIn_of _ (by decide +kernel)) ggX9_solveAll_X9_canHold
set_option maxRecDepth 20000 in
theorem ggX9_solveAll_X9_clearCost : GoodIn wsX9_solveAll wsX9_clearCost := goodIn_r _ [54, 16, 2, 3, 94, 95, 96, 97, 98, 99, 100, 101, 102, 103, 104, 105, 106, 107, 108, 109, 110, 111, 112, 113, 114, 115, 116, 117, 118, 119, 120, 121, 122, 123, 124, 125, 126, 127, 128, 129] (by decide +kernel) (by decide +kernel)
set_option maxRecDepth 20000 in
theorem gX9_solveAll_X9_clearCost : GoodIn wsX9_solveAll (wsV RX9 124 RX9 yX9_clearCost wsX9_clearCost) := goodIn_app (goodIn_of _ (by decide +kernel)) ggX9_solveAll_X9_clearCost
set_option maxRecDepth 20000 in
theorem ggX9_solveAll_X9_isThere : GoodIn wsX9_solveAll wsX9_isThere := goodIn_r _ [24, 25, 26, 9, 27, 28, 29, 30, 31, 32, 94, 95, 96, 97, 98, 99, 100, 101, 102, 103, 104, 105, 106, 107, 108, 109, 110, 111, 112, 113, 114, 115, 116, 117, 118, 119, 120, 121, 122, 123, 124, 125, 126, 127, 128, 129] (by decide +kernel) (by decide +kernel)
set_option maxRecDepth 20000 in
theorem gX9_solveAll_X9_isThere : GoodIn wsX9_solveAll (wsV RX9 113 RX9 yX9_isThere wsX9_isThere) := goodIn_app (goodIn_of _ (by decide +kernel)) ggX9_solveAll_X9_isThere
set_option maxRecDepth 20000 in
theorem ggX9_solveAll_X9_of : GoodIn wsX9_solveAll wsX9_of := goodIn_r _ [31, 32, 94, 95, 96, 97, 98, 99, 100, 101, 102, 103, 104, 105, 106, 107, 108, 109, 110, 111, 112, 113, 114, 115, 116, 117, 118, 119, 120, 121, 122, 123, 124, 125, 126, 127, 128, 129] (by decide +kernel) (by decide +kernel)
set_option maxRecDepth 20000 in
theorem gX9_solveAll_X9_of : GoodIn wsX9_solveAll (wsV RX9 80 RX9 yX9_of wsX9_of) := goodIn_app (goodIn_of _ (by decide +kernel)) ggX9_solveAll_X9_of
set_option maxRecDepth 20000 in
theorem ggX9_solveAll_X9_lack : GoodIn wsX9_solveAll wsX9_lack := goodIn_r _ [46] (by decide +kernel) (by decide +kernel)
set_option maxRecDepth 20000 in
theorem gX9_solveAll_X9_lack : GoodIn wsX9_solveAll (va_wsS RX9 107 yX9_lack wsX9_lack) := goodIn_app (goodIn_of _ (by decide +kernel)) ggX9_solveAll_X9_lack
set_option maxRecDepth 20000 in
theorem ggX9_solveAll_X9_addCost : GoodIn wsX9_solveAll wsX9_addCost := goodIn_r _ [74, 3, 16, 18, 2, 17, 4, 94, 95, 96, 97, 98, 99, 100, 101, 102, 103, 104, 105, 106, 107, 108, 109, 110, 111, 112, 113, 114, 115, 116, 117, 118, 119, 120, 121, 122, 123, 124, 125, 126, 127, 128, 129] (by decide +kernel) (by decide +kernel)
set_option maxRecDepth 20000 in
theorem gX9_solveAll_X9_addCost : GoodIn wsX9_solveAll (wsV RX9 152 RX9 yX9_addCost wsX9_addCost) := goodIn_app (goodIn_of _ (by decide +kernel)) ggX9_solveAll_X9_addCost
set_option maxRecDepth 20000 in
theorem ggX9_solveAll_X9_ahead : GoodIn wsX9_solveAll wsX9_ahead := goodIn_r _ [39] (by decide +kernel) (by decide +kernel)
set_option maxRecDepth 20000 in
theorem gX9_solveAll_X9_ahead : GoodIn wsX9_solveAll (va_wsS RX9 99 yX9_ahead wsX9_ahead) := goodIn_app (goodIn_of _ (by decide +kernel)) ggX9_solveAll_X9_ahead
set_option maxRecDepth 20000 in
theorem ggX9_solveAll_X9_lessen : GoodIn wsX9_solveAll wsX9_lessen := goodIn_r _ [78, 79, 80, 81, 9, 82, 16, 15, 17, 2, 3, 83, 84, 85, 86, 20, 18, 63, 64, 65, 66, 4, 67, 68, 69, 70, 94, 95, 96, 97, 98, 99, 100, 101, 102, 103, 104, 105, 106, 107, 108, 109, 110, 111, 112, 113, 114, 115, 116, 117, 118, 119, 120, 121, 122, 123, 124, 125, 126, 127, 128, 129] (by decide +kernel) (by decide +kernel)
set_option maxRecDepth 20000 in
theorem gX9_solveAll_X9_lessen : GoodIn wsX9_solveAll (wsV RX9 156 RX9 yX9_lessen wsX9_lessen) := goodIn_app (goodIn_of _ (by decide +kernel)) ggX9_solveAll_X9_lessen
set_option maxRecDepth 20000 in
theorem ggX9_solveAll_X9_bar : GoodIn wsX9_solveAll wsX9_bar := goodIn_r _ [90, 16, 15, 17, 2, 3, 94, 95, 96, 97, 98, 99, 100, 101, 102, 103, 104, 105, 106, 107, 108, 109, 110, 111, 112, 113, 114, 115, 116, 117, 118, 119, 120, 121, 122, 123, 124, 125, 126, 127, 128, 129] (by decide +kernel) (by decide +kernel)
set_option maxRecDepth 20000 in
theorem gX9_solveAll_X9_bar : GoodIn wsX9_solveAll (wsV RX9 159 RX9 yX9_bar wsX9_bar) := goodIn_app (goodIn_of _ (by decide +kernel)) ggX9_solveAll_X9_bar
set_option maxRecDepth 20000 in
theorem ggX9_solveAll_X9_part : GoodIn wsX9_solveAll wsX9_part := goodIn_r _ [93] (by decide +kernel) (by decide +kernel)
set_option maxRecDepth 20000 in
theorem gX9_solveAll_X9_part : GoodIn wsX9_solveAll (va_wsS RX9 162 yX9_part wsX9_part) := goodIn_app (goodIn_of _ (by decide +kernel)) ggX9_solveAll_X9_part
theorem dX9_solveAll_0 : decode cX9_solveAll 0 = .ok (.aload_n 0, 1) := by decide +kernel
theorem dX9_solveAll_1 : decode cX9_solveAll 1 = .ok (.iload_n 1, 1) := by decide +kernel
theorem dX9_solveAll_2 : decode cX9_solveAll 2 = .ok (.iconst 0, 1) := by decide +kernel
theorem dX9_solveAll_3 : decode cX9_solveAll 3 = .ok (.invokevirtual 144, 3) := by decide +kernel
theorem dX9_solveAll_6 : decode cX9_solveAll 6 = .ok (.aload_n 0, 1) := by decide +kernel
theorem dX9_solveAll_7 : decode cX9_solveAll 7 = .ok (.invokevirtual 148, 3) := by decide +kernel
theorem dX9_solveAll_10 : decode cX9_solveAll 10 = .ok (.ifCond .ne 5, 3) := by decide +kernel
theorem dX9_solveAll_13 : decode cX9_solveAll 13 = .ok (.iconst 0, 1) := by decide +kernel
theorem dX9_solveAll_14 : decode cX9_solveAll 14 = .ok (.ireturn, 1) := by decide +kernel
theorem dX9_solveAll_15 : decode cX9_solveAll 15 = .ok (.iconst 1, 1) := by decide +kernel
theorem dX9_solveAll_16 : decode cX9_solveAll 16 = .ok (.istore_n 2, 1) := by decide +kernel
theorem dX9_solveAll_17 : decode cX9_solveAll 17 = .ok (.iload_n 2, 1) := by decide +kernel
theorem dX9_solveAll_18 : decode cX9_solveAll 18 = .ok (.iconst 3, 1) := by decide +kernel
theorem dX9_solveAll_19 : decode cX9_solveAll 19 = .ok (.if_icmp .gt 162, 3) := by decide +kernel
theorem dX9_solveAll_22 : decode cX9_solveAll 22 = .ok (.aload_n 0, 1) := by decide +kernel
theorem dX9_solveAll_23 : decode cX9_solveAll 23 = .ok (.invokevirtual 124, 3) := by decide +kernel
theorem dX9_solveAll_26 : decode cX9_solveAll 26 = .ok (.iconst 0, 1) := by decide +kernel
theorem dX9_solveAll_27 : decode cX9_solveAll 27 = .ok (.istore_n 3, 1) := by decide +kernel
theorem dX9_solveAll_28 : decode cX9_solveAll 28 = .ok (.iload_n 3, 1) := by decide +kernel
theorem dX9_solveAll_29 : decode cX9_solveAll 29 = .ok (.bipush 14, 2) := by decide +kernel
theorem dX9_solveAll_31 : decode cX9_solveAll 31 = .ok (.if_icmp .ge 84, 3) := by decide +kernel
theorem dX9_solveAll_34 : decode cX9_solveAll 34 = .ok (.aload_n 0, 1) := by decide +kernel
theorem dX9_solveAll_35 : decode cX9_solveAll 35 = .ok (.iload_n 3, 1) := by decide +kernel
theorem dX9_solveAll_36 : decode cX9_solveAll 36 = .ok (.invokevirtual 113, 3) := by decide +kernel
theorem dX9_solveAll_39 : decode cX9_solveAll 39 = .ok (.ifCond .eq 70, 3) := by decide +kernel
theorem dX9_solveAll_42 : decode cX9_solveAll 42 = .ok (.iload_n 1, 1) := by decide +kernel
theorem dX9_solveAll_43 : decode cX9_solveAll 43 = .ok (.iload_n 3, 1) := by decide +kernel
theorem dX9_solveAll_44 : decode cX9_solveAll 44 = .ok (.ishr, 1) := by decide +kernel
theorem dX9_solveAll_45 : decode cX9_solveAll 45 = .ok (.iconst 1, 1) := by decide +kernel
theorem dX9_solveAll_46 : decode cX9_solveAll 46 = .ok (.iand, 1) := by decide +kernel
theorem dX9_solveAll_47 : decode cX9_solveAll 47 = .ok (.iconst 1, 1) := by decide +kernel
theorem dX9_solveAll_48 : decode cX9_solveAll 48 = .ok (.if_icmp .ne 61, 3) := by decide +kernel
theorem dX9_solveAll_51 : decode cX9_solveAll 51 = .ok (.aload_n 0, 1) := by decide +kernel
theorem dX9_solveAll_52 : decode cX9_solveAll 52 = .ok (.iload_n 3, 1) := by decide +kernel
theorem dX9_solveAll_53 : decode cX9_solveAll 53 = .ok (.bipush 8, 2) := by decide +kernel
theorem dX9_solveAll_55 : decode cX9_solveAll 55 = .ok (.invokevirtual 80, 3) := by decide +kernel
theorem dX9_solveAll_58 : decode cX9_solveAll 58 = .ok (.iload_n 2, 1) := by decide +kernel
theorem dX9_solveAll_59 : decode cX9_solveAll 59 = .ok (.if_icmp .ne 50, 3) := by decide +kernel
theorem dX9_solveAll_62 : decode cX9_solveAll 62 = .ok (.aload_n 0, 1) := by decide +kernel
theorem dX9_solveAll_63 : decode cX9_solveAll 63 = .ok (.iload_n 3, 1) := by decide +kernel
theorem dX9_solveAll_64 : decode cX9_solveAll 64 = .ok (.invokestatic 107, 3) := by decide +kernel
theorem dX9_solveAll_67 : decode cX9_solveAll 67 = .ok (.aload_n 0, 1) := by decide +kernel
theorem dX9_solveAll_68 : decode cX9_solveAll 68 = .ok (.iload_n 3, 1) := by decide +kernel
theorem dX9_solveAll_69 : decode cX9_solveAll 69 = .ok (.bipush 9, 2) := by decide +kernel
theorem dX9_solveAll_71 : decode cX9_solveAll 71 = .ok (.invokevirtual 80, 3) := by decide +kernel
theorem dX9_solveAll_74 : decode cX9_solveAll 74 = .ok (.i2l, 1) := by decide +kernel
theorem dX9_solveAll_75 : decode cX9_solveAll 75 = .ok (.invokevirtual 152, 3) := by decide +kernel
theorem dX9_solveAll_78 : decode cX9_solveAll 78 = .ok (.aload_n 0, 1) := by decide +kernel
theorem dX9_solveAll_79 : decode cX9_solveAll 79 = .ok (.iload_n 3, 1) := by decide +kernel
theorem dX9_solveAll_80 : decode cX9_solveAll 80 = .ok (.invokestatic 99, 3) := by decide +kernel
theorem dX9_solveAll_83 : decode cX9_solveAll 83 = .ok (.aload_n 0, 1) := by decide +kernel
theorem dX9_solveAll_84 : decode cX9_solveAll 84 = .ok (.iload_n 3, 1) := by decide +kernel
theorem dX9_solveAll_85 : decode cX9_solveAll 85 = .ok (.bipush 6, 2) := by decide +kernel
theorem dX9_solveAll_87 : decode cX9_solveAll 87 = .ok (.invokevirtual 80, 3) := by decide +kernel
theorem dX9_solveAll_90 : decode cX9_solveAll 90 = .ok (.iconst 1, 1) := by decide +kernel
theorem dX9_solveAll_91 : decode cX9_solveAll 91 = .ok (.if_icmp .ne 14, 3) := by decide +kernel
theorem dX9_solveAll_94 : decode cX9_solveAll 94 = .ok (.aload_n 0, 1) := by decide +kernel
theorem dX9_solveAll_95 : decode cX9_solveAll 95 = .ok (.iload_n 3, 1) := by decide +kernel
theorem dX9_solveAll_96 : decode cX9_solveAll 96 = .ok (.bipush 9, 2) := by decide +kernel
theorem dX9_solveAll_98 : decode cX9_solveAll 98 = .ok (.invokevirtual 80, 3) := by decide +kernel
theorem dX9_solveAll_101 : decode cX9_solveAll 101 = .ok (.i2l, 1) := by decide +kernel
theorem dX9_solveAll_102 : decode cX9_solveAll 102 = .ok (.goto 4, 3) := by decide +kernel
theorem dX9_solveAll_105 : decode cX9_solveAll 105 = .ok (.lconst 0, 1) := by decide +kernel
theorem dX9_solveAll_106 : decode cX9_solveAll 106 = .ok (.invokevirtual 152, 3) := by decide +kernel
theorem dX9_solveAll_109 : decode cX9_solveAll 109 = .ok (.iinc 3 1, 3) := by decide +kernel
theorem dX9_solveAll_112 : decode cX9_solveAll 112 = .ok (.goto (-84), 3) := by decide +kernel
theorem dX9_solveAll_115 : decode cX9_solveAll 115 = .ok (.aload_n 0, 1) := by decide +kernel
theorem dX9_solveAll_116 : decode cX9_solveAll 116 = .ok (.invokevirtual 156, 3) := by decide +kernel
theorem dX9_solveAll_119 : decode cX9_solveAll 119 = .ok (.aload_n 0, 1) := by decide +kernel
theorem dX9_solveAll_120 : decode cX9_solveAll 120 = .ok (.invokevirtual 159, 3) := by decide +kernel
theorem dX9_solveAll_123 : decode cX9_solveAll 123 = .ok (.aload_n 0, 1) := by decide +kernel
theorem dX9_solveAll_124 : decode cX9_solveAll 124 = .ok (.getfield 48, 3) := by decide +kernel
theorem dX9_solveAll_127 : decode cX9_solveAll 127 = .ok (.iload_n 2, 1) := by decide +kernel
theorem dX9_solveAll_128 : decode cX9_solveAll 128 = .ok (.aload_n 0, 1) := by decide +kernel
theorem dX9_solveAll_129 : decode cX9_solveAll 129 = .ok (.getfield 35, 3) := by decide +kernel
theorem dX9_solveAll_132 : decode cX9_solveAll 132 = .ok (.bipush 22, 2) := by decide +kernel
theorem dX9_solveAll_134 : decode cX9_solveAll 134 = .ok (.aload_n 0, 1) := by decide +kernel
theorem dX9_solveAll_135 : decode cX9_solveAll 135 = .ok (.getfield 84, 3) := by decide +kernel
theorem dX9_solveAll_138 : decode cX9_solveAll 138 = .ok (.imul, 1) := by decide +kernel
theorem dX9_solveAll_139 : decode cX9_solveAll 139 = .ok (.laload, 1) := by decide +kernel
theorem dX9_solveAll_140 : decode cX9_solveAll 140 = .ok (.aload_n 0, 1) := by decide +kernel
theorem dX9_solveAll_141 : decode cX9_solveAll 141 = .ok (.getfield 91, 3) := by decide +kernel
theorem dX9_solveAll_144 : decode cX9_solveAll 144 = .ok (.iconst 0, 1) := by decide +kernel
theorem dX9_solveAll_145 : decode cX9_solveAll 145 = .ok (.invokestatic 162, 3) := by decide +kernel
theorem dX9_solveAll_148 : decode cX9_solveAll 148 = .ok (.lastore, 1) := by decide +kernel
theorem dX9_solveAll_149 : decode cX9_solveAll 149 = .ok (.aload_n 0, 1) := by decide +kernel
theorem dX9_solveAll_150 : decode cX9_solveAll 150 = .ok (.getfield 51, 3) := by decide +kernel
theorem dX9_solveAll_153 : decode cX9_solveAll 153 = .ok (.iload_n 2, 1) := by decide +kernel
theorem dX9_solveAll_154 : decode cX9_solveAll 154 = .ok (.aload_n 0, 1) := by decide +kernel
theorem dX9_solveAll_155 : decode cX9_solveAll 155 = .ok (.getfield 35, 3) := by decide +kernel
theorem dX9_solveAll_158 : decode cX9_solveAll 158 = .ok (.bipush 22, 2) := by decide +kernel
theorem dX9_solveAll_160 : decode cX9_solveAll 160 = .ok (.aload_n 0, 1) := by decide +kernel
theorem dX9_solveAll_161 : decode cX9_solveAll 161 = .ok (.getfield 84, 3) := by decide +kernel
theorem dX9_solveAll_164 : decode cX9_solveAll 164 = .ok (.imul, 1) := by decide +kernel
theorem dX9_solveAll_165 : decode cX9_solveAll 165 = .ok (.laload, 1) := by decide +kernel
theorem dX9_solveAll_166 : decode cX9_solveAll 166 = .ok (.aload_n 0, 1) := by decide +kernel
theorem dX9_solveAll_167 : decode cX9_solveAll 167 = .ok (.getfield 91, 3) := by decide +kernel
theorem dX9_solveAll_170 : decode cX9_solveAll 170 = .ok (.iconst 1, 1) := by decide +kernel
theorem dX9_solveAll_171 : decode cX9_solveAll 171 = .ok (.invokestatic 162, 3) := by decide +kernel
theorem dX9_solveAll_174 : decode cX9_solveAll 174 = .ok (.lastore, 1) := by decide +kernel
theorem dX9_solveAll_175 : decode cX9_solveAll 175 = .ok (.iinc 2 1, 3) := by decide +kernel
theorem dX9_solveAll_178 : decode cX9_solveAll 178 = .ok (.goto (-161), 3) := by decide +kernel
theorem dX9_solveAll_181 : decode cX9_solveAll 181 = .ok (.iconst 1, 1) := by decide +kernel
theorem dX9_solveAll_182 : decode cX9_solveAll 182 = .ok (.ireturn, 1) := by decide +kernel
set_option maxRecDepth 20000 in
theorem ggX9_solve_X9_solveAll : GoodIn wsX9_solve wsX9_solveAll := goodIn_r _ [6, 7, 8, 9, 10, 11, 12, 13, 14, 5, 15, 16, 17, 18, 19, 20, 21, 22, 23, 24, 25, 26, 27, 28, 29, 30, 31, 32, 33, 34, 35, 36, 37, 38, 39, 40, 41, 42, 43, 44, 45, 46, 47, 48, 49, 50, 51, 52, 53, 54, 55, 56, 57, 58, 59, 60, 61, 62, 63, 64, 65, 66, 67, 68, 69, 70, 71, 72, 73, 74, 75, 76, 77, 78, 79, 80, 81, 82, 83, 84, 85, 86, 87, 88, 89, 90, 91, 92, 93, 94, 95, 96, 97, 98, 99, 100, 101, 102, 103, 104, 105, 106, 107, 108, 109, 110, 111, 112, 113, 114, 115, 116, 117, 118, 119, 120, 121, 122, 123, 124, 125, 126, 127, 128, 129, 130, 131, 132, 133, 134] (by decide +kernel) (by decide +kernel)
set_option maxRecDepth 20000 in
theorem gX9_solve_X9_solveAll : GoodIn wsX9_solve (wsV RX9 166 RX9 yX9_solveAll wsX9_solveAll) := goodIn_app (goodIn_of _ (by decide +kernel)) ggX9_solve_X9_solveAll
theorem dX9_solve_0 : decode cX9_solve 0 = .ok (.aload_n 0, 1) := by decide +kernel
theorem dX9_solve_1 : decode cX9_solve 1 = .ok (.getfield 72, 3) := by decide +kernel
theorem dX9_solve_4 : decode cX9_solve 4 = .ok (.ifCond .ne 16, 3) := by decide +kernel
theorem dX9_solve_7 : decode cX9_solve 7 = .ok (.aload_n 0, 1) := by decide +kernel
theorem dX9_solve_8 : decode cX9_solve 8 = .ok (.sipush 32767, 3) := by decide +kernel
theorem dX9_solve_11 : decode cX9_solve 11 = .ok (.invokevirtual 166, 3) := by decide +kernel
theorem dX9_solve_14 : decode cX9_solve 14 = .ok (.pop, 1) := by decide +kernel
theorem dX9_solve_15 : decode cX9_solve 15 = .ok (.aload_n 0, 1) := by decide +kernel
theorem dX9_solve_16 : decode cX9_solve 16 = .ok (.iconst 1, 1) := by decide +kernel
theorem dX9_solve_17 : decode cX9_solve 17 = .ok (.putfield 72, 3) := by decide +kernel
theorem dX9_solve_20 : decode cX9_solve 20 = .ok (.return_, 1) := by decide +kernel
set_option maxRecDepth 20000 in
theorem ggX9_isPossible_X9_layRows : GoodIn wsX9_isPossible wsX9_layRows := goodIn_r _ [6, 7, 8, 9, 5, 10, 11, 12, 13, 14, 15, 16, 17, 18, 19, 20, 21, 22, 23, 24, 25, 26, 27, 28, 29, 30, 31, 32, 33, 34, 35, 36, 37, 38, 39, 40, 41, 42, 43, 44, 45, 70, 71, 72, 73, 74, 75, 76, 77, 78, 79, 80, 81, 82, 83, 84, 85, 86, 87, 88, 89, 90, 91, 92, 93, 94, 95, 96, 97, 98, 99, 100, 101, 102, 103, 104, 105] (by decide +kernel) (by decide +kernel)
set_option maxRecDepth 20000 in
theorem gX9_isPossible_X9_layRows : GoodIn wsX9_isPossible (wsV RX9 144 RX9 yX9_layRows wsX9_layRows) := goodIn_app (goodIn_of _ (by decide +kernel)) ggX9_isPossible_X9_layRows
set_option maxRecDepth 20000 in
theorem ggX9_isPossible_X9_canHold : GoodIn wsX9_isPossible wsX9_canHold := goodIn_r _ [49, 50, 51, 52, 5, 53, 14, 11, 13, 54, 55, 56, 57, 17, 58, 59, 60, 61, 16, 62, 63, 64, 65, 15, 66, 67, 68, 69, 70, 71, 72, 73, 74, 75, 76, 77, 78, 79, 80, 81, 82, 83, 84, 85, 86, 87, 88, 89, 90, 91, 92, 93, 94, 95, 96, 97, 98, 99, 100, 101, 102, 103, 104, 105] (by decide +kernel) (by decide +kernel)
set_option maxRecDepth 20000 in
theorem gX9_isPossible_X9_canHold : GoodIn wsX9_isPossible (wsV RX9 148 RX9 yX9_canHold wsX9_canHold) := goodIn_app (goodIn_of _ (by decide +kernel)) ggX9_isPossible_X9_canHold
theorem dX9_isPossible_0 : decode cX9_isPossible 0 = .ok (.aload_n 0, 1) := by decide +kernel
theorem dX9_isPossible_1 : decode cX9_isPossible 1 = .ok (.iconst 0, 1) := by decide +kernel
theorem dX9_isPossible_2 : decode cX9_isPossible 2 = .ok (.putfield 72, 3) := by decide +kernel
theorem dX9_isPossible_5 : decode cX9_isPossible 5 = .ok (.aload_n 0, 1) := by decide +kernel
theorem dX9_isPossible_6 : decode cX9_isPossible 6 = .ok (.iload_n 1, 1) := by decide +kernel
theorem dX9_isPossible_7 : decode cX9_isPossible 7 = .ok (.iconst 1, 1) := by decide +kernel
theorem dX9_isPossible_8 : decode cX9_isPossible 8 = .ok (.invokevirtual 144, 3) := by decide +kernel
theorem dX9_isPossible_11 : decode cX9_isPossible 11 = .ok (.aload_n 0, 1) := by decide +kernel
theorem dX9_isPossible_12 : decode cX9_isPossible 12 = .ok (.invokevirtual 148, 3) := by decide +kernel
theorem dX9_isPossible_15 : decode cX9_isPossible 15 = .ok (.ireturn, 1) := by decide +kernel
set_option maxRecDepth 20000 in
theorem ggX9_findLeast_X9_clearCost : GoodIn wsX9_findLeast wsX9_clearCost := goodIn_r _ [11, 12, 1, 2, 49, 50, 51, 52, 53, 54, 55, 56, 57, 58, 59, 60, 61, 62, 63, 64, 65, 66, 67, 68, 69, 70, 71, 72, 73, 74, 75, 76, 77, 78, 79, 80, 81, 82, 83, 84] (by decide +kernel) (by decide +kernel)
set_option maxRecDepth 20000 in
theorem gX9_findLeast_X9_clearCost : GoodIn wsX9_findLeast (wsV RX9 124 RX9 yX9_clearCost wsX9_clearCost) := goodIn_app (goodIn_of _ (by decide +kernel)) ggX9_findLeast_X9_clearCost
set_option maxRecDepth 20000 in
theorem ggX9_findLeast_X9_of : GoodIn wsX9_findLeast wsX9_of := goodIn_r _ [16, 17, 49, 50, 51, 52, 53, 54, 55, 56, 57, 58, 59, 60, 61, 62, 63, 64, 65, 66, 67, 68, 69, 70, 71, 72, 73, 74, 75, 76, 77, 78, 79, 80, 81, 82, 83, 84] (by decide +kernel) (by decide +kernel)
set_option maxRecDepth 20000 in
theorem gX9_findLeast_X9_of : GoodIn wsX9_findLeast (wsV RX9 80 RX9 yX9_of wsX9_of) := goodIn_app (goodIn_of _ (by decide +kernel)) ggX9_findLeast_X9_of
set_option maxRecDepth 20000 in
theorem ggX9_findLeast_X9_addCost : GoodIn wsX9_findLeast wsX9_addCost := goodIn_r _ [21, 2, 12, 22, 1, 23, 4, 49, 50, 51, 52, 53, 54, 55, 56, 57, 58, 59, 60, 61, 62, 63, 64, 65, 66, 67, 68, 69, 70, 71, 72, 73, 74, 75, 76, 77, 78, 79, 80, 81, 82, 83, 84] (by decide +kernel) (by decide +kernel)
set_option maxRecDepth 20000 in
theorem gX9_findLeast_X9_addCost : GoodIn wsX9_findLeast (wsV RX9 152 RX9 yX9_addCost wsX9_addCost) := goodIn_app (goodIn_of _ (by decide +kernel)) ggX9_findLeast_X9_addCost
set_option maxRecDepth 20000 in
theorem ggX9_findLeast_X9_lessen : GoodIn wsX9_findLeast wsX9_lessen := goodIn_r _ [27, 28, 29, 30, 10, 31, 12, 32, 23, 1, 2, 33, 34, 35, 36, 37, 22, 38, 39, 40, 41, 4, 42, 43, 44, 45, 49, 50, 51, 52, 53, 54, 55, 56, 57, 58, 59, 60, 61, 62, 63, 64, 65, 66, 67, 68, 69, 70, 71, 72, 73, 74, 75, 76, 77, 78, 79, 80, 81, 82, 83, 84] (by decide +kernel) (by decide +kernel)
set_option maxRecDepth 20000 in
theorem gX9_findLeast_X9_lessen : GoodIn wsX9_findLeast (wsV RX9 156 RX9 yX9_lessen wsX9_lessen) := goodIn_app (goodIn_of _ (by decide +kernel)) ggX9_findLeast_X9_lessen
set_option maxRecDepth 20000 in
theorem ggX9_findLeast_X9_part : GoodIn wsX9_findLeast wsX9_part := goodIn_r _ [48] (by decide +kernel) (by decide +kernel)
set_option maxRecDepth 20000 in
theorem gX9_findLeast_X9_part : GoodIn wsX9_findLeast (va_wsS RX9 162 yX9_part wsX9_part) := goodIn_app (goodIn_of _ (by decide +kernel)) ggX9_findLeast_X9_part
theorem dX9_findLeast_0 : decode cX9_findLeast 0 = .ok (.aload_n 0, 1) := by decide +kernel
theorem dX9_findLeast_1 : decode cX9_findLeast 1 = .ok (.invokevirtual 124, 3) := by decide +kernel
theorem dX9_findLeast_4 : decode cX9_findLeast 4 = .ok (.iconst 0, 1) := by decide +kernel
theorem dX9_findLeast_5 : decode cX9_findLeast 5 = .ok (.istore 4, 2) := by decide +kernel
theorem dX9_findLeast_7 : decode cX9_findLeast 7 = .ok (.iconst 0, 1) := by decide +kernel
theorem dX9_findLeast_8 : decode cX9_findLeast 8 = .ok (.istore 5, 2) := by decide +kernel
theorem dX9_findLeast_10 : decode cX9_findLeast 10 = .ok (.iload 5, 2) := by decide +kernel
theorem dX9_findLeast_12 : decode cX9_findLeast 12 = .ok (.bipush 6, 2) := by decide +kernel
theorem dX9_findLeast_14 : decode cX9_findLeast 14 = .ok (.if_icmp .ge 55, 3) := by decide +kernel
theorem dX9_findLeast_17 : decode cX9_findLeast 17 = .ok (.iload_n 2, 1) := by decide +kernel
theorem dX9_findLeast_18 : decode cX9_findLeast 18 = .ok (.ifCond .lt 17, 3) := by decide +kernel
theorem dX9_findLeast_21 : decode cX9_findLeast 21 = .ok (.iload 5, 2) := by decide +kernel
theorem dX9_findLeast_23 : decode cX9_findLeast 23 = .ok (.iload_n 2, 1) := by decide +kernel
theorem dX9_findLeast_24 : decode cX9_findLeast 24 = .ok (.if_icmp .ne 7, 3) := by decide +kernel
theorem dX9_findLeast_27 : decode cX9_findLeast 27 = .ok (.iconst 1, 1) := by decide +kernel
theorem dX9_findLeast_28 : decode cX9_findLeast 28 = .ok (.goto 14, 3) := by decide +kernel
theorem dX9_findLeast_31 : decode cX9_findLeast 31 = .ok (.iconst 0, 1) := by decide +kernel
theorem dX9_findLeast_32 : decode cX9_findLeast 32 = .ok (.goto 10, 3) := by decide +kernel
theorem dX9_findLeast_35 : decode cX9_findLeast 35 = .ok (.aload_n 0, 1) := by decide +kernel
theorem dX9_findLeast_36 : decode cX9_findLeast 36 = .ok (.iload_n 1, 1) := by decide +kernel
theorem dX9_findLeast_37 : decode cX9_findLeast 37 = .ok (.iload 5, 2) := by decide +kernel
theorem dX9_findLeast_39 : decode cX9_findLeast 39 = .ok (.invokevirtual 80, 3) := by decide +kernel
theorem dX9_findLeast_42 : decode cX9_findLeast 42 = .ok (.istore 6, 2) := by decide +kernel
theorem dX9_findLeast_44 : decode cX9_findLeast 44 = .ok (.iload 4, 2) := by decide +kernel
theorem dX9_findLeast_46 : decode cX9_findLeast 46 = .ok (.iload 6, 2) := by decide +kernel
theorem dX9_findLeast_48 : decode cX9_findLeast 48 = .ok (.iadd, 1) := by decide +kernel
theorem dX9_findLeast_49 : decode cX9_findLeast 49 = .ok (.istore 4, 2) := by decide +kernel
theorem dX9_findLeast_51 : decode cX9_findLeast 51 = .ok (.aload_n 0, 1) := by decide +kernel
theorem dX9_findLeast_52 : decode cX9_findLeast 52 = .ok (.iload 5, 2) := by decide +kernel
theorem dX9_findLeast_54 : decode cX9_findLeast 54 = .ok (.iload_n 3, 1) := by decide +kernel
theorem dX9_findLeast_55 : decode cX9_findLeast 55 = .ok (.i2l, 1) := by decide +kernel
theorem dX9_findLeast_56 : decode cX9_findLeast 56 = .ok (.iload 6, 2) := by decide +kernel
theorem dX9_findLeast_58 : decode cX9_findLeast 58 = .ok (.i2l, 1) := by decide +kernel
theorem dX9_findLeast_59 : decode cX9_findLeast 59 = .ok (.lmul, 1) := by decide +kernel
theorem dX9_findLeast_60 : decode cX9_findLeast 60 = .ok (.invokevirtual 152, 3) := by decide +kernel
theorem dX9_findLeast_63 : decode cX9_findLeast 63 = .ok (.iinc 5 1, 3) := by decide +kernel
theorem dX9_findLeast_66 : decode cX9_findLeast 66 = .ok (.goto (-56), 3) := by decide +kernel
theorem dX9_findLeast_69 : decode cX9_findLeast 69 = .ok (.aload_n 0, 1) := by decide +kernel
theorem dX9_findLeast_70 : decode cX9_findLeast 70 = .ok (.invokevirtual 156, 3) := by decide +kernel
theorem dX9_findLeast_73 : decode cX9_findLeast 73 = .ok (.iload_n 3, 1) := by decide +kernel
theorem dX9_findLeast_74 : decode cX9_findLeast 74 = .ok (.i2l, 1) := by decide +kernel
theorem dX9_findLeast_75 : decode cX9_findLeast 75 = .ok (.aload_n 0, 1) := by decide +kernel
theorem dX9_findLeast_76 : decode cX9_findLeast 76 = .ok (.getfield 35, 3) := by decide +kernel
theorem dX9_findLeast_79 : decode cX9_findLeast 79 = .ok (.bipush 22, 2) := by decide +kernel
theorem dX9_findLeast_81 : decode cX9_findLeast 81 = .ok (.aload_n 0, 1) := by decide +kernel
theorem dX9_findLeast_82 : decode cX9_findLeast 82 = .ok (.getfield 84, 3) := by decide +kernel
theorem dX9_findLeast_85 : decode cX9_findLeast 85 = .ok (.imul, 1) := by decide +kernel
theorem dX9_findLeast_86 : decode cX9_findLeast 86 = .ok (.laload, 1) := by decide +kernel
theorem dX9_findLeast_87 : decode cX9_findLeast 87 = .ok (.lmul, 1) := by decide +kernel
theorem dX9_findLeast_88 : decode cX9_findLeast 88 = .ok (.ldc2_w 169, 3) := by decide +kernel
theorem dX9_findLeast_91 : decode cX9_findLeast 91 = .ok (.iload 4, 2) := by decide +kernel
theorem dX9_findLeast_93 : decode cX9_findLeast 93 = .ok (.i2l, 1) := by decide +kernel
theorem dX9_findLeast_94 : decode cX9_findLeast 94 = .ok (.lmul, 1) := by decide +kernel
theorem dX9_findLeast_95 : decode cX9_findLeast 95 = .ok (.aload_n 0, 1) := by decide +kernel
theorem dX9_findLeast_96 : decode cX9_findLeast 96 = .ok (.getfield 91, 3) := by decide +kernel
theorem dX9_findLeast_99 : decode cX9_findLeast 99 = .ok (.lmul, 1) := by decide +kernel
theorem dX9_findLeast_100 : decode cX9_findLeast 100 = .ok (.lsub, 1) := by decide +kernel
theorem dX9_findLeast_101 : decode cX9_findLeast 101 = .ok (.lstore 5, 2) := by decide +kernel
theorem dX9_findLeast_103 : decode cX9_findLeast 103 = .ok (.aload_n 0, 1) := by decide +kernel
theorem dX9_findLeast_104 : decode cX9_findLeast 104 = .ok (.lload 5, 2) := by decide +kernel
theorem dX9_findLeast_106 : decode cX9_findLeast 106 = .ok (.aload_n 0, 1) := by decide +kernel
theorem dX9_findLeast_107 : decode cX9_findLeast 107 = .ok (.getfield 91, 3) := by decide +kernel
theorem dX9_findLeast_110 : decode cX9_findLeast 110 = .ok (.iconst 0, 1) := by decide +kernel
theorem dX9_findLeast_111 : decode cX9_findLeast 111 = .ok (.invokestatic 162, 3) := by decide +kernel
theorem dX9_findLeast_114 : decode cX9_findLeast 114 = .ok (.putfield 171, 3) := by decide +kernel
theorem dX9_findLeast_117 : decode cX9_findLeast 117 = .ok (.aload_n 0, 1) := by decide +kernel
theorem dX9_findLeast_118 : decode cX9_findLeast 118 = .ok (.lload 5, 2) := by decide +kernel
theorem dX9_findLeast_120 : decode cX9_findLeast 120 = .ok (.aload_n 0, 1) := by decide +kernel
theorem dX9_findLeast_121 : decode cX9_findLeast 121 = .ok (.getfield 91, 3) := by decide +kernel
theorem dX9_findLeast_124 : decode cX9_findLeast 124 = .ok (.iconst 1, 1) := by decide +kernel
theorem dX9_findLeast_125 : decode cX9_findLeast 125 = .ok (.invokestatic 162, 3) := by decide +kernel
theorem dX9_findLeast_128 : decode cX9_findLeast 128 = .ok (.putfield 174, 3) := by decide +kernel
theorem dX9_findLeast_131 : decode cX9_findLeast 131 = .ok (.return_, 1) := by decide +kernel
theorem dX9_found_0 : decode cX9_found 0 = .ok (.iload_n 1, 1) := by decide +kernel
theorem dX9_found_1 : decode cX9_found 1 = .ok (.ifCond .ne 10, 3) := by decide +kernel
theorem dX9_found_4 : decode cX9_found 4 = .ok (.aload_n 0, 1) := by decide +kernel
theorem dX9_found_5 : decode cX9_found 5 = .ok (.getfield 171, 3) := by decide +kernel
theorem dX9_found_8 : decode cX9_found 8 = .ok (.goto 7, 3) := by decide +kernel
theorem dX9_found_11 : decode cX9_found 11 = .ok (.aload_n 0, 1) := by decide +kernel
theorem dX9_found_12 : decode cX9_found 12 = .ok (.getfield 174, 3) := by decide +kernel
theorem dX9_found_15 : decode cX9_found 15 = .ok (.lreturn, 1) := by decide +kernel
theorem dX9_copyOut_0 : decode cX9_copyOut 0 = .ok (.iconst 0, 1) := by decide +kernel
theorem dX9_copyOut_1 : decode cX9_copyOut 1 = .ok (.istore 4, 2) := by decide +kernel
theorem dX9_copyOut_3 : decode cX9_copyOut 3 = .ok (.iload 4, 2) := by decide +kernel
theorem dX9_copyOut_5 : decode cX9_copyOut 5 = .ok (.bipush 11, 2) := by decide +kernel
theorem dX9_copyOut_7 : decode cX9_copyOut 7 = .ok (.if_icmp .ge 27, 3) := by decide +kernel
theorem dX9_copyOut_10 : decode cX9_copyOut 10 = .ok (.aload_n 2, 1) := by decide +kernel
theorem dX9_copyOut_11 : decode cX9_copyOut 11 = .ok (.iload_n 3, 1) := by decide +kernel
theorem dX9_copyOut_12 : decode cX9_copyOut 12 = .ok (.iload 4, 2) := by decide +kernel
theorem dX9_copyOut_14 : decode cX9_copyOut 14 = .ok (.iadd, 1) := by decide +kernel
theorem dX9_copyOut_15 : decode cX9_copyOut 15 = .ok (.aload_n 0, 1) := by decide +kernel
theorem dX9_copyOut_16 : decode cX9_copyOut 16 = .ok (.getfield 7, 3) := by decide +kernel
theorem dX9_copyOut_19 : decode cX9_copyOut 19 = .ok (.bipush 11, 2) := by decide +kernel
theorem dX9_copyOut_21 : decode cX9_copyOut 21 = .ok (.iload_n 1, 1) := by decide +kernel
theorem dX9_copyOut_22 : decode cX9_copyOut 22 = .ok (.imul, 1) := by decide +kernel
theorem dX9_copyOut_23 : decode cX9_copyOut 23 = .ok (.iload 4, 2) := by decide +kernel
theorem dX9_copyOut_25 : decode cX9_copyOut 25 = .ok (.iadd, 1) := by decide +kernel
theorem dX9_copyOut_26 : decode cX9_copyOut 26 = .ok (.iaload, 1) := by decide +kernel
theorem dX9_copyOut_27 : decode cX9_copyOut 27 = .ok (.iastore, 1) := by decide +kernel
theorem dX9_copyOut_28 : decode cX9_copyOut 28 = .ok (.iinc 4 1, 3) := by decide +kernel
theorem dX9_copyOut_31 : decode cX9_copyOut 31 = .ok (.goto (-28), 3) := by decide +kernel
theorem dX9_copyOut_34 : decode cX9_copyOut 34 = .ok (.return_, 1) := by decide +kernel
theorem dX9_copyIn_0 : decode cX9_copyIn 0 = .ok (.iconst 0, 1) := by decide +kernel
theorem dX9_copyIn_1 : decode cX9_copyIn 1 = .ok (.istore 4, 2) := by decide +kernel
theorem dX9_copyIn_3 : decode cX9_copyIn 3 = .ok (.iload 4, 2) := by decide +kernel
theorem dX9_copyIn_5 : decode cX9_copyIn 5 = .ok (.bipush 11, 2) := by decide +kernel
theorem dX9_copyIn_7 : decode cX9_copyIn 7 = .ok (.if_icmp .ge 27, 3) := by decide +kernel
theorem dX9_copyIn_10 : decode cX9_copyIn 10 = .ok (.aload_n 0, 1) := by decide +kernel
theorem dX9_copyIn_11 : decode cX9_copyIn 11 = .ok (.getfield 7, 3) := by decide +kernel
theorem dX9_copyIn_14 : decode cX9_copyIn 14 = .ok (.bipush 11, 2) := by decide +kernel
theorem dX9_copyIn_16 : decode cX9_copyIn 16 = .ok (.iload_n 1, 1) := by decide +kernel
theorem dX9_copyIn_17 : decode cX9_copyIn 17 = .ok (.imul, 1) := by decide +kernel
theorem dX9_copyIn_18 : decode cX9_copyIn 18 = .ok (.iload 4, 2) := by decide +kernel
theorem dX9_copyIn_20 : decode cX9_copyIn 20 = .ok (.iadd, 1) := by decide +kernel
theorem dX9_copyIn_21 : decode cX9_copyIn 21 = .ok (.aload_n 2, 1) := by decide +kernel
theorem dX9_copyIn_22 : decode cX9_copyIn 22 = .ok (.iload_n 3, 1) := by decide +kernel
theorem dX9_copyIn_23 : decode cX9_copyIn 23 = .ok (.iload 4, 2) := by decide +kernel
theorem dX9_copyIn_25 : decode cX9_copyIn 25 = .ok (.iadd, 1) := by decide +kernel
theorem dX9_copyIn_26 : decode cX9_copyIn 26 = .ok (.iaload, 1) := by decide +kernel
theorem dX9_copyIn_27 : decode cX9_copyIn 27 = .ok (.iastore, 1) := by decide +kernel
theorem dX9_copyIn_28 : decode cX9_copyIn 28 = .ok (.iinc 4 1, 3) := by decide +kernel
theorem dX9_copyIn_31 : decode cX9_copyIn 31 = .ok (.goto (-28), 3) := by decide +kernel
theorem dX9_copyIn_34 : decode cX9_copyIn 34 = .ok (.aload_n 0, 1) := by decide +kernel
theorem dX9_copyIn_35 : decode cX9_copyIn 35 = .ok (.iconst 0, 1) := by decide +kernel
theorem dX9_copyIn_36 : decode cX9_copyIn 36 = .ok (.putfield 72, 3) := by decide +kernel
theorem dX9_copyIn_39 : decode cX9_copyIn 39 = .ok (.return_, 1) := by decide +kernel
set_option maxRecDepth 20000 in
theorem ggX9_keep_X9_copyOut : GoodIn wsX9_keep wsX9_copyOut := goodIn_r _ [6, 7, 8, 9, 10, 11, 12, 13, 14, 15, 16, 17, 18, 19, 20, 21, 22, 23, 24, 25, 26, 27, 28, 29, 30, 31, 32, 33, 34, 35, 36, 37, 38, 39, 40, 41, 42, 43] (by decide +kernel) (by decide +kernel)
set_option maxRecDepth 20000 in
theorem gX9_keep_X9_copyOut : GoodIn wsX9_keep (wsV RX9 177 RX9 yX9_copyOut wsX9_copyOut) := goodIn_app (goodIn_of _ (by decide +kernel)) ggX9_keep_X9_copyOut
theorem dX9_keep_0 : decode cX9_keep 0 = .ok (.aload_n 0, 1) := by decide +kernel
theorem dX9_keep_1 : decode cX9_keep 1 = .ok (.iload_n 1, 1) := by decide +kernel
theorem dX9_keep_2 : decode cX9_keep 2 = .ok (.aload_n 0, 1) := by decide +kernel
theorem dX9_keep_3 : decode cX9_keep 3 = .ok (.getfield 54, 3) := by decide +kernel
theorem dX9_keep_6 : decode cX9_keep 6 = .ok (.iconst 0, 1) := by decide +kernel
theorem dX9_keep_7 : decode cX9_keep 7 = .ok (.invokevirtual 177, 3) := by decide +kernel
theorem dX9_keep_10 : decode cX9_keep 10 = .ok (.return_, 1) := by decide +kernel
set_option maxRecDepth 20000 in
theorem ggX9_note_X9_copyOut : GoodIn wsX9_note wsX9_copyOut := goodIn_r _ [12, 13, 14, 15, 16, 17, 18, 19, 20, 21, 22, 23, 24, 25, 26, 27, 28, 29, 30, 31, 32, 33, 34, 35, 36, 37, 38, 39, 40, 41, 42, 43, 44, 45, 46, 47, 48, 49] (by decide +kernel) (by decide +kernel)
set_option maxRecDepth 20000 in
theorem gX9_note_X9_copyOut : GoodIn wsX9_note (wsV RX9 177 RX9 yX9_copyOut wsX9_copyOut) := goodIn_app (goodIn_of _ (by decide +kernel)) ggX9_note_X9_copyOut
theorem dX9_note_0 : decode cX9_note 0 = .ok (.aload_n 0, 1) := by decide +kernel
theorem dX9_note_1 : decode cX9_note 1 = .ok (.getfield 181, 3) := by decide +kernel
theorem dX9_note_4 : decode cX9_note 4 = .ok (.bipush 20, 2) := by decide +kernel
theorem dX9_note_6 : decode cX9_note 6 = .ok (.if_icmp .ne 87, 3) := by decide +kernel
theorem dX9_note_9 : decode cX9_note 9 = .ok (.iconst 1, 1) := by decide +kernel
theorem dX9_note_10 : decode cX9_note 10 = .ok (.istore_n 2, 1) := by decide +kernel
theorem dX9_note_11 : decode cX9_note 11 = .ok (.iload_n 2, 1) := by decide +kernel
theorem dX9_note_12 : decode cX9_note 12 = .ok (.bipush 20, 2) := by decide +kernel
theorem dX9_note_14 : decode cX9_note 14 = .ok (.if_icmp .ge 23, 3) := by decide +kernel
theorem dX9_note_17 : decode cX9_note 17 = .ok (.aload_n 0, 1) := by decide +kernel
theorem dX9_note_18 : decode cX9_note 18 = .ok (.getfield 26, 3) := by decide +kernel
theorem dX9_note_21 : decode cX9_note 21 = .ok (.iload_n 2, 1) := by decide +kernel
theorem dX9_note_22 : decode cX9_note 22 = .ok (.iconst 1, 1) := by decide +kernel
theorem dX9_note_23 : decode cX9_note 23 = .ok (.isub, 1) := by decide +kernel
theorem dX9_note_24 : decode cX9_note 24 = .ok (.aload_n 0, 1) := by decide +kernel
theorem dX9_note_25 : decode cX9_note 25 = .ok (.getfield 26, 3) := by decide +kernel
theorem dX9_note_28 : decode cX9_note 28 = .ok (.iload_n 2, 1) := by decide +kernel
theorem dX9_note_29 : decode cX9_note 29 = .ok (.iaload, 1) := by decide +kernel
theorem dX9_note_30 : decode cX9_note 30 = .ok (.iastore, 1) := by decide +kernel
theorem dX9_note_31 : decode cX9_note 31 = .ok (.iinc 2 1, 3) := by decide +kernel
theorem dX9_note_34 : decode cX9_note 34 = .ok (.goto (-23), 3) := by decide +kernel
theorem dX9_note_37 : decode cX9_note 37 = .ok (.bipush 11, 2) := by decide +kernel
theorem dX9_note_39 : decode cX9_note 39 = .ok (.istore_n 2, 1) := by decide +kernel
theorem dX9_note_40 : decode cX9_note 40 = .ok (.iload_n 2, 1) := by decide +kernel
theorem dX9_note_41 : decode cX9_note 41 = .ok (.sipush 220, 3) := by decide +kernel
theorem dX9_note_44 : decode cX9_note 44 = .ok (.if_icmp .ge 39, 3) := by decide +kernel
theorem dX9_note_47 : decode cX9_note 47 = .ok (.aload_n 0, 1) := by decide +kernel
theorem dX9_note_48 : decode cX9_note 48 = .ok (.getfield 29, 3) := by decide +kernel
theorem dX9_note_51 : decode cX9_note 51 = .ok (.iload_n 2, 1) := by decide +kernel
theorem dX9_note_52 : decode cX9_note 52 = .ok (.bipush 11, 2) := by decide +kernel
theorem dX9_note_54 : decode cX9_note 54 = .ok (.isub, 1) := by decide +kernel
theorem dX9_note_55 : decode cX9_note 55 = .ok (.aload_n 0, 1) := by decide +kernel
theorem dX9_note_56 : decode cX9_note 56 = .ok (.getfield 29, 3) := by decide +kernel
theorem dX9_note_59 : decode cX9_note 59 = .ok (.iload_n 2, 1) := by decide +kernel
theorem dX9_note_60 : decode cX9_note 60 = .ok (.iaload, 1) := by decide +kernel
theorem dX9_note_61 : decode cX9_note 61 = .ok (.iastore, 1) := by decide +kernel
theorem dX9_note_62 : decode cX9_note 62 = .ok (.aload_n 0, 1) := by decide +kernel
theorem dX9_note_63 : decode cX9_note 63 = .ok (.getfield 32, 3) := by decide +kernel
theorem dX9_note_66 : decode cX9_note 66 = .ok (.iload_n 2, 1) := by decide +kernel
theorem dX9_note_67 : decode cX9_note 67 = .ok (.bipush 11, 2) := by decide +kernel
theorem dX9_note_69 : decode cX9_note 69 = .ok (.isub, 1) := by decide +kernel
theorem dX9_note_70 : decode cX9_note 70 = .ok (.aload_n 0, 1) := by decide +kernel
theorem dX9_note_71 : decode cX9_note 71 = .ok (.getfield 32, 3) := by decide +kernel
theorem dX9_note_74 : decode cX9_note 74 = .ok (.iload_n 2, 1) := by decide +kernel
theorem dX9_note_75 : decode cX9_note 75 = .ok (.iaload, 1) := by decide +kernel
theorem dX9_note_76 : decode cX9_note 76 = .ok (.iastore, 1) := by decide +kernel
theorem dX9_note_77 : decode cX9_note 77 = .ok (.iinc 2 1, 3) := by decide +kernel
theorem dX9_note_80 : decode cX9_note 80 = .ok (.goto (-40), 3) := by decide +kernel
theorem dX9_note_83 : decode cX9_note 83 = .ok (.aload_n 0, 1) := by decide +kernel
theorem dX9_note_84 : decode cX9_note 84 = .ok (.dup, 1) := by decide +kernel
theorem dX9_note_85 : decode cX9_note 85 = .ok (.getfield 181, 3) := by decide +kernel
theorem dX9_note_88 : decode cX9_note 88 = .ok (.iconst 1, 1) := by decide +kernel
theorem dX9_note_89 : decode cX9_note 89 = .ok (.isub, 1) := by decide +kernel
theorem dX9_note_90 : decode cX9_note 90 = .ok (.putfield 181, 3) := by decide +kernel
theorem dX9_note_93 : decode cX9_note 93 = .ok (.aload_n 0, 1) := by decide +kernel
theorem dX9_note_94 : decode cX9_note 94 = .ok (.getfield 26, 3) := by decide +kernel
theorem dX9_note_97 : decode cX9_note 97 = .ok (.aload_n 0, 1) := by decide +kernel
theorem dX9_note_98 : decode cX9_note 98 = .ok (.getfield 181, 3) := by decide +kernel
theorem dX9_note_101 : decode cX9_note 101 = .ok (.iload_n 1, 1) := by decide +kernel
theorem dX9_note_102 : decode cX9_note 102 = .ok (.iastore, 1) := by decide +kernel
theorem dX9_note_103 : decode cX9_note 103 = .ok (.iconst 0, 1) := by decide +kernel
theorem dX9_note_104 : decode cX9_note 104 = .ok (.istore_n 2, 1) := by decide +kernel
theorem dX9_note_105 : decode cX9_note 105 = .ok (.iload_n 2, 1) := by decide +kernel
theorem dX9_note_106 : decode cX9_note 106 = .ok (.bipush 11, 2) := by decide +kernel
theorem dX9_note_108 : decode cX9_note 108 = .ok (.if_icmp .ge 29, 3) := by decide +kernel
theorem dX9_note_111 : decode cX9_note 111 = .ok (.aload_n 0, 1) := by decide +kernel
theorem dX9_note_112 : decode cX9_note 112 = .ok (.getfield 29, 3) := by decide +kernel
theorem dX9_note_115 : decode cX9_note 115 = .ok (.bipush 11, 2) := by decide +kernel
theorem dX9_note_117 : decode cX9_note 117 = .ok (.aload_n 0, 1) := by decide +kernel
theorem dX9_note_118 : decode cX9_note 118 = .ok (.getfield 181, 3) := by decide +kernel
theorem dX9_note_121 : decode cX9_note 121 = .ok (.imul, 1) := by decide +kernel
theorem dX9_note_122 : decode cX9_note 122 = .ok (.iload_n 2, 1) := by decide +kernel
theorem dX9_note_123 : decode cX9_note 123 = .ok (.iadd, 1) := by decide +kernel
theorem dX9_note_124 : decode cX9_note 124 = .ok (.aload_n 0, 1) := by decide +kernel
theorem dX9_note_125 : decode cX9_note 125 = .ok (.getfield 54, 3) := by decide +kernel
theorem dX9_note_128 : decode cX9_note 128 = .ok (.iload_n 2, 1) := by decide +kernel
theorem dX9_note_129 : decode cX9_note 129 = .ok (.iaload, 1) := by decide +kernel
theorem dX9_note_130 : decode cX9_note 130 = .ok (.iastore, 1) := by decide +kernel
theorem dX9_note_131 : decode cX9_note 131 = .ok (.iinc 2 1, 3) := by decide +kernel
theorem dX9_note_134 : decode cX9_note 134 = .ok (.goto (-29), 3) := by decide +kernel
theorem dX9_note_137 : decode cX9_note 137 = .ok (.aload_n 0, 1) := by decide +kernel
theorem dX9_note_138 : decode cX9_note 138 = .ok (.iload_n 1, 1) := by decide +kernel
theorem dX9_note_139 : decode cX9_note 139 = .ok (.aload_n 0, 1) := by decide +kernel
theorem dX9_note_140 : decode cX9_note 140 = .ok (.getfield 32, 3) := by decide +kernel
theorem dX9_note_143 : decode cX9_note 143 = .ok (.bipush 11, 2) := by decide +kernel
theorem dX9_note_145 : decode cX9_note 145 = .ok (.aload_n 0, 1) := by decide +kernel
theorem dX9_note_146 : decode cX9_note 146 = .ok (.getfield 181, 3) := by decide +kernel
theorem dX9_note_149 : decode cX9_note 149 = .ok (.imul, 1) := by decide +kernel
theorem dX9_note_150 : decode cX9_note 150 = .ok (.invokevirtual 177, 3) := by decide +kernel
theorem dX9_note_153 : decode cX9_note 153 = .ok (.aload_n 0, 1) := by decide +kernel
theorem dX9_note_154 : decode cX9_note 154 = .ok (.dup, 1) := by decide +kernel
theorem dX9_note_155 : decode cX9_note 155 = .ok (.getfield 181, 3) := by decide +kernel
theorem dX9_note_158 : decode cX9_note 158 = .ok (.iconst 1, 1) := by decide +kernel
theorem dX9_note_159 : decode cX9_note 159 = .ok (.iadd, 1) := by decide +kernel
theorem dX9_note_160 : decode cX9_note 160 = .ok (.putfield 181, 3) := by decide +kernel
theorem dX9_note_163 : decode cX9_note 163 = .ok (.aload_n 0, 1) := by decide +kernel
theorem dX9_note_164 : decode cX9_note 164 = .ok (.iconst 0, 1) := by decide +kernel
theorem dX9_note_165 : decode cX9_note 165 = .ok (.putfield 184, 3) := by decide +kernel
theorem dX9_note_168 : decode cX9_note 168 = .ok (.aload_n 0, 1) := by decide +kernel
theorem dX9_note_169 : decode cX9_note 169 = .ok (.iconst 0, 1) := by decide +kernel
theorem dX9_note_170 : decode cX9_note 170 = .ok (.putfield 72, 3) := by decide +kernel
theorem dX9_note_173 : decode cX9_note 173 = .ok (.return_, 1) := by decide +kernel
theorem dX9_put_0 : decode cX9_put 0 = .ok (.iconst 0, 1) := by decide +kernel
theorem dX9_put_1 : decode cX9_put 1 = .ok (.istore 7, 2) := by decide +kernel
theorem dX9_put_3 : decode cX9_put 3 = .ok (.iload 7, 2) := by decide +kernel
theorem dX9_put_5 : decode cX9_put 5 = .ok (.bipush 6, 2) := by decide +kernel
theorem dX9_put_7 : decode cX9_put 7 = .ok (.if_icmp .ge 25, 3) := by decide +kernel
theorem dX9_put_10 : decode cX9_put 10 = .ok (.aload_n 0, 1) := by decide +kernel
theorem dX9_put_11 : decode cX9_put 11 = .ok (.getfield 7, 3) := by decide +kernel
theorem dX9_put_14 : decode cX9_put 14 = .ok (.bipush 11, 2) := by decide +kernel
theorem dX9_put_16 : decode cX9_put 16 = .ok (.iload_n 1, 1) := by decide +kernel
theorem dX9_put_17 : decode cX9_put 17 = .ok (.imul, 1) := by decide +kernel
theorem dX9_put_18 : decode cX9_put 18 = .ok (.iload 7, 2) := by decide +kernel
theorem dX9_put_20 : decode cX9_put 20 = .ok (.iadd, 1) := by decide +kernel
theorem dX9_put_21 : decode cX9_put 21 = .ok (.aload_n 2, 1) := by decide +kernel
theorem dX9_put_22 : decode cX9_put 22 = .ok (.iload 7, 2) := by decide +kernel
theorem dX9_put_24 : decode cX9_put 24 = .ok (.iaload, 1) := by decide +kernel
theorem dX9_put_25 : decode cX9_put 25 = .ok (.iastore, 1) := by decide +kernel
theorem dX9_put_26 : decode cX9_put 26 = .ok (.iinc 7 1, 3) := by decide +kernel
theorem dX9_put_29 : decode cX9_put 29 = .ok (.goto (-26), 3) := by decide +kernel
theorem dX9_put_32 : decode cX9_put 32 = .ok (.aload_n 0, 1) := by decide +kernel
theorem dX9_put_33 : decode cX9_put 33 = .ok (.getfield 7, 3) := by decide +kernel
theorem dX9_put_36 : decode cX9_put 36 = .ok (.bipush 11, 2) := by decide +kernel
theorem dX9_put_38 : decode cX9_put 38 = .ok (.iload_n 1, 1) := by decide +kernel
theorem dX9_put_39 : decode cX9_put 39 = .ok (.imul, 1) := by decide +kernel
theorem dX9_put_40 : decode cX9_put 40 = .ok (.bipush 6, 2) := by decide +kernel
theorem dX9_put_42 : decode cX9_put 42 = .ok (.iadd, 1) := by decide +kernel
theorem dX9_put_43 : decode cX9_put 43 = .ok (.iload_n 3, 1) := by decide +kernel
theorem dX9_put_44 : decode cX9_put 44 = .ok (.iastore, 1) := by decide +kernel
theorem dX9_put_45 : decode cX9_put 45 = .ok (.aload_n 0, 1) := by decide +kernel
theorem dX9_put_46 : decode cX9_put 46 = .ok (.getfield 7, 3) := by decide +kernel
theorem dX9_put_49 : decode cX9_put 49 = .ok (.bipush 11, 2) := by decide +kernel
theorem dX9_put_51 : decode cX9_put 51 = .ok (.iload_n 1, 1) := by decide +kernel
theorem dX9_put_52 : decode cX9_put 52 = .ok (.imul, 1) := by decide +kernel
theorem dX9_put_53 : decode cX9_put 53 = .ok (.bipush 7, 2) := by decide +kernel
theorem dX9_put_55 : decode cX9_put 55 = .ok (.iadd, 1) := by decide +kernel
theorem dX9_put_56 : decode cX9_put 56 = .ok (.iload 4, 2) := by decide +kernel
theorem dX9_put_58 : decode cX9_put 58 = .ok (.iastore, 1) := by decide +kernel
theorem dX9_put_59 : decode cX9_put 59 = .ok (.aload_n 0, 1) := by decide +kernel
theorem dX9_put_60 : decode cX9_put 60 = .ok (.getfield 7, 3) := by decide +kernel
theorem dX9_put_63 : decode cX9_put 63 = .ok (.bipush 11, 2) := by decide +kernel
theorem dX9_put_65 : decode cX9_put 65 = .ok (.iload_n 1, 1) := by decide +kernel
theorem dX9_put_66 : decode cX9_put 66 = .ok (.imul, 1) := by decide +kernel
theorem dX9_put_67 : decode cX9_put 67 = .ok (.bipush 8, 2) := by decide +kernel
theorem dX9_put_69 : decode cX9_put 69 = .ok (.iadd, 1) := by decide +kernel
theorem dX9_put_70 : decode cX9_put 70 = .ok (.iload 5, 2) := by decide +kernel
theorem dX9_put_72 : decode cX9_put 72 = .ok (.iastore, 1) := by decide +kernel
theorem dX9_put_73 : decode cX9_put 73 = .ok (.aload_n 0, 1) := by decide +kernel
theorem dX9_put_74 : decode cX9_put 74 = .ok (.getfield 7, 3) := by decide +kernel
theorem dX9_put_77 : decode cX9_put 77 = .ok (.bipush 11, 2) := by decide +kernel
theorem dX9_put_79 : decode cX9_put 79 = .ok (.iload_n 1, 1) := by decide +kernel
theorem dX9_put_80 : decode cX9_put 80 = .ok (.imul, 1) := by decide +kernel
theorem dX9_put_81 : decode cX9_put 81 = .ok (.bipush 9, 2) := by decide +kernel
theorem dX9_put_83 : decode cX9_put 83 = .ok (.iadd, 1) := by decide +kernel
theorem dX9_put_84 : decode cX9_put 84 = .ok (.iload 6, 2) := by decide +kernel
theorem dX9_put_86 : decode cX9_put 86 = .ok (.iastore, 1) := by decide +kernel
theorem dX9_put_87 : decode cX9_put 87 = .ok (.aload_n 0, 1) := by decide +kernel
theorem dX9_put_88 : decode cX9_put 88 = .ok (.getfield 7, 3) := by decide +kernel
theorem dX9_put_91 : decode cX9_put 91 = .ok (.bipush 11, 2) := by decide +kernel
theorem dX9_put_93 : decode cX9_put 93 = .ok (.iload_n 1, 1) := by decide +kernel
theorem dX9_put_94 : decode cX9_put 94 = .ok (.imul, 1) := by decide +kernel
theorem dX9_put_95 : decode cX9_put 95 = .ok (.bipush 10, 2) := by decide +kernel
theorem dX9_put_97 : decode cX9_put 97 = .ok (.iadd, 1) := by decide +kernel
theorem dX9_put_98 : decode cX9_put 98 = .ok (.iconst 1, 1) := by decide +kernel
theorem dX9_put_99 : decode cX9_put 99 = .ok (.iastore, 1) := by decide +kernel
theorem dX9_put_100 : decode cX9_put 100 = .ok (.return_, 1) := by decide +kernel
