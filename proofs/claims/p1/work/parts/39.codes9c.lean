theorem dX9_init_0 : decode cX9_init 0 = .ok (.aload_n 0, 1) := by decide +kernel
theorem dX9_init_1 : decode cX9_init 1 = .ok (.invokespecial 1, 3) := by decide +kernel
theorem dX9_init_4 : decode cX9_init 4 = .ok (.aload_n 0, 1) := by decide +kernel
theorem dX9_init_5 : decode cX9_init 5 = .ok (.sipush 165, 3) := by decide +kernel
theorem dX9_init_8 : decode cX9_init 8 = .ok (.newarray .int, 2) := by decide +kernel
theorem dX9_init_10 : decode cX9_init 10 = .ok (.putfield 7, 3) := by decide +kernel
theorem dX9_init_13 : decode cX9_init 13 = .ok (.aload_n 0, 1) := by decide +kernel
theorem dX9_init_14 : decode cX9_init 14 = .ok (.sipush 308, 3) := by decide +kernel
theorem dX9_init_17 : decode cX9_init 17 = .ok (.newarray .int, 2) := by decide +kernel
theorem dX9_init_19 : decode cX9_init 19 = .ok (.putfield 13, 3) := by decide +kernel
theorem dX9_init_22 : decode cX9_init 22 = .ok (.aload_n 0, 1) := by decide +kernel
theorem dX9_init_23 : decode cX9_init 23 = .ok (.iconst 2, 1) := by decide +kernel
theorem dX9_init_24 : decode cX9_init 24 = .ok (.newarray .boolean, 2) := by decide +kernel
theorem dX9_init_26 : decode cX9_init 26 = .ok (.putfield 16, 3) := by decide +kernel
theorem dX9_init_29 : decode cX9_init 29 = .ok (.aload_n 0, 1) := by decide +kernel
theorem dX9_init_30 : decode cX9_init 30 = .ok (.bipush 6, 2) := by decide +kernel
theorem dX9_init_32 : decode cX9_init 32 = .ok (.newarray .int, 2) := by decide +kernel
theorem dX9_init_34 : decode cX9_init 34 = .ok (.putfield 20, 3) := by decide +kernel
theorem dX9_init_37 : decode cX9_init 37 = .ok (.aload_n 0, 1) := by decide +kernel
theorem dX9_init_38 : decode cX9_init 38 = .ok (.bipush 40, 2) := by decide +kernel
theorem dX9_init_40 : decode cX9_init 40 = .ok (.newarray .int, 2) := by decide +kernel
theorem dX9_init_42 : decode cX9_init 42 = .ok (.putfield 23, 3) := by decide +kernel
theorem dX9_init_45 : decode cX9_init 45 = .ok (.aload_n 0, 1) := by decide +kernel
theorem dX9_init_46 : decode cX9_init 46 = .ok (.bipush 20, 2) := by decide +kernel
theorem dX9_init_48 : decode cX9_init 48 = .ok (.newarray .int, 2) := by decide +kernel
theorem dX9_init_50 : decode cX9_init 50 = .ok (.putfield 26, 3) := by decide +kernel
theorem dX9_init_53 : decode cX9_init 53 = .ok (.aload_n 0, 1) := by decide +kernel
theorem dX9_init_54 : decode cX9_init 54 = .ok (.sipush 220, 3) := by decide +kernel
theorem dX9_init_57 : decode cX9_init 57 = .ok (.newarray .int, 2) := by decide +kernel
theorem dX9_init_59 : decode cX9_init 59 = .ok (.putfield 29, 3) := by decide +kernel
theorem dX9_init_62 : decode cX9_init 62 = .ok (.aload_n 0, 1) := by decide +kernel
theorem dX9_init_63 : decode cX9_init 63 = .ok (.sipush 220, 3) := by decide +kernel
theorem dX9_init_66 : decode cX9_init 66 = .ok (.newarray .int, 2) := by decide +kernel
theorem dX9_init_68 : decode cX9_init 68 = .ok (.putfield 32, 3) := by decide +kernel
theorem dX9_init_71 : decode cX9_init 71 = .ok (.aload_n 0, 1) := by decide +kernel
theorem dX9_init_72 : decode cX9_init 72 = .ok (.sipush 814, 3) := by decide +kernel
theorem dX9_init_75 : decode cX9_init 75 = .ok (.newarray .long, 2) := by decide +kernel
theorem dX9_init_77 : decode cX9_init 77 = .ok (.putfield 35, 3) := by decide +kernel
theorem dX9_init_80 : decode cX9_init 80 = .ok (.aload_n 0, 1) := by decide +kernel
theorem dX9_init_81 : decode cX9_init 81 = .ok (.bipush 37, 2) := by decide +kernel
theorem dX9_init_83 : decode cX9_init 83 = .ok (.newarray .int, 2) := by decide +kernel
theorem dX9_init_85 : decode cX9_init 85 = .ok (.putfield 39, 3) := by decide +kernel
theorem dX9_init_88 : decode cX9_init 88 = .ok (.aload_n 0, 1) := by decide +kernel
theorem dX9_init_89 : decode cX9_init 89 = .ok (.bipush 22, 2) := by decide +kernel
theorem dX9_init_91 : decode cX9_init 91 = .ok (.newarray .int, 2) := by decide +kernel
theorem dX9_init_93 : decode cX9_init 93 = .ok (.putfield 42, 3) := by decide +kernel
theorem dX9_init_96 : decode cX9_init 96 = .ok (.aload_n 0, 1) := by decide +kernel
theorem dX9_init_97 : decode cX9_init 97 = .ok (.bipush 42, 2) := by decide +kernel
theorem dX9_init_99 : decode cX9_init 99 = .ok (.newarray .boolean, 2) := by decide +kernel
theorem dX9_init_101 : decode cX9_init 101 = .ok (.putfield 45, 3) := by decide +kernel
theorem dX9_init_104 : decode cX9_init 104 = .ok (.aload_n 0, 1) := by decide +kernel
theorem dX9_init_105 : decode cX9_init 105 = .ok (.iconst 4, 1) := by decide +kernel
theorem dX9_init_106 : decode cX9_init 106 = .ok (.newarray .long, 2) := by decide +kernel
theorem dX9_init_108 : decode cX9_init 108 = .ok (.putfield 48, 3) := by decide +kernel
theorem dX9_init_111 : decode cX9_init 111 = .ok (.aload_n 0, 1) := by decide +kernel
theorem dX9_init_112 : decode cX9_init 112 = .ok (.iconst 4, 1) := by decide +kernel
theorem dX9_init_113 : decode cX9_init 113 = .ok (.newarray .long, 2) := by decide +kernel
theorem dX9_init_115 : decode cX9_init 115 = .ok (.putfield 51, 3) := by decide +kernel
theorem dX9_init_118 : decode cX9_init 118 = .ok (.aload_n 0, 1) := by decide +kernel
theorem dX9_init_119 : decode cX9_init 119 = .ok (.bipush 11, 2) := by decide +kernel
theorem dX9_init_121 : decode cX9_init 121 = .ok (.newarray .int, 2) := by decide +kernel
theorem dX9_init_123 : decode cX9_init 123 = .ok (.putfield 54, 3) := by decide +kernel
theorem dX9_init_126 : decode cX9_init 126 = .ok (.aload_n 0, 1) := by decide +kernel
theorem dX9_init_127 : decode cX9_init 127 = .ok (.bipush 6, 2) := by decide +kernel
theorem dX9_init_129 : decode cX9_init 129 = .ok (.newarray .int, 2) := by decide +kernel
theorem dX9_init_131 : decode cX9_init 131 = .ok (.putfield 57, 3) := by decide +kernel
theorem dX9_init_134 : decode cX9_init 134 = .ok (.aload_n 0, 1) := by decide +kernel
theorem dX9_init_135 : decode cX9_init 135 = .ok (.bipush 40, 2) := by decide +kernel
theorem dX9_init_137 : decode cX9_init 137 = .ok (.newarray .int, 2) := by decide +kernel
theorem dX9_init_139 : decode cX9_init 139 = .ok (.putfield 60, 3) := by decide +kernel
theorem dX9_init_142 : decode cX9_init 142 = .ok (.aload_n 0, 1) := by decide +kernel
theorem dX9_init_143 : decode cX9_init 143 = .ok (.bipush 6, 2) := by decide +kernel
theorem dX9_init_145 : decode cX9_init 145 = .ok (.newarray .int, 2) := by decide +kernel
theorem dX9_init_147 : decode cX9_init 147 = .ok (.putfield 63, 3) := by decide +kernel
theorem dX9_init_150 : decode cX9_init 150 = .ok (.aload_n 0, 1) := by decide +kernel
theorem dX9_init_151 : decode cX9_init 151 = .ok (.iconst 4, 1) := by decide +kernel
theorem dX9_init_152 : decode cX9_init 152 = .ok (.newarray .long, 2) := by decide +kernel
theorem dX9_init_154 : decode cX9_init 154 = .ok (.putfield 66, 3) := by decide +kernel
theorem dX9_init_157 : decode cX9_init 157 = .ok (.aload_n 0, 1) := by decide +kernel
theorem dX9_init_158 : decode cX9_init 158 = .ok (.iconst 4, 1) := by decide +kernel
theorem dX9_init_159 : decode cX9_init 159 = .ok (.newarray .long, 2) := by decide +kernel
theorem dX9_init_161 : decode cX9_init 161 = .ok (.putfield 69, 3) := by decide +kernel
theorem dX9_init_164 : decode cX9_init 164 = .ok (.aload_n 0, 1) := by decide +kernel
theorem dX9_init_165 : decode cX9_init 165 = .ok (.iconst 0, 1) := by decide +kernel
theorem dX9_init_166 : decode cX9_init 166 = .ok (.putfield 72, 3) := by decide +kernel
theorem dX9_init_169 : decode cX9_init 169 = .ok (.return_, 1) := by decide +kernel
set_option maxRecDepth 20000 in
theorem ggX9_isTaken_X9_of : GoodIn wsX9_isTaken wsX9_of := goodIn_r _ [6, 7, 92, 93, 94, 95, 96, 97, 98, 99, 100, 101, 102, 103, 104, 105, 106, 107, 108, 109, 110, 111, 112, 113, 114, 115, 116, 117, 118, 119, 120, 121, 122, 123, 124, 125, 126, 127] (by decide +kernel) (by decide +kernel)
set_option maxRecDepth 20000 in
theorem gX9_isTaken_X9_of : GoodIn wsX9_isTaken (wsV RX9 80 RX9 yX9_of wsX9_of) := goodIn_app (goodIn_of _ (by decide +kernel)) ggX9_isTaken_X9_of
set_option maxRecDepth 20000 in
theorem ggX9_isTaken_X9_isPossible : GoodIn wsX9_isTaken wsX9_isPossible := goodIn_r _ [11, 12, 13, 14, 15, 5, 16, 17, 18, 19, 20, 21, 22, 23, 24, 25, 26, 27, 28, 29, 30, 31, 32, 33, 34, 35, 36, 2, 3, 4, 6, 7, 37, 38, 39, 40, 41, 42, 43, 44, 45, 46, 47, 48, 49, 50, 51, 52, 53, 54, 55, 56, 57, 58, 59, 60, 61, 62, 63, 64, 65, 66, 67, 68, 69, 70, 71, 72, 73, 74, 92, 93, 94, 95, 96, 97, 98, 99, 100, 101, 102, 103, 104, 105, 106, 107, 108, 109, 110, 111, 112, 113, 114, 115, 116, 117, 118, 119, 120, 121, 122, 123, 124, 125, 126, 127] (by decide +kernel) (by decide +kernel)
set_option maxRecDepth 20000 in
theorem gX9_isTaken_X9_isPossible : GoodIn wsX9_isTaken (wsV RX9 187 RX9 yX9_isPossible wsX9_isPossible) := goodIn_app (goodIn_of _ (by decide +kernel)) ggX9_isTaken_X9_isPossible
set_option maxRecDepth 20000 in
theorem ggX9_isTaken_X9_note : GoodIn wsX9_isTaken wsX9_note := goodIn_r _ [78, 79, 80, 81, 82, 1, 83, 12, 84, 85, 86, 5, 87, 7, 92, 93, 94, 95, 96, 97, 98, 99, 100, 101, 102, 103, 104, 105, 106, 107, 108, 109, 110, 111, 112, 113, 114, 115, 116, 117, 118, 119, 120, 121, 122, 123, 124, 125, 126, 127] (by decide +kernel) (by decide +kernel)
set_option maxRecDepth 20000 in
theorem gX9_isTaken_X9_note : GoodIn wsX9_isTaken (wsV RX9 190 RX9 yX9_note wsX9_note) := goodIn_app (goodIn_of _ (by decide +kernel)) ggX9_isTaken_X9_note
set_option maxRecDepth 20000 in
theorem ggX9_isTaken_X9_copyIn : GoodIn wsX9_isTaken wsX9_copyIn := goodIn_r _ [91, 7, 12, 92, 93, 94, 95, 96, 97, 98, 99, 100, 101, 102, 103, 104, 105, 106, 107, 108, 109, 110, 111, 112, 113, 114, 115, 116, 117, 118, 119, 120, 121, 122, 123, 124, 125, 126, 127] (by decide +kernel) (by decide +kernel)
set_option maxRecDepth 20000 in
theorem gX9_isTaken_X9_copyIn : GoodIn wsX9_isTaken (wsV RX9 193 RX9 yX9_copyIn wsX9_copyIn) := goodIn_app (goodIn_of _ (by decide +kernel)) ggX9_isTaken_X9_copyIn
theorem dX9_isTaken_0 : decode cX9_isTaken 0 = .ok (.aload_n 0, 1) := by decide +kernel
theorem dX9_isTaken_1 : decode cX9_isTaken 1 = .ok (.iload_n 1, 1) := by decide +kernel
theorem dX9_isTaken_2 : decode cX9_isTaken 2 = .ok (.bipush 10, 2) := by decide +kernel
theorem dX9_isTaken_4 : decode cX9_isTaken 4 = .ok (.invokevirtual 80, 3) := by decide +kernel
theorem dX9_isTaken_7 : decode cX9_isTaken 7 = .ok (.ifCond .eq 23, 3) := by decide +kernel
theorem dX9_isTaken_10 : decode cX9_isTaken 10 = .ok (.aload_n 0, 1) := by decide +kernel
theorem dX9_isTaken_11 : decode cX9_isTaken 11 = .ok (.iload_n 1, 1) := by decide +kernel
theorem dX9_isTaken_12 : decode cX9_isTaken 12 = .ok (.bipush 8, 2) := by decide +kernel
theorem dX9_isTaken_14 : decode cX9_isTaken 14 = .ok (.invokevirtual 80, 3) := by decide +kernel
theorem dX9_isTaken_17 : decode cX9_isTaken 17 = .ok (.ifCond .ne 13, 3) := by decide +kernel
theorem dX9_isTaken_20 : decode cX9_isTaken 20 = .ok (.aload_n 0, 1) := by decide +kernel
theorem dX9_isTaken_21 : decode cX9_isTaken 21 = .ok (.sipush 32767, 3) := by decide +kernel
theorem dX9_isTaken_24 : decode cX9_isTaken 24 = .ok (.invokevirtual 187, 3) := by decide +kernel
theorem dX9_isTaken_27 : decode cX9_isTaken 27 = .ok (.ifCond .eq 7, 3) := by decide +kernel
theorem dX9_isTaken_30 : decode cX9_isTaken 30 = .ok (.iconst 1, 1) := by decide +kernel
theorem dX9_isTaken_31 : decode cX9_isTaken 31 = .ok (.goto 4, 3) := by decide +kernel
theorem dX9_isTaken_34 : decode cX9_isTaken 34 = .ok (.iconst 0, 1) := by decide +kernel
theorem dX9_isTaken_35 : decode cX9_isTaken 35 = .ok (.istore_n 2, 1) := by decide +kernel
theorem dX9_isTaken_36 : decode cX9_isTaken 36 = .ok (.iload_n 2, 1) := by decide +kernel
theorem dX9_isTaken_37 : decode cX9_isTaken 37 = .ok (.ifCond .eq 11, 3) := by decide +kernel
theorem dX9_isTaken_40 : decode cX9_isTaken 40 = .ok (.aload_n 0, 1) := by decide +kernel
theorem dX9_isTaken_41 : decode cX9_isTaken 41 = .ok (.iload_n 1, 1) := by decide +kernel
theorem dX9_isTaken_42 : decode cX9_isTaken 42 = .ok (.invokevirtual 190, 3) := by decide +kernel
theorem dX9_isTaken_45 : decode cX9_isTaken 45 = .ok (.goto 13, 3) := by decide +kernel
theorem dX9_isTaken_48 : decode cX9_isTaken 48 = .ok (.aload_n 0, 1) := by decide +kernel
theorem dX9_isTaken_49 : decode cX9_isTaken 49 = .ok (.iload_n 1, 1) := by decide +kernel
theorem dX9_isTaken_50 : decode cX9_isTaken 50 = .ok (.aload_n 0, 1) := by decide +kernel
theorem dX9_isTaken_51 : decode cX9_isTaken 51 = .ok (.getfield 54, 3) := by decide +kernel
theorem dX9_isTaken_54 : decode cX9_isTaken 54 = .ok (.iconst 0, 1) := by decide +kernel
theorem dX9_isTaken_55 : decode cX9_isTaken 55 = .ok (.invokevirtual 193, 3) := by decide +kernel
theorem dX9_isTaken_58 : decode cX9_isTaken 58 = .ok (.iload_n 2, 1) := by decide +kernel
theorem dX9_isTaken_59 : decode cX9_isTaken 59 = .ok (.ireturn, 1) := by decide +kernel
set_option maxRecDepth 20000 in
theorem ggX9_undo_X9_copyIn : GoodIn wsX9_undo wsX9_copyIn := goodIn_r _ [9, 10, 11, 12, 13, 14, 15, 16, 17, 18, 19, 20, 21, 22, 23, 24, 25, 26, 27, 28, 29, 30, 31, 32, 33, 34, 35, 36, 37, 38, 39, 40, 41, 42, 43, 44, 45, 46, 47] (by decide +kernel) (by decide +kernel)
set_option maxRecDepth 20000 in
theorem gX9_undo_X9_copyIn : GoodIn wsX9_undo (wsV RX9 193 RX9 yX9_copyIn wsX9_copyIn) := goodIn_app (goodIn_of _ (by decide +kernel)) ggX9_undo_X9_copyIn
theorem dX9_undo_0 : decode cX9_undo 0 = .ok (.aload_n 0, 1) := by decide +kernel
theorem dX9_undo_1 : decode cX9_undo 1 = .ok (.getfield 181, 3) := by decide +kernel
theorem dX9_undo_4 : decode cX9_undo 4 = .ok (.ifCond .ne 6, 3) := by decide +kernel
theorem dX9_undo_7 : decode cX9_undo 7 = .ok (.bipush (-5), 2) := by decide +kernel
theorem dX9_undo_9 : decode cX9_undo 9 = .ok (.ireturn, 1) := by decide +kernel
theorem dX9_undo_10 : decode cX9_undo 10 = .ok (.aload_n 0, 1) := by decide +kernel
theorem dX9_undo_11 : decode cX9_undo 11 = .ok (.dup, 1) := by decide +kernel
theorem dX9_undo_12 : decode cX9_undo 12 = .ok (.getfield 181, 3) := by decide +kernel
theorem dX9_undo_15 : decode cX9_undo 15 = .ok (.iconst 1, 1) := by decide +kernel
theorem dX9_undo_16 : decode cX9_undo 16 = .ok (.isub, 1) := by decide +kernel
theorem dX9_undo_17 : decode cX9_undo 17 = .ok (.putfield 181, 3) := by decide +kernel
theorem dX9_undo_20 : decode cX9_undo 20 = .ok (.aload_n 0, 1) := by decide +kernel
theorem dX9_undo_21 : decode cX9_undo 21 = .ok (.dup, 1) := by decide +kernel
theorem dX9_undo_22 : decode cX9_undo 22 = .ok (.getfield 184, 3) := by decide +kernel
theorem dX9_undo_25 : decode cX9_undo 25 = .ok (.iconst 1, 1) := by decide +kernel
theorem dX9_undo_26 : decode cX9_undo 26 = .ok (.iadd, 1) := by decide +kernel
theorem dX9_undo_27 : decode cX9_undo 27 = .ok (.putfield 184, 3) := by decide +kernel
theorem dX9_undo_30 : decode cX9_undo 30 = .ok (.aload_n 0, 1) := by decide +kernel
theorem dX9_undo_31 : decode cX9_undo 31 = .ok (.aload_n 0, 1) := by decide +kernel
theorem dX9_undo_32 : decode cX9_undo 32 = .ok (.getfield 26, 3) := by decide +kernel
theorem dX9_undo_35 : decode cX9_undo 35 = .ok (.aload_n 0, 1) := by decide +kernel
theorem dX9_undo_36 : decode cX9_undo 36 = .ok (.getfield 181, 3) := by decide +kernel
theorem dX9_undo_39 : decode cX9_undo 39 = .ok (.iaload, 1) := by decide +kernel
theorem dX9_undo_40 : decode cX9_undo 40 = .ok (.aload_n 0, 1) := by decide +kernel
theorem dX9_undo_41 : decode cX9_undo 41 = .ok (.getfield 29, 3) := by decide +kernel
theorem dX9_undo_44 : decode cX9_undo 44 = .ok (.bipush 11, 2) := by decide +kernel
theorem dX9_undo_46 : decode cX9_undo 46 = .ok (.aload_n 0, 1) := by decide +kernel
theorem dX9_undo_47 : decode cX9_undo 47 = .ok (.getfield 181, 3) := by decide +kernel
theorem dX9_undo_50 : decode cX9_undo 50 = .ok (.imul, 1) := by decide +kernel
theorem dX9_undo_51 : decode cX9_undo 51 = .ok (.invokevirtual 193, 3) := by decide +kernel
theorem dX9_undo_54 : decode cX9_undo 54 = .ok (.iconst 1, 1) := by decide +kernel
theorem dX9_undo_55 : decode cX9_undo 55 = .ok (.ireturn, 1) := by decide +kernel
set_option maxRecDepth 20000 in
theorem ggX9_redo_X9_copyIn : GoodIn wsX9_redo wsX9_copyIn := goodIn_r _ [9, 10, 11, 12, 13, 14, 15, 16, 17, 18, 19, 20, 21, 22, 23, 24, 25, 26, 27, 28, 29, 30, 31, 32, 33, 34, 35, 36, 37, 38, 39, 40, 41, 42, 43, 44, 45, 46, 47] (by decide +kernel) (by decide +kernel)
set_option maxRecDepth 20000 in
theorem gX9_redo_X9_copyIn : GoodIn wsX9_redo (wsV RX9 193 RX9 yX9_copyIn wsX9_copyIn) := goodIn_app (goodIn_of _ (by decide +kernel)) ggX9_redo_X9_copyIn
theorem dX9_redo_0 : decode cX9_redo 0 = .ok (.aload_n 0, 1) := by decide +kernel
theorem dX9_redo_1 : decode cX9_redo 1 = .ok (.getfield 184, 3) := by decide +kernel
theorem dX9_redo_4 : decode cX9_redo 4 = .ok (.ifCond .ne 6, 3) := by decide +kernel
theorem dX9_redo_7 : decode cX9_redo 7 = .ok (.bipush (-5), 2) := by decide +kernel
theorem dX9_redo_9 : decode cX9_redo 9 = .ok (.ireturn, 1) := by decide +kernel
theorem dX9_redo_10 : decode cX9_redo 10 = .ok (.aload_n 0, 1) := by decide +kernel
theorem dX9_redo_11 : decode cX9_redo 11 = .ok (.aload_n 0, 1) := by decide +kernel
theorem dX9_redo_12 : decode cX9_redo 12 = .ok (.getfield 26, 3) := by decide +kernel
theorem dX9_redo_15 : decode cX9_redo 15 = .ok (.aload_n 0, 1) := by decide +kernel
theorem dX9_redo_16 : decode cX9_redo 16 = .ok (.getfield 181, 3) := by decide +kernel
theorem dX9_redo_19 : decode cX9_redo 19 = .ok (.iaload, 1) := by decide +kernel
theorem dX9_redo_20 : decode cX9_redo 20 = .ok (.aload_n 0, 1) := by decide +kernel
theorem dX9_redo_21 : decode cX9_redo 21 = .ok (.getfield 32, 3) := by decide +kernel
theorem dX9_redo_24 : decode cX9_redo 24 = .ok (.bipush 11, 2) := by decide +kernel
theorem dX9_redo_26 : decode cX9_redo 26 = .ok (.aload_n 0, 1) := by decide +kernel
theorem dX9_redo_27 : decode cX9_redo 27 = .ok (.getfield 181, 3) := by decide +kernel
theorem dX9_redo_30 : decode cX9_redo 30 = .ok (.imul, 1) := by decide +kernel
theorem dX9_redo_31 : decode cX9_redo 31 = .ok (.invokevirtual 193, 3) := by decide +kernel
theorem dX9_redo_34 : decode cX9_redo 34 = .ok (.aload_n 0, 1) := by decide +kernel
theorem dX9_redo_35 : decode cX9_redo 35 = .ok (.dup, 1) := by decide +kernel
theorem dX9_redo_36 : decode cX9_redo 36 = .ok (.getfield 181, 3) := by decide +kernel
theorem dX9_redo_39 : decode cX9_redo 39 = .ok (.iconst 1, 1) := by decide +kernel
theorem dX9_redo_40 : decode cX9_redo 40 = .ok (.iadd, 1) := by decide +kernel
theorem dX9_redo_41 : decode cX9_redo 41 = .ok (.putfield 181, 3) := by decide +kernel
theorem dX9_redo_44 : decode cX9_redo 44 = .ok (.aload_n 0, 1) := by decide +kernel
theorem dX9_redo_45 : decode cX9_redo 45 = .ok (.dup, 1) := by decide +kernel
theorem dX9_redo_46 : decode cX9_redo 46 = .ok (.getfield 184, 3) := by decide +kernel
theorem dX9_redo_49 : decode cX9_redo 49 = .ok (.iconst 1, 1) := by decide +kernel
theorem dX9_redo_50 : decode cX9_redo 50 = .ok (.isub, 1) := by decide +kernel
theorem dX9_redo_51 : decode cX9_redo 51 = .ok (.putfield 184, 3) := by decide +kernel
theorem dX9_redo_54 : decode cX9_redo 54 = .ok (.iconst 1, 1) := by decide +kernel
theorem dX9_redo_55 : decode cX9_redo 55 = .ok (.ireturn, 1) := by decide +kernel
set_option maxRecDepth 20000 in
theorem ggX9_term_X9_isVariable : GoodIn wsX9_term wsX9_isVariable := goodIn_r _ [5, 6, 7, 4, 8] (by decide +kernel) (by decide +kernel)
set_option maxRecDepth 20000 in
theorem gX9_term_X9_isVariable : GoodIn wsX9_term (va_wsS RX9 196 yX9_isVariable wsX9_isVariable) := goodIn_app (goodIn_of _ (by decide +kernel)) ggX9_term_X9_isVariable
set_option maxRecDepth 20000 in
theorem ggX9_term_X9_in : GoodIn wsX9_term wsX9_in := goodIn_r _ [8] (by decide +kernel) (by decide +kernel)
set_option maxRecDepth 20000 in
theorem gX9_term_X9_in : GoodIn wsX9_term (va_wsS RX9 76 yX9_in wsX9_in) := goodIn_app (goodIn_of _ (by decide +kernel)) ggX9_term_X9_in
theorem dX9_term_0 : decode cX9_term 0 = .ok (.iload_n 1, 1) := by decide +kernel
theorem dX9_term_1 : decode cX9_term 1 = .ok (.invokestatic 196, 3) := by decide +kernel
theorem dX9_term_4 : decode cX9_term 4 = .ok (.ifCond .ne 5, 3) := by decide +kernel
theorem dX9_term_7 : decode cX9_term 7 = .ok (.iconst (-1), 1) := by decide +kernel
theorem dX9_term_8 : decode cX9_term 8 = .ok (.ireturn, 1) := by decide +kernel
theorem dX9_term_9 : decode cX9_term 9 = .ok (.iload_n 2, 1) := by decide +kernel
theorem dX9_term_10 : decode cX9_term 10 = .ok (.bipush (-3), 2) := by decide +kernel
theorem dX9_term_12 : decode cX9_term 12 = .ok (.iconst 3, 1) := by decide +kernel
theorem dX9_term_13 : decode cX9_term 13 = .ok (.invokestatic 76, 3) := by decide +kernel
theorem dX9_term_16 : decode cX9_term 16 = .ok (.ifCond .ne 6, 3) := by decide +kernel
theorem dX9_term_19 : decode cX9_term 19 = .ok (.bipush (-2), 2) := by decide +kernel
theorem dX9_term_21 : decode cX9_term 21 = .ok (.ireturn, 1) := by decide +kernel
theorem dX9_term_22 : decode cX9_term 22 = .ok (.aload_n 0, 1) := by decide +kernel
theorem dX9_term_23 : decode cX9_term 23 = .ok (.getfield 20, 3) := by decide +kernel
theorem dX9_term_26 : decode cX9_term 26 = .ok (.iload_n 1, 1) := by decide +kernel
theorem dX9_term_27 : decode cX9_term 27 = .ok (.iaload, 1) := by decide +kernel
theorem dX9_term_28 : decode cX9_term 28 = .ok (.istore_n 3, 1) := by decide +kernel
theorem dX9_term_29 : decode cX9_term 29 = .ok (.aload_n 0, 1) := by decide +kernel
theorem dX9_term_30 : decode cX9_term 30 = .ok (.getfield 20, 3) := by decide +kernel
theorem dX9_term_33 : decode cX9_term 33 = .ok (.iload_n 1, 1) := by decide +kernel
theorem dX9_term_34 : decode cX9_term 34 = .ok (.iload_n 2, 1) := by decide +kernel
theorem dX9_term_35 : decode cX9_term 35 = .ok (.iastore, 1) := by decide +kernel
theorem dX9_term_36 : decode cX9_term 36 = .ok (.iload_n 3, 1) := by decide +kernel
theorem dX9_term_37 : decode cX9_term 37 = .ok (.bipush 10, 2) := by decide +kernel
theorem dX9_term_39 : decode cX9_term 39 = .ok (.iadd, 1) := by decide +kernel
theorem dX9_term_40 : decode cX9_term 40 = .ok (.ireturn, 1) := by decide +kernel
set_option maxRecDepth 20000 in
theorem ggX9_come_X9_constraintsThere : GoodIn wsX9_come wsX9_constraintsThere := goodIn_r _ [5, 6, 7, 8, 4, 9, 10, 108, 109, 110, 111, 112, 113, 114, 115, 116, 117, 118, 119, 120, 121, 122, 123, 124, 125, 126, 127, 128, 129, 130, 131, 132, 133, 134, 135, 136, 137, 138, 139, 140, 141, 142, 143] (by decide +kernel) (by decide +kernel)
set_option maxRecDepth 20000 in
theorem gX9_come_X9_constraintsThere : GoodIn wsX9_come (wsV RX9 199 RX9 yX9_constraintsThere wsX9_constraintsThere) := goodIn_app (goodIn_of _ (by decide +kernel)) ggX9_come_X9_constraintsThere
set_option maxRecDepth 20000 in
theorem ggX9_come_X9_of : GoodIn wsX9_come wsX9_of := goodIn_r _ [9, 10, 108, 109, 110, 111, 112, 113, 114, 115, 116, 117, 118, 119, 120, 121, 122, 123, 124, 125, 126, 127, 128, 129, 130, 131, 132, 133, 134, 135, 136, 137, 138, 139, 140, 141, 142, 143] (by decide +kernel) (by decide +kernel)
set_option maxRecDepth 20000 in
theorem gX9_come_X9_of : GoodIn wsX9_come (wsV RX9 80 RX9 yX9_of wsX9_of) := goodIn_app (goodIn_of _ (by decide +kernel)) ggX9_come_X9_of
set_option maxRecDepth 20000 in
theorem ggX9_come_X9_keep : GoodIn wsX9_come wsX9_keep := goodIn_r _ [14, 15, 16, 17, 18, 4, 19, 10, 108, 109, 110, 111, 112, 113, 114, 115, 116, 117, 118, 119, 120, 121, 122, 123, 124, 125, 126, 127, 128, 129, 130, 131, 132, 133, 134, 135, 136, 137, 138, 139, 140, 141, 142, 143] (by decide +kernel) (by decide +kernel)
set_option maxRecDepth 20000 in
theorem gX9_come_X9_keep : GoodIn wsX9_come (wsV RX9 202 RX9 yX9_keep wsX9_keep) := goodIn_app (goodIn_of _ (by decide +kernel)) ggX9_come_X9_keep
set_option maxRecDepth 20000 in
theorem ggX9_come_X9_put : GoodIn wsX9_come wsX9_put := goodIn_r _ [23, 10, 108, 109, 110, 111, 112, 113, 114, 115, 116, 117, 118, 119, 120, 121, 122, 123, 124, 125, 126, 127, 128, 129, 130, 131, 132, 133, 134, 135, 136, 137, 138, 139, 140, 141, 142, 143] (by decide +kernel) (by decide +kernel)
set_option maxRecDepth 20000 in
theorem gX9_come_X9_put : GoodIn wsX9_come (wsV RX9 205 RX9 yX9_put wsX9_put) := goodIn_app (goodIn_of _ (by decide +kernel)) ggX9_come_X9_put
set_option maxRecDepth 20000 in
theorem ggX9_come_X9_isTaken : GoodIn wsX9_come wsX9_isTaken := goodIn_r _ [27, 15, 6, 7, 8, 4, 9, 10, 28, 29, 30, 31, 32, 33, 34, 35, 36, 37, 38, 39, 40, 41, 42, 43, 44, 45, 46, 47, 48, 49, 50, 51, 52, 53, 54, 55, 56, 57, 58, 59, 60, 61, 62, 63, 64, 65, 66, 67, 68, 69, 70, 71, 72, 73, 74, 75, 76, 77, 78, 79, 80, 81, 82, 83, 84, 85, 86, 87, 88, 89, 90, 91, 92, 93, 94, 95, 96, 97, 98, 99, 100, 101, 102, 103, 16, 17, 18, 19, 104, 105, 106, 107, 108, 109, 110, 111, 112, 113, 114, 115, 116, 117, 118, 119, 120, 121, 122, 123, 124, 125, 126, 127, 128, 129, 130, 131, 132, 133, 134, 135, 136, 137, 138, 139, 140, 141, 142, 143] (by decide +kernel) (by decide +kernel)
set_option maxRecDepth 20000 in
theorem gX9_come_X9_isTaken : GoodIn wsX9_come (wsV RX9 209 RX9 yX9_isTaken wsX9_isTaken) := goodIn_app (goodIn_of _ (by decide +kernel)) ggX9_come_X9_isTaken
theorem dX9_come_0 : decode cX9_come 0 = .ok (.aload_n 0, 1) := by decide +kernel
theorem dX9_come_1 : decode cX9_come 1 = .ok (.invokevirtual 199, 3) := by decide +kernel
theorem dX9_come_4 : decode cX9_come 4 = .ok (.bipush 14, 2) := by decide +kernel
theorem dX9_come_6 : decode cX9_come 6 = .ok (.if_icmp .ne 6, 3) := by decide +kernel
theorem dX9_come_9 : decode cX9_come 9 = .ok (.bipush (-4), 2) := by decide +kernel
theorem dX9_come_11 : decode cX9_come 11 = .ok (.ireturn, 1) := by decide +kernel
theorem dX9_come_12 : decode cX9_come 12 = .ok (.iconst 0, 1) := by decide +kernel
theorem dX9_come_13 : decode cX9_come 13 = .ok (.istore 6, 2) := by decide +kernel
theorem dX9_come_15 : decode cX9_come 15 = .ok (.aload_n 0, 1) := by decide +kernel
theorem dX9_come_16 : decode cX9_come 16 = .ok (.iload 6, 2) := by decide +kernel
theorem dX9_come_18 : decode cX9_come 18 = .ok (.bipush 10, 2) := by decide +kernel
theorem dX9_come_20 : decode cX9_come 20 = .ok (.invokevirtual 80, 3) := by decide +kernel
theorem dX9_come_23 : decode cX9_come 23 = .ok (.iconst 1, 1) := by decide +kernel
theorem dX9_come_24 : decode cX9_come 24 = .ok (.if_icmp .ne 9, 3) := by decide +kernel
theorem dX9_come_27 : decode cX9_come 27 = .ok (.iinc 6 1, 3) := by decide +kernel
theorem dX9_come_30 : decode cX9_come 30 = .ok (.goto (-15), 3) := by decide +kernel
theorem dX9_come_33 : decode cX9_come 33 = .ok (.aload_n 0, 1) := by decide +kernel
theorem dX9_come_34 : decode cX9_come 34 = .ok (.iload 6, 2) := by decide +kernel
theorem dX9_come_36 : decode cX9_come 36 = .ok (.invokevirtual 202, 3) := by decide +kernel
theorem dX9_come_39 : decode cX9_come 39 = .ok (.aload_n 0, 1) := by decide +kernel
theorem dX9_come_40 : decode cX9_come 40 = .ok (.iload 6, 2) := by decide +kernel
theorem dX9_come_42 : decode cX9_come 42 = .ok (.aload_n 1, 1) := by decide +kernel
theorem dX9_come_43 : decode cX9_come 43 = .ok (.iload_n 2, 1) := by decide +kernel
theorem dX9_come_44 : decode cX9_come 44 = .ok (.iload_n 3, 1) := by decide +kernel
theorem dX9_come_45 : decode cX9_come 45 = .ok (.iload 4, 2) := by decide +kernel
theorem dX9_come_47 : decode cX9_come 47 = .ok (.iload 5, 2) := by decide +kernel
theorem dX9_come_49 : decode cX9_come 49 = .ok (.invokevirtual 205, 3) := by decide +kernel
theorem dX9_come_52 : decode cX9_come 52 = .ok (.aload_n 0, 1) := by decide +kernel
theorem dX9_come_53 : decode cX9_come 53 = .ok (.iload 6, 2) := by decide +kernel
theorem dX9_come_55 : decode cX9_come 55 = .ok (.invokevirtual 209, 3) := by decide +kernel
theorem dX9_come_58 : decode cX9_come 58 = .ok (.ifCond .eq 8, 3) := by decide +kernel
theorem dX9_come_61 : decode cX9_come 61 = .ok (.iload 6, 2) := by decide +kernel
theorem dX9_come_63 : decode cX9_come 63 = .ok (.goto 5, 3) := by decide +kernel
theorem dX9_come_66 : decode cX9_come 66 = .ok (.bipush (-3), 2) := by decide +kernel
theorem dX9_come_68 : decode cX9_come 68 = .ok (.ireturn, 1) := by decide +kernel
set_option maxRecDepth 20000 in
theorem ggX9_add_X9_in : GoodIn wsX9_add wsX9_in := goodIn_r _ [5] (by decide +kernel) (by decide +kernel)
set_option maxRecDepth 20000 in
theorem gX9_add_X9_in : GoodIn wsX9_add (va_wsS RX9 76 yX9_in wsX9_in) := goodIn_app (goodIn_of _ (by decide +kernel)) ggX9_add_X9_in
set_option maxRecDepth 20000 in
theorem ggX9_add_X9_isConstant : GoodIn wsX9_add wsX9_isConstant := goodIn_r _ [8, 2, 3, 4, 5] (by decide +kernel) (by decide +kernel)
set_option maxRecDepth 20000 in
theorem gX9_add_X9_isConstant : GoodIn wsX9_add (va_wsS RX9 212 yX9_isConstant wsX9_isConstant) := goodIn_app (goodIn_of _ (by decide +kernel)) ggX9_add_X9_isConstant
set_option maxRecDepth 20000 in
theorem ggX9_add_X9_isStrength : GoodIn wsX9_add wsX9_isStrength := goodIn_r _ [11, 2, 3, 4, 5] (by decide +kernel) (by decide +kernel)
set_option maxRecDepth 20000 in
theorem gX9_add_X9_isStrength : GoodIn wsX9_add (va_wsS RX9 215 yX9_isStrength wsX9_isStrength) := goodIn_app (goodIn_of _ (by decide +kernel)) ggX9_add_X9_isStrength
set_option maxRecDepth 20000 in
theorem ggX9_add_X9_isAnything : GoodIn wsX9_add wsX9_isAnything := goodIn_r _ [14] (by decide +kernel) (by decide +kernel)
set_option maxRecDepth 20000 in
theorem gX9_add_X9_isAnything : GoodIn wsX9_add (va_wsS RX9 219 yX9_isAnything wsX9_isAnything) := goodIn_app (goodIn_of _ (by decide +kernel)) ggX9_add_X9_isAnything
set_option maxRecDepth 20000 in
theorem ggX9_add_X9_come : GoodIn wsX9_add wsX9_come := goodIn_r _ [18, 19, 20, 21, 4, 22, 23, 24, 25, 26, 27, 28, 29, 30, 31, 32, 33, 34, 35, 36, 37, 38, 39, 40, 41, 42, 43, 44, 45, 46, 47, 48, 49, 50, 51, 52, 53, 54, 55, 56, 57, 58, 59, 60, 61, 62, 63, 64, 65, 66, 67, 68, 69, 70, 2, 3, 5, 71, 72, 73, 74, 75, 76, 77, 78, 79, 80, 81, 82, 83, 84, 85, 86, 87, 88, 89, 90, 91, 92, 93, 94, 95, 96, 97, 98, 99, 100, 101, 102, 103, 104, 105, 106, 107, 108, 109, 110, 111, 112, 113, 114, 115, 116, 117, 118, 119, 120, 121, 122, 123, 124, 125, 126, 127, 128, 129, 130, 131, 132, 133, 134, 135, 136, 137, 138, 139, 140, 141, 142, 143, 144, 145, 146, 147, 148, 149, 150, 151, 152, 153, 154, 155, 156, 157] (by decide +kernel) (by decide +kernel)
set_option maxRecDepth 20000 in
theorem gX9_add_X9_come : GoodIn wsX9_add (wsV RX9 223 RX9 yX9_come wsX9_come) := goodIn_app (goodIn_of _ (by decide +kernel)) ggX9_add_X9_come
theorem dX9_add_0 : decode cX9_add 0 = .ok (.iload_n 1, 1) := by decide +kernel
theorem dX9_add_1 : decode cX9_add 1 = .ok (.iconst 0, 1) := by decide +kernel
theorem dX9_add_2 : decode cX9_add 2 = .ok (.iconst 2, 1) := by decide +kernel
theorem dX9_add_3 : decode cX9_add 3 = .ok (.invokestatic 76, 3) := by decide +kernel
theorem dX9_add_6 : decode cX9_add 6 = .ok (.ifCond .eq 19, 3) := by decide +kernel
theorem dX9_add_9 : decode cX9_add 9 = .ok (.iload_n 2, 1) := by decide +kernel
theorem dX9_add_10 : decode cX9_add 10 = .ok (.invokestatic 212, 3) := by decide +kernel
theorem dX9_add_13 : decode cX9_add 13 = .ok (.ifCond .eq 12, 3) := by decide +kernel
theorem dX9_add_16 : decode cX9_add 16 = .ok (.iload_n 3, 1) := by decide +kernel
theorem dX9_add_17 : decode cX9_add 17 = .ok (.iload 4, 2) := by decide +kernel
theorem dX9_add_19 : decode cX9_add 19 = .ok (.invokestatic 215, 3) := by decide +kernel
theorem dX9_add_22 : decode cX9_add 22 = .ok (.ifCond .ne 6, 3) := by decide +kernel
theorem dX9_add_25 : decode cX9_add 25 = .ok (.bipush (-2), 2) := by decide +kernel
theorem dX9_add_27 : decode cX9_add 27 = .ok (.ireturn, 1) := by decide +kernel
theorem dX9_add_28 : decode cX9_add 28 = .ok (.aload_n 0, 1) := by decide +kernel
theorem dX9_add_29 : decode cX9_add 29 = .ok (.getfield 20, 3) := by decide +kernel
theorem dX9_add_32 : decode cX9_add 32 = .ok (.invokestatic 219, 3) := by decide +kernel
theorem dX9_add_35 : decode cX9_add 35 = .ok (.ifCond .ne 6, 3) := by decide +kernel
theorem dX9_add_38 : decode cX9_add 38 = .ok (.bipush (-5), 2) := by decide +kernel
theorem dX9_add_40 : decode cX9_add 40 = .ok (.ireturn, 1) := by decide +kernel
theorem dX9_add_41 : decode cX9_add 41 = .ok (.aload_n 0, 1) := by decide +kernel
theorem dX9_add_42 : decode cX9_add 42 = .ok (.aload_n 0, 1) := by decide +kernel
theorem dX9_add_43 : decode cX9_add 43 = .ok (.getfield 20, 3) := by decide +kernel
theorem dX9_add_46 : decode cX9_add 46 = .ok (.iload_n 1, 1) := by decide +kernel
theorem dX9_add_47 : decode cX9_add 47 = .ok (.iload_n 2, 1) := by decide +kernel
theorem dX9_add_48 : decode cX9_add 48 = .ok (.iload_n 3, 1) := by decide +kernel
theorem dX9_add_49 : decode cX9_add 49 = .ok (.iload 4, 2) := by decide +kernel
theorem dX9_add_51 : decode cX9_add 51 = .ok (.invokevirtual 223, 3) := by decide +kernel
theorem dX9_add_54 : decode cX9_add 54 = .ok (.istore 5, 2) := by decide +kernel
theorem dX9_add_56 : decode cX9_add 56 = .ok (.iconst 0, 1) := by decide +kernel
theorem dX9_add_57 : decode cX9_add 57 = .ok (.istore 6, 2) := by decide +kernel
theorem dX9_add_59 : decode cX9_add 59 = .ok (.iload 6, 2) := by decide +kernel
theorem dX9_add_61 : decode cX9_add 61 = .ok (.bipush 6, 2) := by decide +kernel
theorem dX9_add_63 : decode cX9_add 63 = .ok (.if_icmp .ge 22, 3) := by decide +kernel
theorem dX9_add_66 : decode cX9_add 66 = .ok (.iload 5, 2) := by decide +kernel
theorem dX9_add_68 : decode cX9_add 68 = .ok (.ifCond .lt 17, 3) := by decide +kernel
theorem dX9_add_71 : decode cX9_add 71 = .ok (.aload_n 0, 1) := by decide +kernel
theorem dX9_add_72 : decode cX9_add 72 = .ok (.getfield 20, 3) := by decide +kernel
theorem dX9_add_75 : decode cX9_add 75 = .ok (.iload 6, 2) := by decide +kernel
theorem dX9_add_77 : decode cX9_add 77 = .ok (.iconst 0, 1) := by decide +kernel
theorem dX9_add_78 : decode cX9_add 78 = .ok (.iastore, 1) := by decide +kernel
theorem dX9_add_79 : decode cX9_add 79 = .ok (.iinc 6 1, 3) := by decide +kernel
theorem dX9_add_82 : decode cX9_add 82 = .ok (.goto (-23), 3) := by decide +kernel
theorem dX9_add_85 : decode cX9_add 85 = .ok (.iload 5, 2) := by decide +kernel
theorem dX9_add_87 : decode cX9_add 87 = .ok (.ireturn, 1) := by decide +kernel
set_option maxRecDepth 20000 in
theorem ggX9_remove_X9_isOne : GoodIn wsX9_remove wsX9_isOne := goodIn_r _ [6, 7, 8, 5, 9, 10, 11, 12, 13, 1, 108, 109, 110, 111, 112, 113, 114, 115, 116, 117, 118, 119, 120, 121, 122, 123, 124, 125, 126, 127, 128, 129, 130, 131, 132, 133, 134, 135, 136, 137, 138, 139, 140, 141, 142, 143] (by decide +kernel) (by decide +kernel)
set_option maxRecDepth 20000 in
theorem gX9_remove_X9_isOne : GoodIn wsX9_remove (wsV RX9 227 RX9 yX9_isOne wsX9_isOne) := goodIn_app (goodIn_of _ (by decide +kernel)) ggX9_remove_X9_isOne
set_option maxRecDepth 20000 in
theorem ggX9_remove_X9_keep : GoodIn wsX9_remove wsX9_keep := goodIn_r _ [17, 18, 19, 20, 21, 5, 22, 1, 108, 109, 110, 111, 112, 113, 114, 115, 116, 117, 118, 119, 120, 121, 122, 123, 124, 125, 126, 127, 128, 129, 130, 131, 132, 133, 134, 135, 136, 137, 138, 139, 140, 141, 142, 143] (by decide +kernel) (by decide +kernel)
set_option maxRecDepth 20000 in
theorem gX9_remove_X9_keep : GoodIn wsX9_remove (wsV RX9 202 RX9 yX9_keep wsX9_keep) := goodIn_app (goodIn_of _ (by decide +kernel)) ggX9_remove_X9_keep
set_option maxRecDepth 20000 in
theorem ggX9_remove_X9_isTaken : GoodIn wsX9_remove wsX9_isTaken := goodIn_r _ [26, 18, 10, 11, 12, 5, 13, 1, 27, 28, 29, 30, 31, 32, 33, 34, 35, 36, 37, 38, 39, 40, 41, 42, 43, 44, 45, 46, 47, 48, 49, 50, 51, 52, 7, 8, 9, 53, 54, 55, 56, 57, 58, 59, 60, 61, 62, 63, 64, 65, 66, 67, 68, 69, 70, 71, 72, 73, 74, 75, 76, 77, 78, 79, 80, 81, 82, 83, 84, 85, 86, 87, 88, 89, 90, 91, 92, 93, 94, 95, 96, 97, 98, 99, 19, 20, 21, 22, 100, 101, 102, 103, 108, 109, 110, 111, 112, 113, 114, 115, 116, 117, 118, 119, 120, 121, 122, 123, 124, 125, 126, 127, 128, 129, 130, 131, 132, 133, 134, 135, 136, 137, 138, 139, 140, 141, 142, 143] (by decide +kernel) (by decide +kernel)
set_option maxRecDepth 20000 in
theorem gX9_remove_X9_isTaken : GoodIn wsX9_remove (wsV RX9 209 RX9 yX9_isTaken wsX9_isTaken) := goodIn_app (goodIn_of _ (by decide +kernel)) ggX9_remove_X9_isTaken
set_option maxRecDepth 20000 in
theorem ggX9_remove_X9_constraintsThere : GoodIn wsX9_remove wsX9_constraintsThere := goodIn_r _ [107, 10, 11, 12, 5, 13, 1, 108, 109, 110, 111, 112, 113, 114, 115, 116, 117, 118, 119, 120, 121, 122, 123, 124, 125, 126, 127, 128, 129, 130, 131, 132, 133, 134, 135, 136, 137, 138, 139, 140, 141, 142, 143] (by decide +kernel) (by decide +kernel)
set_option maxRecDepth 20000 in
theorem gX9_remove_X9_constraintsThere : GoodIn wsX9_remove (wsV RX9 199 RX9 yX9_constraintsThere wsX9_constraintsThere) := goodIn_app (goodIn_of _ (by decide +kernel)) ggX9_remove_X9_constraintsThere
theorem dX9_remove_0 : decode cX9_remove 0 = .ok (.aload_n 0, 1) := by decide +kernel
theorem dX9_remove_1 : decode cX9_remove 1 = .ok (.iload_n 1, 1) := by decide +kernel
theorem dX9_remove_2 : decode cX9_remove 2 = .ok (.invokevirtual 227, 3) := by decide +kernel
theorem dX9_remove_5 : decode cX9_remove 5 = .ok (.ifCond .ne 5, 3) := by decide +kernel
theorem dX9_remove_8 : decode cX9_remove 8 = .ok (.iconst (-1), 1) := by decide +kernel
theorem dX9_remove_9 : decode cX9_remove 9 = .ok (.ireturn, 1) := by decide +kernel
theorem dX9_remove_10 : decode cX9_remove 10 = .ok (.aload_n 0, 1) := by decide +kernel
theorem dX9_remove_11 : decode cX9_remove 11 = .ok (.iload_n 1, 1) := by decide +kernel
theorem dX9_remove_12 : decode cX9_remove 12 = .ok (.invokevirtual 202, 3) := by decide +kernel
theorem dX9_remove_15 : decode cX9_remove 15 = .ok (.aload_n 0, 1) := by decide +kernel
theorem dX9_remove_16 : decode cX9_remove 16 = .ok (.getfield 7, 3) := by decide +kernel
theorem dX9_remove_19 : decode cX9_remove 19 = .ok (.bipush 11, 2) := by decide +kernel
theorem dX9_remove_21 : decode cX9_remove 21 = .ok (.iload_n 1, 1) := by decide +kernel
theorem dX9_remove_22 : decode cX9_remove 22 = .ok (.imul, 1) := by decide +kernel
theorem dX9_remove_23 : decode cX9_remove 23 = .ok (.bipush 10, 2) := by decide +kernel
theorem dX9_remove_25 : decode cX9_remove 25 = .ok (.iadd, 1) := by decide +kernel
theorem dX9_remove_26 : decode cX9_remove 26 = .ok (.iconst 0, 1) := by decide +kernel
theorem dX9_remove_27 : decode cX9_remove 27 = .ok (.iastore, 1) := by decide +kernel
theorem dX9_remove_28 : decode cX9_remove 28 = .ok (.aload_n 0, 1) := by decide +kernel
theorem dX9_remove_29 : decode cX9_remove 29 = .ok (.iload_n 1, 1) := by decide +kernel
theorem dX9_remove_30 : decode cX9_remove 30 = .ok (.invokevirtual 209, 3) := by decide +kernel
theorem dX9_remove_33 : decode cX9_remove 33 = .ok (.pop, 1) := by decide +kernel
theorem dX9_remove_34 : decode cX9_remove 34 = .ok (.aload_n 0, 1) := by decide +kernel
theorem dX9_remove_35 : decode cX9_remove 35 = .ok (.invokevirtual 199, 3) := by decide +kernel
theorem dX9_remove_38 : decode cX9_remove 38 = .ok (.ireturn, 1) := by decide +kernel
set_option maxRecDepth 20000 in
theorem ggX9_setConstant_X9_isOne : GoodIn wsX9_setConstant wsX9_isOne := goodIn_r _ [6, 7, 8, 5, 9, 10, 11, 12, 13, 1, 107, 108, 109, 110, 111, 112, 113, 114, 115, 116, 117, 118, 119, 120, 121, 122, 123, 124, 125, 126, 127, 128, 129, 130, 131, 132, 133, 134, 135, 136, 137, 138, 139, 140, 141, 142] (by decide +kernel) (by decide +kernel)
set_option maxRecDepth 20000 in
theorem gX9_setConstant_X9_isOne : GoodIn wsX9_setConstant (wsV RX9 227 RX9 yX9_isOne wsX9_isOne) := goodIn_app (goodIn_of _ (by decide +kernel)) ggX9_setConstant_X9_isOne
set_option maxRecDepth 20000 in
theorem ggX9_setConstant_X9_isConstant : GoodIn wsX9_setConstant wsX9_isConstant := goodIn_r _ [16, 7, 8, 5, 9] (by decide +kernel) (by decide +kernel)
set_option maxRecDepth 20000 in
theorem gX9_setConstant_X9_isConstant : GoodIn wsX9_setConstant (va_wsS RX9 212 yX9_isConstant wsX9_isConstant) := goodIn_app (goodIn_of _ (by decide +kernel)) ggX9_setConstant_X9_isConstant
set_option maxRecDepth 20000 in
theorem ggX9_setConstant_X9_keep : GoodIn wsX9_setConstant wsX9_keep := goodIn_r _ [20, 21, 22, 23, 24, 5, 25, 1, 107, 108, 109, 110, 111, 112, 113, 114, 115, 116, 117, 118, 119, 120, 121, 122, 123, 124, 125, 126, 127, 128, 129, 130, 131, 132, 133, 134, 135, 136, 137, 138, 139, 140, 141, 142] (by decide +kernel) (by decide +kernel)
set_option maxRecDepth 20000 in
theorem gX9_setConstant_X9_keep : GoodIn wsX9_setConstant (wsV RX9 202 RX9 yX9_keep wsX9_keep) := goodIn_app (goodIn_of _ (by decide +kernel)) ggX9_setConstant_X9_keep
set_option maxRecDepth 20000 in
theorem ggX9_setConstant_X9_of : GoodIn wsX9_setConstant wsX9_of := goodIn_r _ [13, 1, 107, 108, 109, 110, 111, 112, 113, 114, 115, 116, 117, 118, 119, 120, 121, 122, 123, 124, 125, 126, 127, 128, 129, 130, 131, 132, 133, 134, 135, 136, 137, 138, 139, 140, 141, 142] (by decide +kernel) (by decide +kernel)
set_option maxRecDepth 20000 in
theorem gX9_setConstant_X9_of : GoodIn wsX9_setConstant (wsV RX9 80 RX9 yX9_of wsX9_of) := goodIn_app (goodIn_of _ (by decide +kernel)) ggX9_setConstant_X9_of
set_option maxRecDepth 20000 in
theorem ggX9_setConstant_X9_isTaken : GoodIn wsX9_setConstant wsX9_isTaken := goodIn_r _ [29, 21, 10, 11, 12, 5, 13, 1, 30, 31, 32, 33, 34, 35, 36, 37, 38, 39, 40, 41, 42, 43, 44, 45, 46, 47, 48, 49, 50, 51, 52, 53, 54, 55, 7, 8, 9, 56, 57, 58, 59, 60, 61, 62, 63, 64, 65, 66, 67, 68, 69, 70, 71, 72, 73, 74, 75, 76, 77, 78, 79, 80, 81, 82, 83, 84, 85, 86, 87, 88, 89, 90, 91, 92, 93, 94, 95, 96, 97, 98, 99, 100, 101, 102, 22, 23, 24, 25, 103, 104, 105, 106, 107, 108, 109, 110, 111, 112, 113, 114, 115, 116, 117, 118, 119, 120, 121, 122, 123, 124, 125, 126, 127, 128, 129, 130, 131, 132, 133, 134, 135, 136, 137, 138, 139, 140, 141, 142] (by decide +kernel) (by decide +kernel)
set_option maxRecDepth 20000 in
theorem gX9_setConstant_X9_isTaken : GoodIn wsX9_setConstant (wsV RX9 209 RX9 yX9_isTaken wsX9_isTaken) := goodIn_app (goodIn_of _ (by decide +kernel)) ggX9_setConstant_X9_isTaken
theorem dX9_setConstant_0 : decode cX9_setConstant 0 = .ok (.aload_n 0, 1) := by decide +kernel
theorem dX9_setConstant_1 : decode cX9_setConstant 1 = .ok (.iload_n 1, 1) := by decide +kernel
theorem dX9_setConstant_2 : decode cX9_setConstant 2 = .ok (.invokevirtual 227, 3) := by decide +kernel
theorem dX9_setConstant_5 : decode cX9_setConstant 5 = .ok (.ifCond .ne 5, 3) := by decide +kernel
theorem dX9_setConstant_8 : decode cX9_setConstant 8 = .ok (.iconst (-1), 1) := by decide +kernel
theorem dX9_setConstant_9 : decode cX9_setConstant 9 = .ok (.ireturn, 1) := by decide +kernel
theorem dX9_setConstant_10 : decode cX9_setConstant 10 = .ok (.iload_n 2, 1) := by decide +kernel
theorem dX9_setConstant_11 : decode cX9_setConstant 11 = .ok (.invokestatic 212, 3) := by decide +kernel
theorem dX9_setConstant_14 : decode cX9_setConstant 14 = .ok (.ifCond .ne 6, 3) := by decide +kernel
theorem dX9_setConstant_17 : decode cX9_setConstant 17 = .ok (.bipush (-2), 2) := by decide +kernel
theorem dX9_setConstant_19 : decode cX9_setConstant 19 = .ok (.ireturn, 1) := by decide +kernel
theorem dX9_setConstant_20 : decode cX9_setConstant 20 = .ok (.aload_n 0, 1) := by decide +kernel
theorem dX9_setConstant_21 : decode cX9_setConstant 21 = .ok (.iload_n 1, 1) := by decide +kernel
theorem dX9_setConstant_22 : decode cX9_setConstant 22 = .ok (.invokevirtual 202, 3) := by decide +kernel
theorem dX9_setConstant_25 : decode cX9_setConstant 25 = .ok (.aload_n 0, 1) := by decide +kernel
theorem dX9_setConstant_26 : decode cX9_setConstant 26 = .ok (.iload_n 1, 1) := by decide +kernel
theorem dX9_setConstant_27 : decode cX9_setConstant 27 = .ok (.bipush 7, 2) := by decide +kernel
theorem dX9_setConstant_29 : decode cX9_setConstant 29 = .ok (.invokevirtual 80, 3) := by decide +kernel
theorem dX9_setConstant_32 : decode cX9_setConstant 32 = .ok (.istore_n 3, 1) := by decide +kernel
theorem dX9_setConstant_33 : decode cX9_setConstant 33 = .ok (.aload_n 0, 1) := by decide +kernel
theorem dX9_setConstant_34 : decode cX9_setConstant 34 = .ok (.getfield 7, 3) := by decide +kernel
theorem dX9_setConstant_37 : decode cX9_setConstant 37 = .ok (.bipush 11, 2) := by decide +kernel
theorem dX9_setConstant_39 : decode cX9_setConstant 39 = .ok (.iload_n 1, 1) := by decide +kernel
theorem dX9_setConstant_40 : decode cX9_setConstant 40 = .ok (.imul, 1) := by decide +kernel
theorem dX9_setConstant_41 : decode cX9_setConstant 41 = .ok (.bipush 7, 2) := by decide +kernel
theorem dX9_setConstant_43 : decode cX9_setConstant 43 = .ok (.iadd, 1) := by decide +kernel
theorem dX9_setConstant_44 : decode cX9_setConstant 44 = .ok (.iload_n 2, 1) := by decide +kernel
theorem dX9_setConstant_45 : decode cX9_setConstant 45 = .ok (.iastore, 1) := by decide +kernel
theorem dX9_setConstant_46 : decode cX9_setConstant 46 = .ok (.aload_n 0, 1) := by decide +kernel
theorem dX9_setConstant_47 : decode cX9_setConstant 47 = .ok (.iload_n 1, 1) := by decide +kernel
theorem dX9_setConstant_48 : decode cX9_setConstant 48 = .ok (.invokevirtual 209, 3) := by decide +kernel
theorem dX9_setConstant_51 : decode cX9_setConstant 51 = .ok (.ifCond .eq 11, 3) := by decide +kernel
theorem dX9_setConstant_54 : decode cX9_setConstant 54 = .ok (.iload_n 3, 1) := by decide +kernel
theorem dX9_setConstant_55 : decode cX9_setConstant 55 = .ok (.sipush 1000, 3) := by decide +kernel
theorem dX9_setConstant_58 : decode cX9_setConstant 58 = .ok (.iadd, 1) := by decide +kernel
theorem dX9_setConstant_59 : decode cX9_setConstant 59 = .ok (.goto 5, 3) := by decide +kernel
theorem dX9_setConstant_62 : decode cX9_setConstant 62 = .ok (.bipush (-3), 2) := by decide +kernel
theorem dX9_setConstant_64 : decode cX9_setConstant 64 = .ok (.ireturn, 1) := by decide +kernel
set_option maxRecDepth 20000 in
theorem ggX9_setStrength_X9_isOne : GoodIn wsX9_setStrength wsX9_isOne := goodIn_r _ [6, 7, 8, 5, 9, 10, 11, 12, 13, 1, 107, 108, 109, 110, 111, 112, 113, 114, 115, 116, 117, 118, 119, 120, 121, 122, 123, 124, 125, 126, 127, 128, 129, 130, 131, 132, 133, 134, 135, 136, 137, 138, 139, 140, 141, 142] (by decide +kernel) (by decide +kernel)
set_option maxRecDepth 20000 in
theorem gX9_setStrength_X9_isOne : GoodIn wsX9_setStrength (wsV RX9 227 RX9 yX9_isOne wsX9_isOne) := goodIn_app (goodIn_of _ (by decide +kernel)) ggX9_setStrength_X9_isOne
set_option maxRecDepth 20000 in
theorem ggX9_setStrength_X9_isStrength : GoodIn wsX9_setStrength wsX9_isStrength := goodIn_r _ [16, 7, 8, 5, 9] (by decide +kernel) (by decide +kernel)
set_option maxRecDepth 20000 in
theorem gX9_setStrength_X9_isStrength : GoodIn wsX9_setStrength (va_wsS RX9 215 yX9_isStrength wsX9_isStrength) := goodIn_app (goodIn_of _ (by decide +kernel)) ggX9_setStrength_X9_isStrength
set_option maxRecDepth 20000 in
theorem ggX9_setStrength_X9_keep : GoodIn wsX9_setStrength wsX9_keep := goodIn_r _ [20, 21, 22, 23, 24, 5, 25, 1, 107, 108, 109, 110, 111, 112, 113, 114, 115, 116, 117, 118, 119, 120, 121, 122, 123, 124, 125, 126, 127, 128, 129, 130, 131, 132, 133, 134, 135, 136, 137, 138, 139, 140, 141, 142] (by decide +kernel) (by decide +kernel)
set_option maxRecDepth 20000 in
theorem gX9_setStrength_X9_keep : GoodIn wsX9_setStrength (wsV RX9 202 RX9 yX9_keep wsX9_keep) := goodIn_app (goodIn_of _ (by decide +kernel)) ggX9_setStrength_X9_keep
set_option maxRecDepth 20000 in
theorem ggX9_setStrength_X9_of : GoodIn wsX9_setStrength wsX9_of := goodIn_r _ [13, 1, 107, 108, 109, 110, 111, 112, 113, 114, 115, 116, 117, 118, 119, 120, 121, 122, 123, 124, 125, 126, 127, 128, 129, 130, 131, 132, 133, 134, 135, 136, 137, 138, 139, 140, 141, 142] (by decide +kernel) (by decide +kernel)
set_option maxRecDepth 20000 in
theorem gX9_setStrength_X9_of : GoodIn wsX9_setStrength (wsV RX9 80 RX9 yX9_of wsX9_of) := goodIn_app (goodIn_of _ (by decide +kernel)) ggX9_setStrength_X9_of
set_option maxRecDepth 20000 in
theorem ggX9_setStrength_X9_isTaken : GoodIn wsX9_setStrength wsX9_isTaken := goodIn_r _ [29, 21, 10, 11, 12, 5, 13, 1, 30, 31, 32, 33, 34, 35, 36, 37, 38, 39, 40, 41, 42, 43, 44, 45, 46, 47, 48, 49, 50, 51, 52, 53, 54, 55, 7, 8, 9, 56, 57, 58, 59, 60, 61, 62, 63, 64, 65, 66, 67, 68, 69, 70, 71, 72, 73, 74, 75, 76, 77, 78, 79, 80, 81, 82, 83, 84, 85, 86, 87, 88, 89, 90, 91, 92, 93, 94, 95, 96, 97, 98, 99, 100, 101, 102, 22, 23, 24, 25, 103, 104, 105, 106, 107, 108, 109, 110, 111, 112, 113, 114, 115, 116, 117, 118, 119, 120, 121, 122, 123, 124, 125, 126, 127, 128, 129, 130, 131, 132, 133, 134, 135, 136, 137, 138, 139, 140, 141, 142] (by decide +kernel) (by decide +kernel)
set_option maxRecDepth 20000 in
theorem gX9_setStrength_X9_isTaken : GoodIn wsX9_setStrength (wsV RX9 209 RX9 yX9_isTaken wsX9_isTaken) := goodIn_app (goodIn_of _ (by decide +kernel)) ggX9_setStrength_X9_isTaken
theorem dX9_setStrength_0 : decode cX9_setStrength 0 = .ok (.aload_n 0, 1) := by decide +kernel
theorem dX9_setStrength_1 : decode cX9_setStrength 1 = .ok (.iload_n 1, 1) := by decide +kernel
theorem dX9_setStrength_2 : decode cX9_setStrength 2 = .ok (.invokevirtual 227, 3) := by decide +kernel
theorem dX9_setStrength_5 : decode cX9_setStrength 5 = .ok (.ifCond .ne 5, 3) := by decide +kernel
theorem dX9_setStrength_8 : decode cX9_setStrength 8 = .ok (.iconst (-1), 1) := by decide +kernel
theorem dX9_setStrength_9 : decode cX9_setStrength 9 = .ok (.ireturn, 1) := by decide +kernel
theorem dX9_setStrength_10 : decode cX9_setStrength 10 = .ok (.iload_n 2, 1) := by decide +kernel
theorem dX9_setStrength_11 : decode cX9_setStrength 11 = .ok (.iload_n 3, 1) := by decide +kernel
theorem dX9_setStrength_12 : decode cX9_setStrength 12 = .ok (.invokestatic 215, 3) := by decide +kernel
theorem dX9_setStrength_15 : decode cX9_setStrength 15 = .ok (.ifCond .ne 6, 3) := by decide +kernel
theorem dX9_setStrength_18 : decode cX9_setStrength 18 = .ok (.bipush (-2), 2) := by decide +kernel
theorem dX9_setStrength_20 : decode cX9_setStrength 20 = .ok (.ireturn, 1) := by decide +kernel
theorem dX9_setStrength_21 : decode cX9_setStrength 21 = .ok (.aload_n 0, 1) := by decide +kernel
theorem dX9_setStrength_22 : decode cX9_setStrength 22 = .ok (.iload_n 1, 1) := by decide +kernel
theorem dX9_setStrength_23 : decode cX9_setStrength 23 = .ok (.invokevirtual 202, 3) := by decide +kernel
theorem dX9_setStrength_26 : decode cX9_setStrength 26 = .ok (.aload_n 0, 1) := by decide +kernel
theorem dX9_setStrength_27 : decode cX9_setStrength 27 = .ok (.iload_n 1, 1) := by decide +kernel
theorem dX9_setStrength_28 : decode cX9_setStrength 28 = .ok (.bipush 8, 2) := by decide +kernel
theorem dX9_setStrength_30 : decode cX9_setStrength 30 = .ok (.invokevirtual 80, 3) := by decide +kernel
theorem dX9_setStrength_33 : decode cX9_setStrength 33 = .ok (.istore 4, 2) := by decide +kernel
theorem dX9_setStrength_35 : decode cX9_setStrength 35 = .ok (.aload_n 0, 1) := by decide +kernel
theorem dX9_setStrength_36 : decode cX9_setStrength 36 = .ok (.getfield 7, 3) := by decide +kernel
theorem dX9_setStrength_39 : decode cX9_setStrength 39 = .ok (.bipush 11, 2) := by decide +kernel
theorem dX9_setStrength_41 : decode cX9_setStrength 41 = .ok (.iload_n 1, 1) := by decide +kernel
theorem dX9_setStrength_42 : decode cX9_setStrength 42 = .ok (.imul, 1) := by decide +kernel
theorem dX9_setStrength_43 : decode cX9_setStrength 43 = .ok (.bipush 8, 2) := by decide +kernel
theorem dX9_setStrength_45 : decode cX9_setStrength 45 = .ok (.iadd, 1) := by decide +kernel
theorem dX9_setStrength_46 : decode cX9_setStrength 46 = .ok (.iload_n 2, 1) := by decide +kernel
theorem dX9_setStrength_47 : decode cX9_setStrength 47 = .ok (.iastore, 1) := by decide +kernel
theorem dX9_setStrength_48 : decode cX9_setStrength 48 = .ok (.aload_n 0, 1) := by decide +kernel
theorem dX9_setStrength_49 : decode cX9_setStrength 49 = .ok (.getfield 7, 3) := by decide +kernel
theorem dX9_setStrength_52 : decode cX9_setStrength 52 = .ok (.bipush 11, 2) := by decide +kernel
theorem dX9_setStrength_54 : decode cX9_setStrength 54 = .ok (.iload_n 1, 1) := by decide +kernel
theorem dX9_setStrength_55 : decode cX9_setStrength 55 = .ok (.imul, 1) := by decide +kernel
theorem dX9_setStrength_56 : decode cX9_setStrength 56 = .ok (.bipush 9, 2) := by decide +kernel
theorem dX9_setStrength_58 : decode cX9_setStrength 58 = .ok (.iadd, 1) := by decide +kernel
theorem dX9_setStrength_59 : decode cX9_setStrength 59 = .ok (.iload_n 3, 1) := by decide +kernel
theorem dX9_setStrength_60 : decode cX9_setStrength 60 = .ok (.iastore, 1) := by decide +kernel
theorem dX9_setStrength_61 : decode cX9_setStrength 61 = .ok (.aload_n 0, 1) := by decide +kernel
theorem dX9_setStrength_62 : decode cX9_setStrength 62 = .ok (.iload_n 1, 1) := by decide +kernel
theorem dX9_setStrength_63 : decode cX9_setStrength 63 = .ok (.invokevirtual 209, 3) := by decide +kernel
theorem dX9_setStrength_66 : decode cX9_setStrength 66 = .ok (.ifCond .eq 8, 3) := by decide +kernel
theorem dX9_setStrength_69 : decode cX9_setStrength 69 = .ok (.iload 4, 2) := by decide +kernel
theorem dX9_setStrength_71 : decode cX9_setStrength 71 = .ok (.goto 5, 3) := by decide +kernel
theorem dX9_setStrength_74 : decode cX9_setStrength 74 = .ok (.bipush (-3), 2) := by decide +kernel
theorem dX9_setStrength_76 : decode cX9_setStrength 76 = .ok (.ireturn, 1) := by decide +kernel
set_option maxRecDepth 20000 in
theorem ggX9_about_X9_isOne : GoodIn wsX9_about wsX9_isOne := goodIn_r _ [5, 6, 7, 4, 8, 9, 10, 11, 12, 13, 14, 15, 16, 17, 18, 19, 20, 21, 22, 23, 24, 25, 26, 27, 28, 29, 30, 31, 32, 33, 34, 35, 36, 37, 38, 39, 40, 41, 42, 43, 44, 45, 46, 47, 48, 49] (by decide +kernel) (by decide +kernel)
set_option maxRecDepth 20000 in
theorem gX9_about_X9_isOne : GoodIn wsX9_about (wsV RX9 227 RX9 yX9_isOne wsX9_isOne) := goodIn_app (goodIn_of _ (by decide +kernel)) ggX9_about_X9_isOne
set_option maxRecDepth 20000 in
theorem ggX9_about_X9_in : GoodIn wsX9_about wsX9_in := goodIn_r _ [8] (by decide +kernel) (by decide +kernel)
set_option maxRecDepth 20000 in
theorem gX9_about_X9_in : GoodIn wsX9_about (va_wsS RX9 76 yX9_in wsX9_in) := goodIn_app (goodIn_of _ (by decide +kernel)) ggX9_about_X9_in
set_option maxRecDepth 20000 in
theorem ggX9_about_X9_of : GoodIn wsX9_about wsX9_of := goodIn_r _ [12, 13, 14, 15, 16, 17, 18, 19, 20, 21, 22, 23, 24, 25, 26, 27, 28, 29, 30, 31, 32, 33, 34, 35, 36, 37, 38, 39, 40, 41, 42, 43, 44, 45, 46, 47, 48, 49] (by decide +kernel) (by decide +kernel)
set_option maxRecDepth 20000 in
theorem gX9_about_X9_of : GoodIn wsX9_about (wsV RX9 80 RX9 yX9_of wsX9_of) := goodIn_app (goodIn_of _ (by decide +kernel)) ggX9_about_X9_of
theorem dX9_about_0 : decode cX9_about 0 = .ok (.aload_n 0, 1) := by decide +kernel
theorem dX9_about_1 : decode cX9_about 1 = .ok (.iload_n 1, 1) := by decide +kernel
theorem dX9_about_2 : decode cX9_about 2 = .ok (.invokevirtual 227, 3) := by decide +kernel
theorem dX9_about_5 : decode cX9_about 5 = .ok (.ifCond .ne 5, 3) := by decide +kernel
theorem dX9_about_8 : decode cX9_about 8 = .ok (.iconst (-1), 1) := by decide +kernel
theorem dX9_about_9 : decode cX9_about 9 = .ok (.ireturn, 1) := by decide +kernel
theorem dX9_about_10 : decode cX9_about 10 = .ok (.iload_n 2, 1) := by decide +kernel
theorem dX9_about_11 : decode cX9_about 11 = .ok (.iconst 0, 1) := by decide +kernel
theorem dX9_about_12 : decode cX9_about 12 = .ok (.bipush 9, 2) := by decide +kernel
theorem dX9_about_14 : decode cX9_about 14 = .ok (.invokestatic 76, 3) := by decide +kernel
theorem dX9_about_17 : decode cX9_about 17 = .ok (.ifCond .ne 6, 3) := by decide +kernel
theorem dX9_about_20 : decode cX9_about 20 = .ok (.bipush (-2), 2) := by decide +kernel
theorem dX9_about_22 : decode cX9_about 22 = .ok (.ireturn, 1) := by decide +kernel
theorem dX9_about_23 : decode cX9_about 23 = .ok (.aload_n 0, 1) := by decide +kernel
theorem dX9_about_24 : decode cX9_about 24 = .ok (.iload_n 1, 1) := by decide +kernel
theorem dX9_about_25 : decode cX9_about 25 = .ok (.iload_n 2, 1) := by decide +kernel
theorem dX9_about_26 : decode cX9_about 26 = .ok (.invokevirtual 80, 3) := by decide +kernel
theorem dX9_about_29 : decode cX9_about 29 = .ok (.iload_n 2, 1) := by decide +kernel
theorem dX9_about_30 : decode cX9_about 30 = .ok (.bipush 6, 2) := by decide +kernel
theorem dX9_about_32 : decode cX9_about 32 = .ok (.if_icmp .ge 8, 3) := by decide +kernel
theorem dX9_about_35 : decode cX9_about 35 = .ok (.bipush 10, 2) := by decide +kernel
theorem dX9_about_37 : decode cX9_about 37 = .ok (.goto 16, 3) := by decide +kernel
theorem dX9_about_40 : decode cX9_about 40 = .ok (.iload_n 2, 1) := by decide +kernel
theorem dX9_about_41 : decode cX9_about 41 = .ok (.bipush 7, 2) := by decide +kernel
theorem dX9_about_43 : decode cX9_about 43 = .ok (.if_icmp .ne 9, 3) := by decide +kernel
theorem dX9_about_46 : decode cX9_about 46 = .ok (.sipush 1000, 3) := by decide +kernel
theorem dX9_about_49 : decode cX9_about 49 = .ok (.goto 4, 3) := by decide +kernel
theorem dX9_about_52 : decode cX9_about 52 = .ok (.iconst 0, 1) := by decide +kernel
theorem dX9_about_53 : decode cX9_about 53 = .ok (.iadd, 1) := by decide +kernel
theorem dX9_about_54 : decode cX9_about 54 = .ok (.ireturn, 1) := by decide +kernel
set_option maxRecDepth 20000 in
theorem ggX9_constraints_X9_of : GoodIn wsX9_constraints wsX9_of := goodIn_r _ [5, 6, 7, 8, 9, 10, 11, 12, 13, 14, 15, 16, 17, 18, 19, 20, 21, 22, 23, 24, 25, 26, 27, 28, 29, 30, 31, 32, 33, 34, 35, 36, 37, 38, 39, 40, 41, 42] (by decide +kernel) (by decide +kernel)
set_option maxRecDepth 20000 in
theorem gX9_constraints_X9_of : GoodIn wsX9_constraints (wsV RX9 80 RX9 yX9_of wsX9_of) := goodIn_app (goodIn_of _ (by decide +kernel)) ggX9_constraints_X9_of
theorem dX9_constraints_0 : decode cX9_constraints 0 = .ok (.iconst 0, 1) := by decide +kernel
theorem dX9_constraints_1 : decode cX9_constraints 1 = .ok (.istore_n 1, 1) := by decide +kernel
theorem dX9_constraints_2 : decode cX9_constraints 2 = .ok (.iconst 0, 1) := by decide +kernel
theorem dX9_constraints_3 : decode cX9_constraints 3 = .ok (.istore_n 2, 1) := by decide +kernel
theorem dX9_constraints_4 : decode cX9_constraints 4 = .ok (.iload_n 2, 1) := by decide +kernel
theorem dX9_constraints_5 : decode cX9_constraints 5 = .ok (.bipush 14, 2) := by decide +kernel
theorem dX9_constraints_7 : decode cX9_constraints 7 = .ok (.if_icmp .ge 21, 3) := by decide +kernel
theorem dX9_constraints_10 : decode cX9_constraints 10 = .ok (.iload_n 1, 1) := by decide +kernel
theorem dX9_constraints_11 : decode cX9_constraints 11 = .ok (.aload_n 0, 1) := by decide +kernel
theorem dX9_constraints_12 : decode cX9_constraints 12 = .ok (.iload_n 2, 1) := by decide +kernel
theorem dX9_constraints_13 : decode cX9_constraints 13 = .ok (.bipush 10, 2) := by decide +kernel
theorem dX9_constraints_15 : decode cX9_constraints 15 = .ok (.invokevirtual 80, 3) := by decide +kernel
theorem dX9_constraints_18 : decode cX9_constraints 18 = .ok (.iload_n 2, 1) := by decide +kernel
theorem dX9_constraints_19 : decode cX9_constraints 19 = .ok (.ishl, 1) := by decide +kernel
theorem dX9_constraints_20 : decode cX9_constraints 20 = .ok (.ior, 1) := by decide +kernel
theorem dX9_constraints_21 : decode cX9_constraints 21 = .ok (.istore_n 1, 1) := by decide +kernel
theorem dX9_constraints_22 : decode cX9_constraints 22 = .ok (.iinc 2 1, 3) := by decide +kernel
theorem dX9_constraints_25 : decode cX9_constraints 25 = .ok (.goto (-21), 3) := by decide +kernel
theorem dX9_constraints_28 : decode cX9_constraints 28 = .ok (.iload_n 1, 1) := by decide +kernel
theorem dX9_constraints_29 : decode cX9_constraints 29 = .ok (.ireturn, 1) := by decide +kernel
set_option maxRecDepth 20000 in
theorem ggX9_say_X9_in : GoodIn wsX9_say wsX9_in := goodIn_r _ [6] (by decide +kernel) (by decide +kernel)
set_option maxRecDepth 20000 in
theorem gX9_say_X9_in : GoodIn wsX9_say (va_wsS RX9 76 yX9_in wsX9_in) := goodIn_app (goodIn_of _ (by decide +kernel)) ggX9_say_X9_in
theorem dX9_say_0 : decode cX9_say 0 = .ok (.iload_n 1, 1) := by decide +kernel
theorem dX9_say_1 : decode cX9_say 1 = .ok (.bipush 33, 2) := by decide +kernel
theorem dX9_say_3 : decode cX9_say 3 = .ok (.bipush 126, 2) := by decide +kernel
theorem dX9_say_5 : decode cX9_say 5 = .ok (.invokestatic 76, 3) := by decide +kernel
theorem dX9_say_8 : decode cX9_say 8 = .ok (.ifCond .ne 6, 3) := by decide +kernel
theorem dX9_say_11 : decode cX9_say 11 = .ok (.bipush (-2), 2) := by decide +kernel
theorem dX9_say_13 : decode cX9_say 13 = .ok (.ireturn, 1) := by decide +kernel
theorem dX9_say_14 : decode cX9_say 14 = .ok (.aload_n 0, 1) := by decide +kernel
theorem dX9_say_15 : decode cX9_say 15 = .ok (.getfield 230, 3) := by decide +kernel
theorem dX9_say_18 : decode cX9_say 18 = .ok (.bipush 40, 2) := by decide +kernel
theorem dX9_say_20 : decode cX9_say 20 = .ok (.if_icmp .ne 6, 3) := by decide +kernel
theorem dX9_say_23 : decode cX9_say 23 = .ok (.bipush (-4), 2) := by decide +kernel
theorem dX9_say_25 : decode cX9_say 25 = .ok (.ireturn, 1) := by decide +kernel
theorem dX9_say_26 : decode cX9_say 26 = .ok (.aload_n 0, 1) := by decide +kernel
theorem dX9_say_27 : decode cX9_say 27 = .ok (.getfield 23, 3) := by decide +kernel
theorem dX9_say_30 : decode cX9_say 30 = .ok (.aload_n 0, 1) := by decide +kernel
theorem dX9_say_31 : decode cX9_say 31 = .ok (.getfield 230, 3) := by decide +kernel
theorem dX9_say_34 : decode cX9_say 34 = .ok (.iload_n 1, 1) := by decide +kernel
theorem dX9_say_35 : decode cX9_say 35 = .ok (.iastore, 1) := by decide +kernel
theorem dX9_say_36 : decode cX9_say 36 = .ok (.aload_n 0, 1) := by decide +kernel
theorem dX9_say_37 : decode cX9_say 37 = .ok (.dup, 1) := by decide +kernel
theorem dX9_say_38 : decode cX9_say 38 = .ok (.getfield 230, 3) := by decide +kernel
theorem dX9_say_41 : decode cX9_say 41 = .ok (.iconst 1, 1) := by decide +kernel
theorem dX9_say_42 : decode cX9_say 42 = .ok (.iadd, 1) := by decide +kernel
theorem dX9_say_43 : decode cX9_say 43 = .ok (.putfield 230, 3) := by decide +kernel
theorem dX9_say_46 : decode cX9_say 46 = .ok (.aload_n 0, 1) := by decide +kernel
theorem dX9_say_47 : decode cX9_say 47 = .ok (.getfield 230, 3) := by decide +kernel
theorem dX9_say_50 : decode cX9_say 50 = .ok (.ireturn, 1) := by decide +kernel
theorem dX9_wipe_0 : decode cX9_wipe 0 = .ok (.aload_n 0, 1) := by decide +kernel
theorem dX9_wipe_1 : decode cX9_wipe 1 = .ok (.getfield 230, 3) := by decide +kernel
theorem dX9_wipe_4 : decode cX9_wipe 4 = .ok (.istore_n 1, 1) := by decide +kernel
theorem dX9_wipe_5 : decode cX9_wipe 5 = .ok (.aload_n 0, 1) := by decide +kernel
theorem dX9_wipe_6 : decode cX9_wipe 6 = .ok (.iconst 0, 1) := by decide +kernel
theorem dX9_wipe_7 : decode cX9_wipe 7 = .ok (.putfield 230, 3) := by decide +kernel
theorem dX9_wipe_10 : decode cX9_wipe 10 = .ok (.iload_n 1, 1) := by decide +kernel
theorem dX9_wipe_11 : decode cX9_wipe 11 = .ok (.ireturn, 1) := by decide +kernel
theorem dX9_sign_0 : decode cX9_sign 0 = .ok (.aload_n 0, 1) := by decide +kernel
theorem dX9_sign_1 : decode cX9_sign 1 = .ok (.getfield 233, 3) := by decide +kernel
theorem dX9_sign_4 : decode cX9_sign 4 = .ok (.aload_n 0, 1) := by decide +kernel
theorem dX9_sign_5 : decode cX9_sign 5 = .ok (.getfield 230, 3) := by decide +kernel
theorem dX9_sign_8 : decode cX9_sign 8 = .ok (.if_icmp .ge 15, 3) := by decide +kernel
theorem dX9_sign_11 : decode cX9_sign 11 = .ok (.aload_n 0, 1) := by decide +kernel
theorem dX9_sign_12 : decode cX9_sign 12 = .ok (.getfield 23, 3) := by decide +kernel
theorem dX9_sign_15 : decode cX9_sign 15 = .ok (.aload_n 0, 1) := by decide +kernel
theorem dX9_sign_16 : decode cX9_sign 16 = .ok (.getfield 233, 3) := by decide +kernel
theorem dX9_sign_19 : decode cX9_sign 19 = .ok (.iaload, 1) := by decide +kernel
theorem dX9_sign_20 : decode cX9_sign 20 = .ok (.goto 4, 3) := by decide +kernel
theorem dX9_sign_23 : decode cX9_sign 23 = .ok (.iconst 0, 1) := by decide +kernel
theorem dX9_sign_24 : decode cX9_sign 24 = .ok (.ireturn, 1) := by decide +kernel
set_option maxRecDepth 20000 in
theorem ggX9_readTerm_X9_sign : GoodIn wsX9_readTerm wsX9_sign := goodIn_r _ [8, 1, 9, 10, 14, 15, 16, 17, 18, 19, 20, 21, 22, 23, 24, 25, 26, 27, 28, 29, 30, 31, 32, 33, 34, 35, 36, 37, 38, 39, 40, 41, 42, 43, 44, 45, 46, 47, 48, 49] (by decide +kernel) (by decide +kernel)
set_option maxRecDepth 20000 in
theorem gX9_readTerm_X9_sign : GoodIn wsX9_readTerm (wsV RX9 236 RX9 yX9_sign wsX9_sign) := goodIn_app (goodIn_of _ (by decide +kernel)) ggX9_readTerm_X9_sign
set_option maxRecDepth 20000 in
theorem ggX9_readTerm_X9_in : GoodIn wsX9_readTerm wsX9_in := goodIn_r _ [13] (by decide +kernel) (by decide +kernel)
set_option maxRecDepth 20000 in
theorem gX9_readTerm_X9_in : GoodIn wsX9_readTerm (va_wsS RX9 76 yX9_in wsX9_in) := goodIn_app (goodIn_of _ (by decide +kernel)) ggX9_readTerm_X9_in
theorem dX9_readTerm_0 : decode cX9_readTerm 0 = .ok (.iload_n 1, 1) := by decide +kernel
theorem dX9_readTerm_1 : decode cX9_readTerm 1 = .ok (.istore_n 2, 1) := by decide +kernel
theorem dX9_readTerm_2 : decode cX9_readTerm 2 = .ok (.aload_n 0, 1) := by decide +kernel
theorem dX9_readTerm_3 : decode cX9_readTerm 3 = .ok (.invokevirtual 236, 3) := by decide +kernel
theorem dX9_readTerm_6 : decode cX9_readTerm 6 = .ok (.bipush 50, 2) := by decide +kernel
theorem dX9_readTerm_8 : decode cX9_readTerm 8 = .ok (.bipush 51, 2) := by decide +kernel
theorem dX9_readTerm_10 : decode cX9_readTerm 10 = .ok (.invokestatic 76, 3) := by decide +kernel
theorem dX9_readTerm_13 : decode cX9_readTerm 13 = .ok (.ifCond .eq 23, 3) := by decide +kernel
theorem dX9_readTerm_16 : decode cX9_readTerm 16 = .ok (.iload_n 1, 1) := by decide +kernel
theorem dX9_readTerm_17 : decode cX9_readTerm 17 = .ok (.aload_n 0, 1) := by decide +kernel
theorem dX9_readTerm_18 : decode cX9_readTerm 18 = .ok (.invokevirtual 236, 3) := by decide +kernel
theorem dX9_readTerm_21 : decode cX9_readTerm 21 = .ok (.bipush 48, 2) := by decide +kernel
theorem dX9_readTerm_23 : decode cX9_readTerm 23 = .ok (.isub, 1) := by decide +kernel
theorem dX9_readTerm_24 : decode cX9_readTerm 24 = .ok (.imul, 1) := by decide +kernel
theorem dX9_readTerm_25 : decode cX9_readTerm 25 = .ok (.istore_n 2, 1) := by decide +kernel
theorem dX9_readTerm_26 : decode cX9_readTerm 26 = .ok (.aload_n 0, 1) := by decide +kernel
theorem dX9_readTerm_27 : decode cX9_readTerm 27 = .ok (.dup, 1) := by decide +kernel
theorem dX9_readTerm_28 : decode cX9_readTerm 28 = .ok (.getfield 233, 3) := by decide +kernel
theorem dX9_readTerm_31 : decode cX9_readTerm 31 = .ok (.iconst 1, 1) := by decide +kernel
theorem dX9_readTerm_32 : decode cX9_readTerm 32 = .ok (.iadd, 1) := by decide +kernel
theorem dX9_readTerm_33 : decode cX9_readTerm 33 = .ok (.putfield 233, 3) := by decide +kernel
theorem dX9_readTerm_36 : decode cX9_readTerm 36 = .ok (.aload_n 0, 1) := by decide +kernel
theorem dX9_readTerm_37 : decode cX9_readTerm 37 = .ok (.invokevirtual 236, 3) := by decide +kernel
theorem dX9_readTerm_40 : decode cX9_readTerm 40 = .ok (.bipush 97, 2) := by decide +kernel
theorem dX9_readTerm_42 : decode cX9_readTerm 42 = .ok (.bipush 102, 2) := by decide +kernel
theorem dX9_readTerm_44 : decode cX9_readTerm 44 = .ok (.invokestatic 76, 3) := by decide +kernel
theorem dX9_readTerm_47 : decode cX9_readTerm 47 = .ok (.ifCond .eq 32, 3) := by decide +kernel
theorem dX9_readTerm_50 : decode cX9_readTerm 50 = .ok (.aload_n 0, 1) := by decide +kernel
theorem dX9_readTerm_51 : decode cX9_readTerm 51 = .ok (.getfield 57, 3) := by decide +kernel
theorem dX9_readTerm_54 : decode cX9_readTerm 54 = .ok (.aload_n 0, 1) := by decide +kernel
theorem dX9_readTerm_55 : decode cX9_readTerm 55 = .ok (.invokevirtual 236, 3) := by decide +kernel
theorem dX9_readTerm_58 : decode cX9_readTerm 58 = .ok (.bipush 97, 2) := by decide +kernel
theorem dX9_readTerm_60 : decode cX9_readTerm 60 = .ok (.isub, 1) := by decide +kernel
theorem dX9_readTerm_61 : decode cX9_readTerm 61 = .ok (.dup2, 1) := by decide +kernel
theorem dX9_readTerm_62 : decode cX9_readTerm 62 = .ok (.iaload, 1) := by decide +kernel
theorem dX9_readTerm_63 : decode cX9_readTerm 63 = .ok (.iload_n 2, 1) := by decide +kernel
theorem dX9_readTerm_64 : decode cX9_readTerm 64 = .ok (.iadd, 1) := by decide +kernel
theorem dX9_readTerm_65 : decode cX9_readTerm 65 = .ok (.iastore, 1) := by decide +kernel
theorem dX9_readTerm_66 : decode cX9_readTerm 66 = .ok (.aload_n 0, 1) := by decide +kernel
theorem dX9_readTerm_67 : decode cX9_readTerm 67 = .ok (.dup, 1) := by decide +kernel
theorem dX9_readTerm_68 : decode cX9_readTerm 68 = .ok (.getfield 233, 3) := by decide +kernel
theorem dX9_readTerm_71 : decode cX9_readTerm 71 = .ok (.iconst 1, 1) := by decide +kernel
theorem dX9_readTerm_72 : decode cX9_readTerm 72 = .ok (.iadd, 1) := by decide +kernel
theorem dX9_readTerm_73 : decode cX9_readTerm 73 = .ok (.putfield 233, 3) := by decide +kernel
theorem dX9_readTerm_76 : decode cX9_readTerm 76 = .ok (.goto 8, 3) := by decide +kernel
theorem dX9_readTerm_79 : decode cX9_readTerm 79 = .ok (.aload_n 0, 1) := by decide +kernel
theorem dX9_readTerm_80 : decode cX9_readTerm 80 = .ok (.iconst 1, 1) := by decide +kernel
theorem dX9_readTerm_81 : decode cX9_readTerm 81 = .ok (.putfield 239, 3) := by decide +kernel
theorem dX9_readTerm_84 : decode cX9_readTerm 84 = .ok (.return_, 1) := by decide +kernel
