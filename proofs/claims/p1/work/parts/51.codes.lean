/-! decode rows -/
theorem dX7_begin_0 : decode cX7_begin 0 = .ok (.iconst 0, 1) := by decide +kernel
theorem dX7_begin_1 : decode cX7_begin 1 = .ok (.istore_n 1, 1) := by decide +kernel
theorem dX7_begin_12 : decode cX7_begin 12 = .ok (.iload_n 1, 1) := by decide +kernel
theorem dX7_begin_13 : decode cX7_begin 13 = .ok (.iconst 0, 1) := by decide +kernel
theorem dX7_begin_14 : decode cX7_begin 14 = .ok (.iastore, 1) := by decide +kernel
theorem dX7_begin_15 : decode cX7_begin 15 = .ok (.iinc 1 1, 3) := by decide +kernel
theorem dX7_begin_18 : decode cX7_begin 18 = .ok (.goto (-16), 3) := by decide +kernel
theorem dX7_begin_2 : decode cX7_begin 2 = .ok (.iload_n 1, 1) := by decide +kernel
theorem dX7_begin_21 : decode cX7_begin 21 = .ok (.aload_n 0, 1) := by decide +kernel
theorem dX7_begin_22 : decode cX7_begin 22 = .ok (.iconst 0, 1) := by decide +kernel
theorem dX7_begin_23 : decode cX7_begin 23 = .ok (.putfield 15, 3) := by decide +kernel
theorem dX7_begin_26 : decode cX7_begin 26 = .ok (.aload_n 0, 1) := by decide +kernel
theorem dX7_begin_27 : decode cX7_begin 27 = .ok (.iconst 1, 1) := by decide +kernel
theorem dX7_begin_28 : decode cX7_begin 28 = .ok (.putfield 19, 3) := by decide +kernel
theorem dX7_begin_3 : decode cX7_begin 3 = .ok (.bipush 6, 2) := by decide +kernel
theorem dX7_begin_31 : decode cX7_begin 31 = .ok (.aload_n 0, 1) := by decide +kernel
theorem dX7_begin_32 : decode cX7_begin 32 = .ok (.iconst 1, 1) := by decide +kernel
theorem dX7_begin_33 : decode cX7_begin 33 = .ok (.putfield 22, 3) := by decide +kernel
theorem dX7_begin_36 : decode cX7_begin 36 = .ok (.aload_n 0, 1) := by decide +kernel
theorem dX7_begin_37 : decode cX7_begin 37 = .ok (.iconst 1, 1) := by decide +kernel
theorem dX7_begin_38 : decode cX7_begin 38 = .ok (.putfield 28, 3) := by decide +kernel
theorem dX7_begin_41 : decode cX7_begin 41 = .ok (.aload_n 0, 1) := by decide +kernel
theorem dX7_begin_42 : decode cX7_begin 42 = .ok (.iconst 0, 1) := by decide +kernel
theorem dX7_begin_43 : decode cX7_begin 43 = .ok (.putfield 31, 3) := by decide +kernel
theorem dX7_begin_46 : decode cX7_begin 46 = .ok (.aload_n 0, 1) := by decide +kernel
theorem dX7_begin_47 : decode cX7_begin 47 = .ok (.iconst 0, 1) := by decide +kernel
theorem dX7_begin_48 : decode cX7_begin 48 = .ok (.putfield 34, 3) := by decide +kernel
theorem dX7_begin_5 : decode cX7_begin 5 = .ok (.if_icmp .ge 16, 3) := by decide +kernel
theorem dX7_begin_51 : decode cX7_begin 51 = .ok (.aload_n 0, 1) := by decide +kernel
theorem dX7_begin_52 : decode cX7_begin 52 = .ok (.iconst 1, 1) := by decide +kernel
theorem dX7_begin_53 : decode cX7_begin 53 = .ok (.putfield 37, 3) := by decide +kernel
theorem dX7_begin_56 : decode cX7_begin 56 = .ok (.return_, 1) := by decide +kernel
theorem dX7_begin_8 : decode cX7_begin 8 = .ok (.aload_n 0, 1) := by decide +kernel
theorem dX7_begin_9 : decode cX7_begin 9 = .ok (.getfield 9, 3) := by decide +kernel
theorem dX7_isAtEnd_0 : decode cX7_isAtEnd 0 = .ok (.aload_n 0, 1) := by decide +kernel
theorem dX7_isAtEnd_1 : decode cX7_isAtEnd 1 = .ok (.getfield 15, 3) := by decide +kernel
theorem dX7_isAtEnd_10 : decode cX7_isAtEnd 10 = .ok (.getfield 15, 3) := by decide +kernel
theorem dX7_isAtEnd_13 : decode cX7_isAtEnd 13 = .ok (.bipush 8, 2) := by decide +kernel
theorem dX7_isAtEnd_15 : decode cX7_isAtEnd 15 = .ok (.if_icmp .eq 12, 3) := by decide +kernel
theorem dX7_isAtEnd_18 : decode cX7_isAtEnd 18 = .ok (.aload_n 0, 1) := by decide +kernel
theorem dX7_isAtEnd_19 : decode cX7_isAtEnd 19 = .ok (.getfield 15, 3) := by decide +kernel
theorem dX7_isAtEnd_22 : decode cX7_isAtEnd 22 = .ok (.bipush 9, 2) := by decide +kernel
theorem dX7_isAtEnd_24 : decode cX7_isAtEnd 24 = .ok (.if_icmp .ne 7, 3) := by decide +kernel
theorem dX7_isAtEnd_31 : decode cX7_isAtEnd 31 = .ok (.iconst 0, 1) := by decide +kernel
theorem dX7_isAtEnd_32 : decode cX7_isAtEnd 32 = .ok (.ireturn, 1) := by decide +kernel
theorem dX7_isAtEnd_4 : decode cX7_isAtEnd 4 = .ok (.bipush 6, 2) := by decide +kernel
theorem dX7_isAtEnd_6 : decode cX7_isAtEnd 6 = .ok (.if_icmp .eq 21, 3) := by decide +kernel
theorem dX7_isAtEnd_9 : decode cX7_isAtEnd 9 = .ok (.aload_n 0, 1) := by decide +kernel
theorem dX7_read_0 : decode cX7_read 0 = .ok (.aload_n 0, 1) := by decide +kernel
theorem dX7_read_1 : decode cX7_read 1 = .ok (.invokevirtual 40, 3) := by decide +kernel
theorem dX7_read_11 : decode cX7_read 11 = .ok (.if_icmp .ge 23, 3) := by decide +kernel
theorem dX7_read_34 : decode cX7_read 34 = .ok (.aload_n 1, 1) := by decide +kernel
theorem dX7_read_35 : decode cX7_read 35 = .ok (.invokevirtual 43, 3) := by decide +kernel
theorem dX7_read_38 : decode cX7_read 38 = .ok (.ireturn, 1) := by decide +kernel
theorem dX7_read_4 : decode cX7_read 4 = .ok (.iconst 0, 1) := by decide +kernel
theorem dX7_read_5 : decode cX7_read 5 = .ok (.istore_n 2, 1) := by decide +kernel
theorem dX7_read_6 : decode cX7_read 6 = .ok (.iload_n 2, 1) := by decide +kernel
theorem dX7_read_7 : decode cX7_read 7 = .ok (.aload_n 1, 1) := by decide +kernel
theorem dX7_read_8 : decode cX7_read 8 = .ok (.invokevirtual 43, 3) := by decide +kernel
theorem dX8_about_0 : decode cX8_about 0 = .ok (.aload_n 0, 1) := by decide +kernel
theorem dX8_about_1 : decode cX8_about 1 = .ok (.getfield 33, 3) := by decide +kernel
theorem dX8_about_10 : decode cX8_about 10 = .ok (.ifnonnull 5, 3) := by decide +kernel
theorem dX8_about_13 : decode cX8_about 13 = .ok (.iconst (-1), 1) := by decide +kernel
theorem dX8_about_14 : decode cX8_about 14 = .ok (.ireturn, 1) := by decide +kernel
theorem dX8_about_4 : decode cX8_about 4 = .ok (.iload_n 1, 1) := by decide +kernel
theorem dX8_about_5 : decode cX8_about 5 = .ok (.invokevirtual 107, 3) := by decide +kernel
theorem dX8_about_8 : decode cX8_about 8 = .ok (.astore_n 3, 1) := by decide +kernel
theorem dX8_about_9 : decode cX8_about 9 = .ok (.aload_n 3, 1) := by decide +kernel
theorem dX8_add_0 : decode cX8_add 0 = .ok (.iload_n 1, 1) := by decide +kernel
theorem dX8_add_1 : decode cX8_add 1 = .ok (.invokestatic 82, 3) := by decide +kernel
theorem dX8_add_11 : decode cX8_add 11 = .ok (.invokestatic 78, 3) := by decide +kernel
theorem dX8_add_14 : decode cX8_add 14 = .ok (.ifCond .ne 6, 3) := by decide +kernel
theorem dX8_add_17 : decode cX8_add 17 = .ok (.bipush (-2), 2) := by decide +kernel
theorem dX8_add_19 : decode cX8_add 19 = .ok (.ireturn, 1) := by decide +kernel
theorem dX8_add_20 : decode cX8_add 20 = .ok (.iload_n 3, 1) := by decide +kernel
theorem dX8_add_21 : decode cX8_add 21 = .ok (.invokestatic 85, 3) := by decide +kernel
theorem dX8_add_24 : decode cX8_add 24 = .ok (.ifCond .eq 11, 3) := by decide +kernel
theorem dX8_add_27 : decode cX8_add 27 = .ok (.iload 4, 2) := by decide +kernel
theorem dX8_add_29 : decode cX8_add 29 = .ok (.invokestatic 88, 3) := by decide +kernel
theorem dX8_add_32 : decode cX8_add 32 = .ok (.ifCond .ne 6, 3) := by decide +kernel
theorem dX8_add_35 : decode cX8_add 35 = .ok (.bipush (-2), 2) := by decide +kernel
theorem dX8_add_37 : decode cX8_add 37 = .ok (.ireturn, 1) := by decide +kernel
theorem dX8_add_38 : decode cX8_add 38 = .ok (.aload_n 0, 1) := by decide +kernel
theorem dX8_add_39 : decode cX8_add 39 = .ok (.getfield 9, 3) := by decide +kernel
theorem dX8_add_4 : decode cX8_add 4 = .ok (.ifCond .eq 13, 3) := by decide +kernel
theorem dX8_add_42 : decode cX8_add 42 = .ok (.invokestatic 91, 3) := by decide +kernel
theorem dX8_add_45 : decode cX8_add 45 = .ok (.ifCond .eq 6, 3) := by decide +kernel
theorem dX8_add_48 : decode cX8_add 48 = .ok (.bipush (-5), 2) := by decide +kernel
theorem dX8_add_50 : decode cX8_add 50 = .ok (.ireturn, 1) := by decide +kernel
theorem dX8_add_7 : decode cX8_add 7 = .ok (.iload_n 2, 1) := by decide +kernel
theorem dX8_add_8 : decode cX8_add 8 = .ok (.sipush 200, 3) := by decide +kernel
theorem dX8_ambiguous_0 : decode cX8_ambiguous 0 = .ok (.iconst 0, 1) := by decide +kernel
theorem dX8_ambiguous_1 : decode cX8_ambiguous 1 = .ok (.istore_n 1, 1) := by decide +kernel
theorem dX8_ambiguous_10 : decode cX8_ambiguous 10 = .ok (.aload_n 0, 1) := by decide +kernel
theorem dX8_ambiguous_11 : decode cX8_ambiguous 11 = .ok (.iload_n 2, 1) := by decide +kernel
theorem dX8_ambiguous_12 : decode cX8_ambiguous 12 = .ok (.invokevirtual 222, 3) := by decide +kernel
theorem dX8_ambiguous_15 : decode cX8_ambiguous 15 = .ok (.ifCond .eq 9, 3) := by decide +kernel
theorem dX8_ambiguous_18 : decode cX8_ambiguous 18 = .ok (.iload_n 1, 1) := by decide +kernel
theorem dX8_ambiguous_19 : decode cX8_ambiguous 19 = .ok (.iconst 1, 1) := by decide +kernel
theorem dX8_ambiguous_2 : decode cX8_ambiguous 2 = .ok (.iconst 0, 1) := by decide +kernel
theorem dX8_ambiguous_20 : decode cX8_ambiguous 20 = .ok (.iload_n 2, 1) := by decide +kernel
theorem dX8_ambiguous_21 : decode cX8_ambiguous 21 = .ok (.ishl, 1) := by decide +kernel
theorem dX8_ambiguous_22 : decode cX8_ambiguous 22 = .ok (.ior, 1) := by decide +kernel
theorem dX8_ambiguous_23 : decode cX8_ambiguous 23 = .ok (.istore_n 1, 1) := by decide +kernel
theorem dX8_ambiguous_24 : decode cX8_ambiguous 24 = .ok (.iinc 2 1, 3) := by decide +kernel
theorem dX8_ambiguous_27 : decode cX8_ambiguous 27 = .ok (.goto (-23), 3) := by decide +kernel
theorem dX8_ambiguous_3 : decode cX8_ambiguous 3 = .ok (.istore_n 2, 1) := by decide +kernel
theorem dX8_ambiguous_30 : decode cX8_ambiguous 30 = .ok (.iload_n 1, 1) := by decide +kernel
theorem dX8_ambiguous_31 : decode cX8_ambiguous 31 = .ok (.ireturn, 1) := by decide +kernel
theorem dX8_ambiguous_4 : decode cX8_ambiguous 4 = .ok (.iload_n 2, 1) := by decide +kernel
theorem dX8_ambiguous_5 : decode cX8_ambiguous 5 = .ok (.bipush 6, 2) := by decide +kernel
theorem dX8_ambiguous_7 : decode cX8_ambiguous 7 = .ok (.if_icmp .ge 23, 3) := by decide +kernel
theorem dX8_best_0 : decode cX8_best 0 = .ok (.iload_n 1, 1) := by decide +kernel
theorem dX8_best_1 : decode cX8_best 1 = .ok (.invokestatic 74, 3) := by decide +kernel
theorem dX8_best_10 : decode cX8_best 10 = .ok (.sipush 1000, 3) := by decide +kernel
theorem dX8_best_102 : decode cX8_best 102 = .ok (.iadd, 1) := by decide +kernel
theorem dX8_best_103 : decode cX8_best 103 = .ok (.istore 4, 2) := by decide +kernel
theorem dX8_best_105 : decode cX8_best 105 = .ok (.aload_n 0, 1) := by decide +kernel
theorem dX8_best_106 : decode cX8_best 106 = .ok (.getfield 58, 3) := by decide +kernel
theorem dX8_best_109 : decode cX8_best 109 = .ok (.aload_n 0, 1) := by decide +kernel
theorem dX8_best_110 : decode cX8_best 110 = .ok (.getfield 62, 3) := by decide +kernel
theorem dX8_best_113 : decode cX8_best 113 = .ok (.invokevirtual 273, 3) := by decide +kernel
theorem dX8_best_116 : decode cX8_best 116 = .ok (.iinc 5 1, 3) := by decide +kernel
theorem dX8_best_119 : decode cX8_best 119 = .ok (.goto (-70), 3) := by decide +kernel
theorem dX8_best_122 : decode cX8_best 122 = .ok (.iload 4, 2) := by decide +kernel
theorem dX8_best_124 : decode cX8_best 124 = .ok (.ireturn, 1) := by decide +kernel
theorem dX8_best_13 : decode cX8_best 13 = .ok (.invokestatic 78, 3) := by decide +kernel
theorem dX8_best_16 : decode cX8_best 16 = .ok (.ifCond .eq 23, 3) := by decide +kernel
theorem dX8_best_19 : decode cX8_best 19 = .ok (.iload_n 3, 1) := by decide +kernel
theorem dX8_best_20 : decode cX8_best 20 = .ok (.iload_n 2, 1) := by decide +kernel
theorem dX8_best_21 : decode cX8_best 21 = .ok (.if_icmp .lt 18, 3) := by decide +kernel
theorem dX8_best_24 : decode cX8_best 24 = .ok (.iload_n 3, 1) := by decide +kernel
theorem dX8_best_25 : decode cX8_best 25 = .ok (.iload_n 2, 1) := by decide +kernel
theorem dX8_best_26 : decode cX8_best 26 = .ok (.bipush 15, 2) := by decide +kernel
theorem dX8_best_28 : decode cX8_best 28 = .ok (.iadd, 1) := by decide +kernel
theorem dX8_best_29 : decode cX8_best 29 = .ok (.if_icmp .gt 10, 3) := by decide +kernel
theorem dX8_best_32 : decode cX8_best 32 = .ok (.iload_n 3, 1) := by decide +kernel
theorem dX8_best_33 : decode cX8_best 33 = .ok (.sipush 1000, 3) := by decide +kernel
theorem dX8_best_36 : decode cX8_best 36 = .ok (.if_icmp .le 6, 3) := by decide +kernel
theorem dX8_best_39 : decode cX8_best 39 = .ok (.bipush (-2), 2) := by decide +kernel
theorem dX8_best_4 : decode cX8_best 4 = .ok (.ifCond .ne 5, 3) := by decide +kernel
theorem dX8_best_41 : decode cX8_best 41 = .ok (.ireturn, 1) := by decide +kernel
theorem dX8_best_42 : decode cX8_best 42 = .ok (.bipush (-6), 2) := by decide +kernel
theorem dX8_best_44 : decode cX8_best 44 = .ok (.istore 4, 2) := by decide +kernel
theorem dX8_best_46 : decode cX8_best 46 = .ok (.iload_n 2, 1) := by decide +kernel
theorem dX8_best_47 : decode cX8_best 47 = .ok (.istore 5, 2) := by decide +kernel
theorem dX8_best_49 : decode cX8_best 49 = .ok (.iload 5, 2) := by decide +kernel
theorem dX8_best_51 : decode cX8_best 51 = .ok (.iload_n 3, 1) := by decide +kernel
theorem dX8_best_52 : decode cX8_best 52 = .ok (.if_icmp .gt 70, 3) := by decide +kernel
theorem dX8_best_55 : decode cX8_best 55 = .ok (.aload_n 0, 1) := by decide +kernel
theorem dX8_best_56 : decode cX8_best 56 = .ok (.iload_n 1, 1) := by decide +kernel
theorem dX8_best_57 : decode cX8_best 57 = .ok (.iload 5, 2) := by decide +kernel
theorem dX8_best_59 : decode cX8_best 59 = .ok (.aload_n 0, 1) := by decide +kernel
theorem dX8_best_60 : decode cX8_best 60 = .ok (.getfield 62, 3) := by decide +kernel
theorem dX8_best_63 : decode cX8_best 63 = .ok (.invokevirtual 262, 3) := by decide +kernel
theorem dX8_best_66 : decode cX8_best 66 = .ok (.aload_n 0, 1) := by decide +kernel
theorem dX8_best_67 : decode cX8_best 67 = .ok (.getfield 62, 3) := by decide +kernel
theorem dX8_best_7 : decode cX8_best 7 = .ok (.iconst (-1), 1) := by decide +kernel
theorem dX8_best_70 : decode cX8_best 70 = .ok (.invokevirtual 266, 3) := by decide +kernel
theorem dX8_best_73 : decode cX8_best 73 = .ok (.ifCond .eq 43, 3) := by decide +kernel
theorem dX8_best_76 : decode cX8_best 76 = .ok (.iload 4, 2) := by decide +kernel
theorem dX8_best_78 : decode cX8_best 78 = .ok (.bipush (-6), 2) := by decide +kernel
theorem dX8_best_8 : decode cX8_best 8 = .ok (.ireturn, 1) := by decide +kernel
theorem dX8_best_80 : decode cX8_best 80 = .ok (.if_icmp .eq 17, 3) := by decide +kernel
theorem dX8_best_83 : decode cX8_best 83 = .ok (.aload_n 0, 1) := by decide +kernel
theorem dX8_best_84 : decode cX8_best 84 = .ok (.getfield 62, 3) := by decide +kernel
theorem dX8_best_87 : decode cX8_best 87 = .ok (.aload_n 0, 1) := by decide +kernel
theorem dX8_best_88 : decode cX8_best 88 = .ok (.getfield 58, 3) := by decide +kernel
theorem dX8_best_9 : decode cX8_best 9 = .ok (.iload_n 2, 1) := by decide +kernel
theorem dX8_best_91 : decode cX8_best 91 = .ok (.invokevirtual 269, 3) := by decide +kernel
theorem dX8_best_94 : decode cX8_best 94 = .ok (.ifCond .ge 22, 3) := by decide +kernel
theorem dX8_best_97 : decode cX8_best 97 = .ok (.iload 5, 2) := by decide +kernel
theorem dX8_best_99 : decode cX8_best 99 = .ok (.sipush 10000, 3) := by decide +kernel
theorem dX8_blockers_0 : decode cX8_blockers 0 = .ok (.iload_n 1, 1) := by decide +kernel
theorem dX8_blockers_1 : decode cX8_blockers 1 = .ok (.invokestatic 82, 3) := by decide +kernel
theorem dX8_blockers_11 : decode cX8_blockers 11 = .ok (.invokestatic 78, 3) := by decide +kernel
theorem dX8_blockers_14 : decode cX8_blockers 14 = .ok (.ifCond .ne 6, 3) := by decide +kernel
theorem dX8_blockers_17 : decode cX8_blockers 17 = .ok (.bipush (-2), 2) := by decide +kernel
theorem dX8_blockers_19 : decode cX8_blockers 19 = .ok (.ireturn, 1) := by decide +kernel
theorem dX8_blockers_20 : decode cX8_blockers 20 = .ok (.aload_n 0, 1) := by decide +kernel
theorem dX8_blockers_21 : decode cX8_blockers 21 = .ok (.getfield 9, 3) := by decide +kernel
theorem dX8_blockers_24 : decode cX8_blockers 24 = .ok (.invokestatic 91, 3) := by decide +kernel
theorem dX8_blockers_27 : decode cX8_blockers 27 = .ok (.ifCond .eq 6, 3) := by decide +kernel
theorem dX8_blockers_30 : decode cX8_blockers 30 = .ok (.bipush (-5), 2) := by decide +kernel
theorem dX8_blockers_32 : decode cX8_blockers 32 = .ok (.ireturn, 1) := by decide +kernel
theorem dX8_blockers_4 : decode cX8_blockers 4 = .ok (.ifCond .eq 13, 3) := by decide +kernel
theorem dX8_blockers_7 : decode cX8_blockers 7 = .ok (.iload_n 2, 1) := by decide +kernel
theorem dX8_blockers_8 : decode cX8_blockers 8 = .ok (.sipush 200, 3) := by decide +kernel
theorem dX8_burdens_0 : decode cX8_burdens 0 = .ok (.aload_n 0, 1) := by decide +kernel
theorem dX8_burdens_1 : decode cX8_burdens 1 = .ok (.aload_n 0, 1) := by decide +kernel
theorem dX8_burdens_10 : decode cX8_burdens 10 = .ok (.iconst 0, 1) := by decide +kernel
theorem dX8_burdens_11 : decode cX8_burdens 11 = .ok (.istore_n 2, 1) := by decide +kernel
theorem dX8_burdens_12 : decode cX8_burdens 12 = .ok (.iload_n 2, 1) := by decide +kernel
theorem dX8_burdens_13 : decode cX8_burdens 13 = .ok (.bipush 14, 2) := by decide +kernel
theorem dX8_burdens_15 : decode cX8_burdens 15 = .ok (.if_icmp .ge 72, 3) := by decide +kernel
theorem dX8_burdens_18 : decode cX8_burdens 18 = .ok (.aload_n 0, 1) := by decide +kernel
theorem dX8_burdens_19 : decode cX8_burdens 19 = .ok (.getfield 33, 3) := by decide +kernel
theorem dX8_burdens_2 : decode cX8_burdens 2 = .ok (.getfield 58, 3) := by decide +kernel
theorem dX8_burdens_22 : decode cX8_burdens 22 = .ok (.iload_n 2, 1) := by decide +kernel
theorem dX8_burdens_23 : decode cX8_burdens 23 = .ok (.invokevirtual 107, 3) := by decide +kernel
theorem dX8_burdens_26 : decode cX8_burdens 26 = .ok (.ifnull 55, 3) := by decide +kernel
theorem dX8_burdens_5 : decode cX8_burdens 5 = .ok (.invokevirtual 210, 3) := by decide +kernel
theorem dX8_burdens_8 : decode cX8_burdens 8 = .ok (.iconst 0, 1) := by decide +kernel
theorem dX8_burdens_81 : decode cX8_burdens 81 = .ok (.iinc 2 1, 3) := by decide +kernel
theorem dX8_burdens_84 : decode cX8_burdens 84 = .ok (.goto (-72), 3) := by decide +kernel
theorem dX8_burdens_87 : decode cX8_burdens 87 = .ok (.iload_n 1, 1) := by decide +kernel
theorem dX8_burdens_88 : decode cX8_burdens 88 = .ok (.ireturn, 1) := by decide +kernel
theorem dX8_burdens_9 : decode cX8_burdens 9 = .ok (.istore_n 1, 1) := by decide +kernel
theorem dX8_connected_0 : decode cX8_connected 0 = .ok (.iload_n 1, 1) := by decide +kernel
theorem dX8_connected_1 : decode cX8_connected 1 = .ok (.invokestatic 74, 3) := by decide +kernel
theorem dX8_connected_10 : decode cX8_connected 10 = .ok (.iload_n 1, 1) := by decide +kernel
theorem dX8_connected_11 : decode cX8_connected 11 = .ok (.ishl, 1) := by decide +kernel
theorem dX8_connected_12 : decode cX8_connected 12 = .ok (.istore_n 2, 1) := by decide +kernel
theorem dX8_connected_13 : decode cX8_connected 13 = .ok (.iconst 0, 1) := by decide +kernel
theorem dX8_connected_14 : decode cX8_connected 14 = .ok (.istore_n 3, 1) := by decide +kernel
theorem dX8_connected_15 : decode cX8_connected 15 = .ok (.iload_n 3, 1) := by decide +kernel
theorem dX8_connected_16 : decode cX8_connected 16 = .ok (.bipush 6, 2) := by decide +kernel
theorem dX8_connected_18 : decode cX8_connected 18 = .ok (.if_icmp .ge 59, 3) := by decide +kernel
theorem dX8_connected_21 : decode cX8_connected 21 = .ok (.iconst 0, 1) := by decide +kernel
theorem dX8_connected_22 : decode cX8_connected 22 = .ok (.istore 4, 2) := by decide +kernel
theorem dX8_connected_24 : decode cX8_connected 24 = .ok (.iload 4, 2) := by decide +kernel
theorem dX8_connected_26 : decode cX8_connected 26 = .ok (.bipush 14, 2) := by decide +kernel
theorem dX8_connected_28 : decode cX8_connected 28 = .ok (.if_icmp .ge 43, 3) := by decide +kernel
theorem dX8_connected_31 : decode cX8_connected 31 = .ok (.aload_n 0, 1) := by decide +kernel
theorem dX8_connected_32 : decode cX8_connected 32 = .ok (.getfield 33, 3) := by decide +kernel
theorem dX8_connected_35 : decode cX8_connected 35 = .ok (.iload 4, 2) := by decide +kernel
theorem dX8_connected_37 : decode cX8_connected 37 = .ok (.invokevirtual 107, 3) := by decide +kernel
theorem dX8_connected_4 : decode cX8_connected 4 = .ok (.ifCond .ne 5, 3) := by decide +kernel
theorem dX8_connected_40 : decode cX8_connected 40 = .ok (.astore 5, 2) := by decide +kernel
theorem dX8_connected_42 : decode cX8_connected 42 = .ok (.aload 5, 2) := by decide +kernel
theorem dX8_connected_44 : decode cX8_connected 44 = .ok (.ifnull 21, 3) := by decide +kernel
theorem dX8_connected_65 : decode cX8_connected 65 = .ok (.iinc 4 1, 3) := by decide +kernel
theorem dX8_connected_68 : decode cX8_connected 68 = .ok (.goto (-44), 3) := by decide +kernel
theorem dX8_connected_7 : decode cX8_connected 7 = .ok (.iconst (-1), 1) := by decide +kernel
theorem dX8_connected_71 : decode cX8_connected 71 = .ok (.iinc 3 1, 3) := by decide +kernel
theorem dX8_connected_74 : decode cX8_connected 74 = .ok (.goto (-59), 3) := by decide +kernel
theorem dX8_connected_77 : decode cX8_connected 77 = .ok (.iload_n 2, 1) := by decide +kernel
theorem dX8_connected_78 : decode cX8_connected 78 = .ok (.ireturn, 1) := by decide +kernel
theorem dX8_connected_8 : decode cX8_connected 8 = .ok (.ireturn, 1) := by decide +kernel
theorem dX8_connected_9 : decode cX8_connected 9 = .ok (.iconst 1, 1) := by decide +kernel
theorem dX8_constraints_0 : decode cX8_constraints 0 = .ok (.aload_n 0, 1) := by decide +kernel
theorem dX8_constraints_1 : decode cX8_constraints 1 = .ok (.getfield 33, 3) := by decide +kernel
theorem dX8_constraints_4 : decode cX8_constraints 4 = .ok (.invokevirtual 143, 3) := by decide +kernel
theorem dX8_constraints_7 : decode cX8_constraints 7 = .ok (.ireturn, 1) := by decide +kernel
theorem dX8_cost_0 : decode cX8_cost 0 = .ok (.iload_n 1, 1) := by decide +kernel
theorem dX8_cost_1 : decode cX8_cost 1 = .ok (.invokestatic 202, 3) := by decide +kernel
theorem dX8_cost_11 : decode cX8_cost 11 = .ok (.ifCond .ne 7, 3) := by decide +kernel
theorem dX8_cost_14 : decode cX8_cost 14 = .ok (.ldc2_w 208, 3) := by decide +kernel
theorem dX8_cost_17 : decode cX8_cost 17 = .ok (.lreturn, 1) := by decide +kernel
theorem dX8_cost_18 : decode cX8_cost 18 = .ok (.aload_n 0, 1) := by decide +kernel
theorem dX8_cost_19 : decode cX8_cost 19 = .ok (.aload_n 0, 1) := by decide +kernel
theorem dX8_cost_20 : decode cX8_cost 20 = .ok (.getfield 58, 3) := by decide +kernel
theorem dX8_cost_23 : decode cX8_cost 23 = .ok (.invokevirtual 210, 3) := by decide +kernel
theorem dX8_cost_26 : decode cX8_cost 26 = .ok (.aload_n 0, 1) := by decide +kernel
theorem dX8_cost_27 : decode cX8_cost 27 = .ok (.getfield 58, 3) := by decide +kernel
theorem dX8_cost_30 : decode cX8_cost 30 = .ok (.iload_n 1, 1) := by decide +kernel
theorem dX8_cost_31 : decode cX8_cost 31 = .ok (.iload_n 2, 1) := by decide +kernel
theorem dX8_cost_32 : decode cX8_cost 32 = .ok (.invokevirtual 214, 3) := by decide +kernel
theorem dX8_cost_35 : decode cX8_cost 35 = .ok (.lreturn, 1) := by decide +kernel
theorem dX8_cost_4 : decode cX8_cost 4 = .ok (.ifCond .eq 10, 3) := by decide +kernel
theorem dX8_cost_7 : decode cX8_cost 7 = .ok (.iload_n 2, 1) := by decide +kernel
theorem dX8_cost_8 : decode cX8_cost 8 = .ok (.invokestatic 205, 3) := by decide +kernel
theorem dX8_count_0 : decode cX8_count 0 = .ok (.iload_n 1, 1) := by decide +kernel
theorem dX8_count_1 : decode cX8_count 1 = .ok (.tableswitch 75 0 4 #[35, 43, 51, 59, 67], 35) := by decide +kernel
theorem dX8_count_36 : decode cX8_count 36 = .ok (.aload_n 0, 1) := by decide +kernel
theorem dX8_count_37 : decode cX8_count 37 = .ok (.getfield 33, 3) := by decide +kernel
theorem dX8_count_40 : decode cX8_count 40 = .ok (.invokevirtual 115, 3) := by decide +kernel
theorem dX8_count_43 : decode cX8_count 43 = .ok (.ireturn, 1) := by decide +kernel
theorem dX8_count_44 : decode cX8_count 44 = .ok (.aload_n 0, 1) := by decide +kernel
theorem dX8_count_45 : decode cX8_count 45 = .ok (.getfield 16, 3) := by decide +kernel
theorem dX8_count_48 : decode cX8_count 48 = .ok (.invokevirtual 154, 3) := by decide +kernel
theorem dX8_count_51 : decode cX8_count 51 = .ok (.ireturn, 1) := by decide +kernel
theorem dX8_count_52 : decode cX8_count 52 = .ok (.aload_n 0, 1) := by decide +kernel
theorem dX8_count_53 : decode cX8_count 53 = .ok (.getfield 44, 3) := by decide +kernel
theorem dX8_count_56 : decode cX8_count 56 = .ok (.invokevirtual 280, 3) := by decide +kernel
theorem dX8_count_59 : decode cX8_count 59 = .ok (.ireturn, 1) := by decide +kernel
theorem dX8_count_60 : decode cX8_count 60 = .ok (.aload_n 0, 1) := by decide +kernel
theorem dX8_count_61 : decode cX8_count 61 = .ok (.getfield 44, 3) := by decide +kernel
theorem dX8_count_64 : decode cX8_count 64 = .ok (.invokevirtual 283, 3) := by decide +kernel
theorem dX8_count_67 : decode cX8_count 67 = .ok (.ireturn, 1) := by decide +kernel
theorem dX8_count_68 : decode cX8_count 68 = .ok (.aload_n 0, 1) := by decide +kernel
theorem dX8_count_69 : decode cX8_count 69 = .ok (.getfield 33, 3) := by decide +kernel
theorem dX8_count_72 : decode cX8_count 72 = .ok (.invokevirtual 286, 3) := by decide +kernel
theorem dX8_count_75 : decode cX8_count 75 = .ok (.ireturn, 1) := by decide +kernel
theorem dX8_count_76 : decode cX8_count 76 = .ok (.bipush (-2), 2) := by decide +kernel
theorem dX8_count_78 : decode cX8_count 78 = .ok (.ireturn, 1) := by decide +kernel
theorem dX8_fault_0 : decode cX8_fault 0 = .ok (.aload_n 0, 1) := by decide +kernel
theorem dX8_fault_1 : decode cX8_fault 1 = .ok (.getfield 26, 3) := by decide +kernel
theorem dX8_fault_11 : decode cX8_fault 11 = .ok (.istore_n 1, 1) := by decide +kernel
theorem dX8_fault_12 : decode cX8_fault 12 = .ok (.aload_n 0, 1) := by decide +kernel
theorem dX8_fault_13 : decode cX8_fault 13 = .ok (.getfield 26, 3) := by decide +kernel
theorem dX8_fault_16 : decode cX8_fault 16 = .ok (.invokevirtual 162, 3) := by decide +kernel
theorem dX8_fault_19 : decode cX8_fault 19 = .ok (.ifCond .eq 19, 3) := by decide +kernel
theorem dX8_fault_38 : decode cX8_fault 38 = .ok (.iload_n 1, 1) := by decide +kernel
theorem dX8_fault_39 : decode cX8_fault 39 = .ok (.ireturn, 1) := by decide +kernel
theorem dX8_fault_4 : decode cX8_fault 4 = .ok (.aload_n 0, 1) := by decide +kernel
theorem dX8_fault_5 : decode cX8_fault 5 = .ok (.getfield 16, 3) := by decide +kernel
theorem dX8_fault_8 : decode cX8_fault 8 = .ok (.invokevirtual 158, 3) := by decide +kernel
theorem dX8_findCostsAt_0 : decode cX8_findCostsAt 0 = .ok (.iload_n 1, 1) := by decide +kernel
theorem dX8_findCostsAt_1 : decode cX8_findCostsAt 1 = .ok (.invokestatic 74, 3) := by decide +kernel
theorem dX8_findCostsAt_11 : decode cX8_findCostsAt 11 = .ok (.bipush 14, 2) := by decide +kernel
theorem dX8_findCostsAt_13 : decode cX8_findCostsAt 13 = .ok (.aload_n 0, 1) := by decide +kernel
theorem dX8_findCostsAt_14 : decode cX8_findCostsAt 14 = .ok (.getfield 67, 3) := by decide +kernel
theorem dX8_findCostsAt_17 : decode cX8_findCostsAt 17 = .ok (.iload_n 1, 1) := by decide +kernel
theorem dX8_findCostsAt_18 : decode cX8_findCostsAt 18 = .ok (.aaload, 1) := by decide +kernel
theorem dX8_findCostsAt_19 : decode cX8_findCostsAt 19 = .ok (.iload_n 2, 1) := by decide +kernel
theorem dX8_findCostsAt_20 : decode cX8_findCostsAt 20 = .ok (.invokevirtual 306, 3) := by decide +kernel
theorem dX8_findCostsAt_23 : decode cX8_findCostsAt 23 = .ok (.aload_n 0, 1) := by decide +kernel
theorem dX8_findCostsAt_24 : decode cX8_findCostsAt 24 = .ok (.aload_n 3, 1) := by decide +kernel
theorem dX8_findCostsAt_25 : decode cX8_findCostsAt 25 = .ok (.invokevirtual 210, 3) := by decide +kernel
theorem dX8_findCostsAt_28 : decode cX8_findCostsAt 28 = .ok (.aload_n 0, 1) := by decide +kernel
theorem dX8_findCostsAt_29 : decode cX8_findCostsAt 29 = .ok (.getfield 51, 3) := by decide +kernel
theorem dX8_findCostsAt_32 : decode cX8_findCostsAt 32 = .ok (.bipush 14, 2) := by decide +kernel
theorem dX8_findCostsAt_34 : decode cX8_findCostsAt 34 = .ok (.invokevirtual 258, 3) := by decide +kernel
theorem dX8_findCostsAt_37 : decode cX8_findCostsAt 37 = .ok (.return_, 1) := by decide +kernel
theorem dX8_findCostsAt_4 : decode cX8_findCostsAt 4 = .ok (.ifCond .eq 33, 3) := by decide +kernel
theorem dX8_findCostsAt_7 : decode cX8_findCostsAt 7 = .ok (.aload_n 0, 1) := by decide +kernel
theorem dX8_findCostsAt_8 : decode cX8_findCostsAt 8 = .ok (.getfield 51, 3) := by decide +kernel
theorem dX8_findCosts_0 : decode cX8_findCosts 0 = .ok (.aload_n 0, 1) := by decide +kernel
theorem dX8_findCosts_1 : decode cX8_findCosts 1 = .ok (.getfield 51, 3) := by decide +kernel
theorem dX8_findCosts_11 : decode cX8_findCosts 11 = .ok (.aload_n 1, 1) := by decide +kernel
theorem dX8_findCosts_12 : decode cX8_findCosts 12 = .ok (.invokevirtual 303, 3) := by decide +kernel
theorem dX8_findCosts_15 : decode cX8_findCosts 15 = .ok (.return_, 1) := by decide +kernel
theorem dX8_findCosts_4 : decode cX8_findCosts 4 = .ok (.invokevirtual 300, 3) := by decide +kernel
theorem dX8_findCosts_7 : decode cX8_findCosts 7 = .ok (.aload_n 0, 1) := by decide +kernel
theorem dX8_findCosts_8 : decode cX8_findCosts 8 = .ok (.getfield 51, 3) := by decide +kernel
theorem dX8_force_0 : decode cX8_force 0 = .ok (.iload_n 1, 1) := by decide +kernel
theorem dX8_force_1 : decode cX8_force 1 = .ok (.invokestatic 74, 3) := by decide +kernel
theorem dX8_force_10 : decode cX8_force 10 = .ok (.lreturn, 1) := by decide +kernel
theorem dX8_force_11 : decode cX8_force 11 = .ok (.iload_n 2, 1) := by decide +kernel
theorem dX8_force_12 : decode cX8_force 12 = .ok (.sipush 1000, 3) := by decide +kernel
theorem dX8_force_15 : decode cX8_force 15 = .ok (.invokestatic 78, 3) := by decide +kernel
theorem dX8_force_18 : decode cX8_force 18 = .ok (.ifCond .eq 18, 3) := by decide +kernel
theorem dX8_force_21 : decode cX8_force 21 = .ok (.iload_n 3, 1) := by decide +kernel
theorem dX8_force_22 : decode cX8_force 22 = .ok (.invokestatic 202, 3) := by decide +kernel
theorem dX8_force_25 : decode cX8_force 25 = .ok (.ifCond .eq 11, 3) := by decide +kernel
theorem dX8_force_28 : decode cX8_force 28 = .ok (.iload 4, 2) := by decide +kernel
theorem dX8_force_30 : decode cX8_force 30 = .ok (.invokestatic 205, 3) := by decide +kernel
theorem dX8_force_33 : decode cX8_force 33 = .ok (.ifCond .ne 7, 3) := by decide +kernel
theorem dX8_force_36 : decode cX8_force 36 = .ok (.ldc2_w 208, 3) := by decide +kernel
theorem dX8_force_39 : decode cX8_force 39 = .ok (.lreturn, 1) := by decide +kernel
theorem dX8_force_4 : decode cX8_force 4 = .ok (.ifCond .ne 7, 3) := by decide +kernel
theorem dX8_force_40 : decode cX8_force 40 = .ok (.aload_n 0, 1) := by decide +kernel
theorem dX8_force_41 : decode cX8_force 41 = .ok (.iload_n 1, 1) := by decide +kernel
theorem dX8_force_42 : decode cX8_force 42 = .ok (.iload_n 2, 1) := by decide +kernel
theorem dX8_force_43 : decode cX8_force 43 = .ok (.aload_n 0, 1) := by decide +kernel
theorem dX8_force_44 : decode cX8_force 44 = .ok (.getfield 58, 3) := by decide +kernel
theorem dX8_force_47 : decode cX8_force 47 = .ok (.invokevirtual 262, 3) := by decide +kernel
theorem dX8_force_50 : decode cX8_force 50 = .ok (.aload_n 0, 1) := by decide +kernel
theorem dX8_force_51 : decode cX8_force 51 = .ok (.getfield 58, 3) := by decide +kernel
theorem dX8_force_54 : decode cX8_force 54 = .ok (.invokevirtual 266, 3) := by decide +kernel
theorem dX8_force_57 : decode cX8_force 57 = .ok (.ifCond .eq 16, 3) := by decide +kernel
theorem dX8_force_60 : decode cX8_force 60 = .ok (.aload_n 0, 1) := by decide +kernel
theorem dX8_force_61 : decode cX8_force 61 = .ok (.getfield 58, 3) := by decide +kernel
theorem dX8_force_64 : decode cX8_force 64 = .ok (.iload_n 3, 1) := by decide +kernel
theorem dX8_force_65 : decode cX8_force 65 = .ok (.iload 4, 2) := by decide +kernel
theorem dX8_force_67 : decode cX8_force 67 = .ok (.invokevirtual 214, 3) := by decide +kernel
theorem dX8_force_7 : decode cX8_force 7 = .ok (.ldc2_w 225, 3) := by decide +kernel
theorem dX8_force_70 : decode cX8_force 70 = .ok (.goto 6, 3) := by decide +kernel
theorem dX8_force_73 : decode cX8_force 73 = .ok (.ldc2_w 267, 3) := by decide +kernel
theorem dX8_force_76 : decode cX8_force 76 = .ok (.lreturn, 1) := by decide +kernel
theorem dX8_high_0 : decode cX8_high 0 = .ok (.aload_n 0, 1) := by decide +kernel
theorem dX8_high_1 : decode cX8_high 1 = .ok (.iload_n 1, 1) := by decide +kernel
theorem dX8_high_2 : decode cX8_high 2 = .ok (.iconst 1, 1) := by decide +kernel
theorem dX8_high_3 : decode cX8_high 3 = .ok (.iload_n 2, 1) := by decide +kernel
theorem dX8_high_4 : decode cX8_high 4 = .ok (.iconst 4, 1) := by decide +kernel
theorem dX8_high_5 : decode cX8_high 5 = .ok (.invokevirtual 218, 3) := by decide +kernel
theorem dX8_high_8 : decode cX8_high 8 = .ok (.lreturn, 1) := by decide +kernel
theorem dX8_isAmbiguous_0 : decode cX8_isAmbiguous 0 = .ok (.bipush 15, 2) := by decide +kernel
theorem dX8_isAmbiguous_10 : decode cX8_isAmbiguous 10 = .ok (.iconst 1, 1) := by decide +kernel
theorem dX8_isAmbiguous_11 : decode cX8_isAmbiguous 11 = .ok (.iconst 4, 1) := by decide +kernel
theorem dX8_isAmbiguous_12 : decode cX8_isAmbiguous 12 = .ok (.invokevirtual 227, 3) := by decide +kernel
theorem dX8_isAmbiguous_15 : decode cX8_isAmbiguous 15 = .ok (.aload_n 0, 1) := by decide +kernel
theorem dX8_isAmbiguous_16 : decode cX8_isAmbiguous 16 = .ok (.getfield 51, 3) := by decide +kernel
theorem dX8_isAmbiguous_19 : decode cX8_isAmbiguous 19 = .ok (.iload_n 2, 1) := by decide +kernel
theorem dX8_isAmbiguous_2 : decode cX8_isAmbiguous 2 = .ok (.iload_n 1, 1) := by decide +kernel
theorem dX8_isAmbiguous_20 : decode cX8_isAmbiguous 20 = .ok (.invokevirtual 231, 3) := by decide +kernel
theorem dX8_isAmbiguous_23 : decode cX8_isAmbiguous 23 = .ok (.lstore_n 3, 1) := by decide +kernel
theorem dX8_isAmbiguous_24 : decode cX8_isAmbiguous 24 = .ok (.aload_n 0, 1) := by decide +kernel
theorem dX8_isAmbiguous_25 : decode cX8_isAmbiguous 25 = .ok (.getfield 51, 3) := by decide +kernel
theorem dX8_isAmbiguous_28 : decode cX8_isAmbiguous 28 = .ok (.invokevirtual 235, 3) := by decide +kernel
theorem dX8_isAmbiguous_3 : decode cX8_isAmbiguous 3 = .ok (.iadd, 1) := by decide +kernel
theorem dX8_isAmbiguous_31 : decode cX8_isAmbiguous 31 = .ok (.lstore 5, 2) := by decide +kernel
theorem dX8_isAmbiguous_33 : decode cX8_isAmbiguous 33 = .ok (.aload_n 0, 1) := by decide +kernel
theorem dX8_isAmbiguous_34 : decode cX8_isAmbiguous 34 = .ok (.getfield 51, 3) := by decide +kernel
theorem dX8_isAmbiguous_37 : decode cX8_isAmbiguous 37 = .ok (.iload_n 2, 1) := by decide +kernel
theorem dX8_isAmbiguous_38 : decode cX8_isAmbiguous 38 = .ok (.iconst 0, 1) := by decide +kernel
theorem dX8_isAmbiguous_39 : decode cX8_isAmbiguous 39 = .ok (.iconst 4, 1) := by decide +kernel
theorem dX8_isAmbiguous_4 : decode cX8_isAmbiguous 4 = .ok (.istore_n 2, 1) := by decide +kernel
theorem dX8_isAmbiguous_40 : decode cX8_isAmbiguous 40 = .ok (.invokevirtual 227, 3) := by decide +kernel
theorem dX8_isAmbiguous_43 : decode cX8_isAmbiguous 43 = .ok (.lload_n 3, 1) := by decide +kernel
theorem dX8_isAmbiguous_44 : decode cX8_isAmbiguous 44 = .ok (.aload_n 0, 1) := by decide +kernel
theorem dX8_isAmbiguous_45 : decode cX8_isAmbiguous 45 = .ok (.getfield 51, 3) := by decide +kernel
theorem dX8_isAmbiguous_48 : decode cX8_isAmbiguous 48 = .ok (.invokevirtual 235, 3) := by decide +kernel
theorem dX8_isAmbiguous_5 : decode cX8_isAmbiguous 5 = .ok (.aload_n 0, 1) := by decide +kernel
theorem dX8_isAmbiguous_51 : decode cX8_isAmbiguous 51 = .ok (.lmul, 1) := by decide +kernel
theorem dX8_isAmbiguous_52 : decode cX8_isAmbiguous 52 = .ok (.aload_n 0, 1) := by decide +kernel
theorem dX8_isAmbiguous_53 : decode cX8_isAmbiguous 53 = .ok (.getfield 51, 3) := by decide +kernel
theorem dX8_isAmbiguous_56 : decode cX8_isAmbiguous 56 = .ok (.iload_n 2, 1) := by decide +kernel
theorem dX8_isAmbiguous_57 : decode cX8_isAmbiguous 57 = .ok (.invokevirtual 231, 3) := by decide +kernel
theorem dX8_isAmbiguous_6 : decode cX8_isAmbiguous 6 = .ok (.getfield 51, 3) := by decide +kernel
theorem dX8_isAmbiguous_60 : decode cX8_isAmbiguous 60 = .ok (.lload 5, 2) := by decide +kernel
theorem dX8_isAmbiguous_62 : decode cX8_isAmbiguous 62 = .ok (.lmul, 1) := by decide +kernel
theorem dX8_isAmbiguous_63 : decode cX8_isAmbiguous 63 = .ok (.lcmp, 1) := by decide +kernel
theorem dX8_isAmbiguous_64 : decode cX8_isAmbiguous 64 = .ok (.ifCond .eq 7, 3) := by decide +kernel
theorem dX8_isAmbiguous_67 : decode cX8_isAmbiguous 67 = .ok (.iconst 1, 1) := by decide +kernel
theorem dX8_isAmbiguous_68 : decode cX8_isAmbiguous 68 = .ok (.goto 4, 3) := by decide +kernel
theorem dX8_isAmbiguous_71 : decode cX8_isAmbiguous 71 = .ok (.iconst 0, 1) := by decide +kernel
theorem dX8_isAmbiguous_72 : decode cX8_isAmbiguous 72 = .ok (.ireturn, 1) := by decide +kernel
theorem dX8_isAmbiguous_9 : decode cX8_isAmbiguous 9 = .ok (.iload_n 2, 1) := by decide +kernel
theorem dX8_low_0 : decode cX8_low 0 = .ok (.aload_n 0, 1) := by decide +kernel
theorem dX8_low_1 : decode cX8_low 1 = .ok (.iload_n 1, 1) := by decide +kernel
theorem dX8_low_2 : decode cX8_low 2 = .ok (.iconst 0, 1) := by decide +kernel
theorem dX8_low_3 : decode cX8_low 3 = .ok (.iload_n 2, 1) := by decide +kernel
theorem dX8_low_4 : decode cX8_low 4 = .ok (.iconst 4, 1) := by decide +kernel
theorem dX8_low_5 : decode cX8_low 5 = .ok (.invokevirtual 218, 3) := by decide +kernel
theorem dX8_low_8 : decode cX8_low 8 = .ok (.lreturn, 1) := by decide +kernel
theorem dX8_parse_0 : decode cX8_parse 0 = .ok (.aload_n 0, 1) := by decide +kernel
theorem dX8_parse_1 : decode cX8_parse 1 = .ok (.getfield 26, 3) := by decide +kernel
theorem dX8_parse_11 : decode cX8_parse 11 = .ok (.istore_n 1, 1) := by decide +kernel
theorem dX8_parse_12 : decode cX8_parse 12 = .ok (.iload_n 1, 1) := by decide +kernel
theorem dX8_parse_13 : decode cX8_parse 13 = .ok (.aload_n 0, 1) := by decide +kernel
theorem dX8_parse_14 : decode cX8_parse 14 = .ok (.getfield 16, 3) := by decide +kernel
theorem dX8_parse_17 : decode cX8_parse 17 = .ok (.invokevirtual 154, 3) := by decide +kernel
theorem dX8_parse_20 : decode cX8_parse 20 = .ok (.if_icmp .lt 26, 3) := by decide +kernel
theorem dX8_parse_23 : decode cX8_parse 23 = .ok (.aload_n 0, 1) := by decide +kernel
theorem dX8_parse_24 : decode cX8_parse 24 = .ok (.getfield 26, 3) := by decide +kernel
theorem dX8_parse_27 : decode cX8_parse 27 = .ok (.invokevirtual 162, 3) := by decide +kernel
theorem dX8_parse_30 : decode cX8_parse 30 = .ok (.ifCond .eq 16, 3) := by decide +kernel
theorem dX8_parse_4 : decode cX8_parse 4 = .ok (.aload_n 0, 1) := by decide +kernel
theorem dX8_parse_46 : decode cX8_parse 46 = .ok (.bipush (-5), 2) := by decide +kernel
theorem dX8_parse_48 : decode cX8_parse 48 = .ok (.ireturn, 1) := by decide +kernel
theorem dX8_parse_5 : decode cX8_parse 5 = .ok (.getfield 16, 3) := by decide +kernel
theorem dX8_parse_8 : decode cX8_parse 8 = .ok (.invokevirtual 158, 3) := by decide +kernel
theorem dX8_play_0 : decode cX8_play 0 = .ok (.aload_n 0, 1) := by decide +kernel
theorem dX8_play_1 : decode cX8_play 1 = .ok (.getfield 33, 3) := by decide +kernel
theorem dX8_play_10 : decode cX8_play 10 = .ok (.ifnonnull 5, 3) := by decide +kernel
theorem dX8_play_13 : decode cX8_play 13 = .ok (.iconst (-1), 1) := by decide +kernel
theorem dX8_play_14 : decode cX8_play 14 = .ok (.ireturn, 1) := by decide +kernel
theorem dX8_play_4 : decode cX8_play 4 = .ok (.iload_n 1, 1) := by decide +kernel
theorem dX8_play_5 : decode cX8_play 5 = .ok (.invokevirtual 107, 3) := by decide +kernel
theorem dX8_play_8 : decode cX8_play 8 = .ok (.astore_n 3, 1) := by decide +kernel
theorem dX8_play_9 : decode cX8_play 9 = .ok (.aload_n 3, 1) := by decide +kernel
theorem dX8_reach_0 : decode cX8_reach 0 = .ok (.aload_n 0, 1) := by decide +kernel
theorem dX8_reach_1 : decode cX8_reach 1 = .ok (.iload_n 1, 1) := by decide +kernel
theorem dX8_reach_2 : decode cX8_reach 2 = .ok (.iload_n 2, 1) := by decide +kernel
theorem dX8_reach_3 : decode cX8_reach 3 = .ok (.iload_n 3, 1) := by decide +kernel
theorem dX8_reach_4 : decode cX8_reach 4 = .ok (.iconst 1, 1) := by decide +kernel
theorem dX8_reach_5 : decode cX8_reach 5 = .ok (.invokevirtual 218, 3) := by decide +kernel
theorem dX8_reach_8 : decode cX8_reach 8 = .ok (.lreturn, 1) := by decide +kernel
theorem dX8_redo_0 : decode cX8_redo 0 = .ok (.aload_n 0, 1) := by decide +kernel
theorem dX8_redo_1 : decode cX8_redo 1 = .ok (.getfield 44, 3) := by decide +kernel
theorem dX8_redo_12 : decode cX8_redo 12 = .ok (.bipush (-5), 2) := by decide +kernel
theorem dX8_redo_14 : decode cX8_redo 14 = .ok (.ireturn, 1) := by decide +kernel
theorem dX8_redo_4 : decode cX8_redo 4 = .ok (.invokevirtual 196, 3) := by decide +kernel
theorem dX8_redo_7 : decode cX8_redo 7 = .ok (.astore_n 1, 1) := by decide +kernel
theorem dX8_redo_8 : decode cX8_redo 8 = .ok (.aload_n 1, 1) := by decide +kernel
theorem dX8_redo_9 : decode cX8_redo 9 = .ok (.ifnonnull 6, 3) := by decide +kernel
theorem dX8_remove_0 : decode cX8_remove 0 = .ok (.aload_n 0, 1) := by decide +kernel
theorem dX8_remove_1 : decode cX8_remove 1 = .ok (.getfield 33, 3) := by decide +kernel
theorem dX8_remove_11 : decode cX8_remove 11 = .ok (.iconst (-1), 1) := by decide +kernel
theorem dX8_remove_12 : decode cX8_remove 12 = .ok (.ireturn, 1) := by decide +kernel
theorem dX8_remove_4 : decode cX8_remove 4 = .ok (.iload_n 1, 1) := by decide +kernel
theorem dX8_remove_5 : decode cX8_remove 5 = .ok (.invokevirtual 107, 3) := by decide +kernel
theorem dX8_remove_8 : decode cX8_remove 8 = .ok (.ifnonnull 5, 3) := by decide +kernel
theorem dX8_restore_0 : decode cX8_restore 0 = .ok (.iload_n 1, 1) := by decide +kernel
theorem dX8_restore_1 : decode cX8_restore 1 = .ok (.ifCond .lt 8, 3) := by decide +kernel
theorem dX8_restore_11 : decode cX8_restore 11 = .ok (.ireturn, 1) := by decide +kernel
theorem dX8_restore_12 : decode cX8_restore 12 = .ok (.aload_n 0, 1) := by decide +kernel
theorem dX8_restore_13 : decode cX8_restore 13 = .ok (.getfield 37, 3) := by decide +kernel
theorem dX8_restore_16 : decode cX8_restore 16 = .ok (.iload_n 1, 1) := by decide +kernel
theorem dX8_restore_17 : decode cX8_restore 17 = .ok (.aaload, 1) := by decide +kernel
theorem dX8_restore_18 : decode cX8_restore 18 = .ok (.astore_n 2, 1) := by decide +kernel
theorem dX8_restore_19 : decode cX8_restore 19 = .ok (.aload_n 2, 1) := by decide +kernel
theorem dX8_restore_20 : decode cX8_restore 20 = .ok (.ifnonnull 6, 3) := by decide +kernel
theorem dX8_restore_23 : decode cX8_restore 23 = .ok (.bipush (-5), 2) := by decide +kernel
theorem dX8_restore_25 : decode cX8_restore 25 = .ok (.ireturn, 1) := by decide +kernel
theorem dX8_restore_4 : decode cX8_restore 4 = .ok (.iload_n 1, 1) := by decide +kernel
theorem dX8_restore_5 : decode cX8_restore 5 = .ok (.iconst 2, 1) := by decide +kernel
theorem dX8_restore_6 : decode cX8_restore 6 = .ok (.if_icmp .lt 6, 3) := by decide +kernel
theorem dX8_restore_9 : decode cX8_restore 9 = .ok (.bipush (-2), 2) := by decide +kernel
theorem dX8_say_0 : decode cX8_say 0 = .ok (.iload_n 1, 1) := by decide +kernel
theorem dX8_say_1 : decode cX8_say 1 = .ok (.bipush 33, 2) := by decide +kernel
theorem dX8_say_12 : decode cX8_say 12 = .ok (.bipush (-2), 2) := by decide +kernel
theorem dX8_say_14 : decode cX8_say 14 = .ok (.ireturn, 1) := by decide +kernel
theorem dX8_say_15 : decode cX8_say 15 = .ok (.aload_n 0, 1) := by decide +kernel
theorem dX8_say_16 : decode cX8_say 16 = .ok (.getfield 16, 3) := by decide +kernel
theorem dX8_say_19 : decode cX8_say 19 = .ok (.invokevirtual 146, 3) := by decide +kernel
theorem dX8_say_22 : decode cX8_say 22 = .ok (.ifCond .eq 6, 3) := by decide +kernel
theorem dX8_say_28 : decode cX8_say 28 = .ok (.aload_n 0, 1) := by decide +kernel
theorem dX8_say_29 : decode cX8_say 29 = .ok (.getfield 16, 3) := by decide +kernel
theorem dX8_say_3 : decode cX8_say 3 = .ok (.if_icmp .lt 9, 3) := by decide +kernel
theorem dX8_say_32 : decode cX8_say 32 = .ok (.iload_n 1, 1) := by decide +kernel
theorem dX8_say_33 : decode cX8_say 33 = .ok (.i2c, 1) := by decide +kernel
theorem dX8_say_34 : decode cX8_say 34 = .ok (.invokevirtual 150, 3) := by decide +kernel
theorem dX8_say_37 : decode cX8_say 37 = .ok (.aload_n 0, 1) := by decide +kernel
theorem dX8_say_38 : decode cX8_say 38 = .ok (.getfield 16, 3) := by decide +kernel
theorem dX8_say_41 : decode cX8_say 41 = .ok (.invokevirtual 154, 3) := by decide +kernel
theorem dX8_say_44 : decode cX8_say 44 = .ok (.ireturn, 1) := by decide +kernel
theorem dX8_say_6 : decode cX8_say 6 = .ok (.iload_n 1, 1) := by decide +kernel
theorem dX8_say_7 : decode cX8_say 7 = .ok (.bipush 126, 2) := by decide +kernel
theorem dX8_say_9 : decode cX8_say 9 = .ok (.if_icmp .le 6, 3) := by decide +kernel
theorem dX8_setConstant_0 : decode cX8_setConstant 0 = .ok (.aload_n 0, 1) := by decide +kernel
theorem dX8_setConstant_1 : decode cX8_setConstant 1 = .ok (.getfield 33, 3) := by decide +kernel
theorem dX8_setConstant_10 : decode cX8_setConstant 10 = .ok (.ifnonnull 5, 3) := by decide +kernel
theorem dX8_setConstant_13 : decode cX8_setConstant 13 = .ok (.iconst (-1), 1) := by decide +kernel
theorem dX8_setConstant_14 : decode cX8_setConstant 14 = .ok (.ireturn, 1) := by decide +kernel
theorem dX8_setConstant_4 : decode cX8_setConstant 4 = .ok (.iload_n 1, 1) := by decide +kernel
theorem dX8_setConstant_5 : decode cX8_setConstant 5 = .ok (.invokevirtual 107, 3) := by decide +kernel
theorem dX8_setConstant_8 : decode cX8_setConstant 8 = .ok (.astore_n 3, 1) := by decide +kernel
theorem dX8_setConstant_9 : decode cX8_setConstant 9 = .ok (.aload_n 3, 1) := by decide +kernel
theorem dX8_setStrength_0 : decode cX8_setStrength 0 = .ok (.aload_n 0, 1) := by decide +kernel
theorem dX8_setStrength_1 : decode cX8_setStrength 1 = .ok (.getfield 33, 3) := by decide +kernel
theorem dX8_setStrength_10 : decode cX8_setStrength 10 = .ok (.aload 4, 2) := by decide +kernel
theorem dX8_setStrength_12 : decode cX8_setStrength 12 = .ok (.ifnonnull 5, 3) := by decide +kernel
theorem dX8_setStrength_15 : decode cX8_setStrength 15 = .ok (.iconst (-1), 1) := by decide +kernel
theorem dX8_setStrength_16 : decode cX8_setStrength 16 = .ok (.ireturn, 1) := by decide +kernel
theorem dX8_setStrength_4 : decode cX8_setStrength 4 = .ok (.iload_n 1, 1) := by decide +kernel
theorem dX8_setStrength_5 : decode cX8_setStrength 5 = .ok (.invokevirtual 107, 3) := by decide +kernel
theorem dX8_setStrength_8 : decode cX8_setStrength 8 = .ok (.astore 4, 2) := by decide +kernel
theorem dX8_spell_0 : decode cX8_spell 0 = .ok (.aload_n 0, 1) := by decide +kernel
theorem dX8_spell_1 : decode cX8_spell 1 = .ok (.getfield 33, 3) := by decide +kernel
theorem dX8_spell_10 : decode cX8_spell 10 = .ok (.ifnonnull 5, 3) := by decide +kernel
theorem dX8_spell_13 : decode cX8_spell 13 = .ok (.iconst (-1), 1) := by decide +kernel
theorem dX8_spell_14 : decode cX8_spell 14 = .ok (.ireturn, 1) := by decide +kernel
theorem dX8_spell_4 : decode cX8_spell 4 = .ok (.iload_n 1, 1) := by decide +kernel
theorem dX8_spell_5 : decode cX8_spell 5 = .ok (.invokevirtual 107, 3) := by decide +kernel
theorem dX8_spell_8 : decode cX8_spell 8 = .ok (.astore_n 3, 1) := by decide +kernel
theorem dX8_spell_9 : decode cX8_spell 9 = .ok (.aload_n 3, 1) := by decide +kernel
theorem dX8_status_0 : decode cX8_status 0 = .ok (.aload_n 0, 1) := by decide +kernel
theorem dX8_status_1 : decode cX8_status 1 = .ok (.getfield 33, 3) := by decide +kernel
theorem dX8_status_10 : decode cX8_status 10 = .ok (.ifnonnull 5, 3) := by decide +kernel
theorem dX8_status_13 : decode cX8_status 13 = .ok (.iconst (-1), 1) := by decide +kernel
theorem dX8_status_14 : decode cX8_status 14 = .ok (.ireturn, 1) := by decide +kernel
theorem dX8_status_4 : decode cX8_status 4 = .ok (.iload_n 1, 1) := by decide +kernel
theorem dX8_status_5 : decode cX8_status 5 = .ok (.invokevirtual 107, 3) := by decide +kernel
theorem dX8_status_8 : decode cX8_status 8 = .ok (.astore_n 2, 1) := by decide +kernel
theorem dX8_status_9 : decode cX8_status 9 = .ok (.aload_n 2, 1) := by decide +kernel
theorem dX8_term_0 : decode cX8_term 0 = .ok (.iload_n 1, 1) := by decide +kernel
theorem dX8_term_1 : decode cX8_term 1 = .ok (.invokestatic 74, 3) := by decide +kernel
theorem dX8_term_10 : decode cX8_term 10 = .ok (.iconst 3, 1) := by decide +kernel
theorem dX8_term_11 : decode cX8_term 11 = .ok (.invokestatic 78, 3) := by decide +kernel
theorem dX8_term_14 : decode cX8_term 14 = .ok (.ifCond .ne 6, 3) := by decide +kernel
theorem dX8_term_17 : decode cX8_term 17 = .ok (.bipush (-2), 2) := by decide +kernel
theorem dX8_term_19 : decode cX8_term 19 = .ok (.ireturn, 1) := by decide +kernel
theorem dX8_term_20 : decode cX8_term 20 = .ok (.aload_n 0, 1) := by decide +kernel
theorem dX8_term_21 : decode cX8_term 21 = .ok (.getfield 9, 3) := by decide +kernel
theorem dX8_term_24 : decode cX8_term 24 = .ok (.iload_n 1, 1) := by decide +kernel
theorem dX8_term_25 : decode cX8_term 25 = .ok (.iaload, 1) := by decide +kernel
theorem dX8_term_26 : decode cX8_term 26 = .ok (.istore_n 3, 1) := by decide +kernel
theorem dX8_term_27 : decode cX8_term 27 = .ok (.aload_n 0, 1) := by decide +kernel
theorem dX8_term_28 : decode cX8_term 28 = .ok (.getfield 9, 3) := by decide +kernel
theorem dX8_term_31 : decode cX8_term 31 = .ok (.iload_n 1, 1) := by decide +kernel
theorem dX8_term_32 : decode cX8_term 32 = .ok (.iload_n 2, 1) := by decide +kernel
theorem dX8_term_33 : decode cX8_term 33 = .ok (.iastore, 1) := by decide +kernel
theorem dX8_term_34 : decode cX8_term 34 = .ok (.iload_n 3, 1) := by decide +kernel
theorem dX8_term_35 : decode cX8_term 35 = .ok (.bipush 10, 2) := by decide +kernel
theorem dX8_term_37 : decode cX8_term 37 = .ok (.iadd, 1) := by decide +kernel
theorem dX8_term_38 : decode cX8_term 38 = .ok (.ireturn, 1) := by decide +kernel
theorem dX8_term_4 : decode cX8_term 4 = .ok (.ifCond .ne 5, 3) := by decide +kernel
theorem dX8_term_7 : decode cX8_term 7 = .ok (.iconst (-1), 1) := by decide +kernel
theorem dX8_term_8 : decode cX8_term 8 = .ok (.ireturn, 1) := by decide +kernel
theorem dX8_term_9 : decode cX8_term 9 = .ok (.iload_n 2, 1) := by decide +kernel
theorem dX8_undo_0 : decode cX8_undo 0 = .ok (.aload_n 0, 1) := by decide +kernel
theorem dX8_undo_1 : decode cX8_undo 1 = .ok (.getfield 44, 3) := by decide +kernel
theorem dX8_undo_12 : decode cX8_undo 12 = .ok (.bipush (-5), 2) := by decide +kernel
theorem dX8_undo_14 : decode cX8_undo 14 = .ok (.ireturn, 1) := by decide +kernel
theorem dX8_undo_4 : decode cX8_undo 4 = .ok (.invokevirtual 179, 3) := by decide +kernel
theorem dX8_undo_7 : decode cX8_undo 7 = .ok (.astore_n 1, 1) := by decide +kernel
theorem dX8_undo_8 : decode cX8_undo 8 = .ok (.aload_n 1, 1) := by decide +kernel
theorem dX8_undo_9 : decode cX8_undo 9 = .ok (.ifnonnull 6, 3) := by decide +kernel
theorem dX8_value_0 : decode cX8_value 0 = .ok (.aload_n 0, 1) := by decide +kernel
theorem dX8_value_1 : decode cX8_value 1 = .ok (.getfield 33, 3) := by decide +kernel
theorem dX8_value_11 : decode cX8_value 11 = .ok (.ldc2_w 225, 3) := by decide +kernel
theorem dX8_value_14 : decode cX8_value 14 = .ok (.lreturn, 1) := by decide +kernel
theorem dX8_value_4 : decode cX8_value 4 = .ok (.iload_n 1, 1) := by decide +kernel
theorem dX8_value_5 : decode cX8_value 5 = .ok (.invokevirtual 107, 3) := by decide +kernel
theorem dX8_value_8 : decode cX8_value 8 = .ok (.ifnonnull 7, 3) := by decide +kernel
theorem dX8_variableAt_0 : decode cX8_variableAt 0 = .ok (.iload_n 1, 1) := by decide +kernel
theorem dX8_variableAt_1 : decode cX8_variableAt 1 = .ok (.invokestatic 74, 3) := by decide +kernel
theorem dX8_variableAt_10 : decode cX8_variableAt 10 = .ok (.lreturn, 1) := by decide +kernel
theorem dX8_variableAt_11 : decode cX8_variableAt 11 = .ok (.iload_n 2, 1) := by decide +kernel
theorem dX8_variableAt_12 : decode cX8_variableAt 12 = .ok (.invokestatic 205, 3) := by decide +kernel
theorem dX8_variableAt_15 : decode cX8_variableAt 15 = .ok (.ifCond .eq 10, 3) := by decide +kernel
theorem dX8_variableAt_18 : decode cX8_variableAt 18 = .ok (.iload_n 3, 1) := by decide +kernel
theorem dX8_variableAt_19 : decode cX8_variableAt 19 = .ok (.invokestatic 205, 3) := by decide +kernel
theorem dX8_variableAt_22 : decode cX8_variableAt 22 = .ok (.ifCond .ne 7, 3) := by decide +kernel
theorem dX8_variableAt_25 : decode cX8_variableAt 25 = .ok (.ldc2_w 208, 3) := by decide +kernel
theorem dX8_variableAt_28 : decode cX8_variableAt 28 = .ok (.lreturn, 1) := by decide +kernel
theorem dX8_variableAt_29 : decode cX8_variableAt 29 = .ok (.bipush 15, 2) := by decide +kernel
theorem dX8_variableAt_31 : decode cX8_variableAt 31 = .ok (.iload_n 1, 1) := by decide +kernel
theorem dX8_variableAt_32 : decode cX8_variableAt 32 = .ok (.iadd, 1) := by decide +kernel
theorem dX8_variableAt_33 : decode cX8_variableAt 33 = .ok (.istore 5, 2) := by decide +kernel
theorem dX8_variableAt_35 : decode cX8_variableAt 35 = .ok (.aload_n 0, 1) := by decide +kernel
theorem dX8_variableAt_36 : decode cX8_variableAt 36 = .ok (.getfield 51, 3) := by decide +kernel
theorem dX8_variableAt_39 : decode cX8_variableAt 39 = .ok (.iload 5, 2) := by decide +kernel
theorem dX8_variableAt_4 : decode cX8_variableAt 4 = .ok (.ifCond .ne 7, 3) := by decide +kernel
theorem dX8_variableAt_41 : decode cX8_variableAt 41 = .ok (.iload_n 2, 1) := by decide +kernel
theorem dX8_variableAt_42 : decode cX8_variableAt 42 = .ok (.ifCond .ne 7, 3) := by decide +kernel
theorem dX8_variableAt_45 : decode cX8_variableAt 45 = .ok (.iconst 1, 1) := by decide +kernel
theorem dX8_variableAt_46 : decode cX8_variableAt 46 = .ok (.goto 4, 3) := by decide +kernel
theorem dX8_variableAt_49 : decode cX8_variableAt 49 = .ok (.iconst 0, 1) := by decide +kernel
theorem dX8_variableAt_50 : decode cX8_variableAt 50 = .ok (.iload 4, 2) := by decide +kernel
theorem dX8_variableAt_52 : decode cX8_variableAt 52 = .ok (.invokevirtual 227, 3) := by decide +kernel
theorem dX8_variableAt_55 : decode cX8_variableAt 55 = .ok (.aload_n 0, 1) := by decide +kernel
theorem dX8_variableAt_56 : decode cX8_variableAt 56 = .ok (.getfield 51, 3) := by decide +kernel
theorem dX8_variableAt_59 : decode cX8_variableAt 59 = .ok (.iload 5, 2) := by decide +kernel
theorem dX8_variableAt_61 : decode cX8_variableAt 61 = .ok (.invokevirtual 231, 3) := by decide +kernel
theorem dX8_variableAt_64 : decode cX8_variableAt 64 = .ok (.aload_n 0, 1) := by decide +kernel
theorem dX8_variableAt_65 : decode cX8_variableAt 65 = .ok (.getfield 51, 3) := by decide +kernel
theorem dX8_variableAt_68 : decode cX8_variableAt 68 = .ok (.invokevirtual 235, 3) := by decide +kernel
theorem dX8_variableAt_7 : decode cX8_variableAt 7 = .ok (.ldc2_w 225, 3) := by decide +kernel
theorem dX8_variableAt_71 : decode cX8_variableAt 71 = .ok (.iload_n 3, 1) := by decide +kernel
theorem dX8_variableAt_72 : decode cX8_variableAt 72 = .ok (.invokestatic 239, 3) := by decide +kernel
theorem dX8_variableAt_75 : decode cX8_variableAt 75 = .ok (.lreturn, 1) := by decide +kernel
theorem dX8_wipe_0 : decode cX8_wipe 0 = .ok (.aload_n 0, 1) := by decide +kernel
theorem dX8_wipe_1 : decode cX8_wipe 1 = .ok (.getfield 16, 3) := by decide +kernel
theorem dX8_wipe_12 : decode cX8_wipe 12 = .ok (.invokevirtual 155, 3) := by decide +kernel
theorem dX8_wipe_15 : decode cX8_wipe 15 = .ok (.iload_n 1, 1) := by decide +kernel
theorem dX8_wipe_16 : decode cX8_wipe 16 = .ok (.ireturn, 1) := by decide +kernel
theorem dX8_wipe_4 : decode cX8_wipe 4 = .ok (.invokevirtual 154, 3) := by decide +kernel
theorem dX8_wipe_7 : decode cX8_wipe 7 = .ok (.istore_n 1, 1) := by decide +kernel
theorem dX8_wipe_8 : decode cX8_wipe 8 = .ok (.aload_n 0, 1) := by decide +kernel
theorem dX8_wipe_9 : decode cX8_wipe 9 = .ok (.getfield 16, 3) := by decide +kernel
theorem ggX7_read_X6_size : GoodIn wsX7_read wsX6_size := goodIn_r _ [18, 19, 79, 80] (by decide +kernel) (by decide +kernel)
theorem ggX7_read_X7_begin : GoodIn wsX7_read wsX7_begin := goodIn_r _ [5, 6, 7, 8, 9, 10, 11, 12, 13, 70, 71, 72, 73, 74, 75, 76, 77, 78] (by decide +kernel) (by decide +kernel)
theorem ggX8_about_X5_at : GoodIn wsX8_about wsX5_at := goodIn_r _ [10, 11, 38] (by decide +kernel) (by decide +kernel)
theorem ggX8_add_X8_isAllZero : GoodIn wsX8_add wsX8_isAllZero := goodIn_r _ [26] (by decide +kernel) (by decide +kernel)
theorem ggX8_add_X8_isRelation : GoodIn wsX8_add wsX8_isRelation := goodIn_r _ [14] (by decide +kernel) (by decide +kernel)
theorem ggX8_add_X8_isStrength : GoodIn wsX8_add wsX8_isStrength := goodIn_r _ [20] (by decide +kernel) (by decide +kernel)
theorem ggX8_add_X8_isWeight : GoodIn wsX8_add wsX8_isWeight := goodIn_r _ [23] (by decide +kernel) (by decide +kernel)
theorem ggX8_add_X8_isWithin : GoodIn wsX8_add wsX8_isWithin := goodIn_r _ [17] (by decide +kernel) (by decide +kernel)
theorem ggX8_ambiguous_X8_isAmbiguous : GoodIn wsX8_ambiguous wsX8_isAmbiguous := goodIn_r _ [5, 6, 7, 8, 9, 10, 11, 12, 13, 14, 15, 16, 17, 18, 19, 20, 21, 22, 23, 24, 25, 26, 27, 28, 29, 30, 31, 32, 33, 34, 35, 36, 37, 38, 39, 40, 41, 42, 43, 44, 45, 46, 47, 48, 49, 50, 51, 52, 53, 54, 55, 56, 57, 58, 59, 60, 61, 62, 63, 64, 65, 66, 67, 68, 69, 70, 71, 72, 73, 74, 75, 76, 77, 78, 79, 80, 81, 82, 83, 84, 85, 86, 87, 88, 89, 90, 91, 92, 93, 94, 95] (by decide +kernel) (by decide +kernel)
theorem ggX8_best_X2_compareWith : GoodIn wsX8_best wsX2_compareWith := goodIn_r _ [134, 116, 117, 135, 88, 89, 90, 168, 169] (by decide +kernel) (by decide +kernel)
theorem ggX8_best_X2_copy : GoodIn wsX8_best wsX2_copy := goodIn_r _ [139, 116, 117, 168, 169] (by decide +kernel) (by decide +kernel)
theorem ggX8_best_X2_isFeasible : GoodIn wsX8_best wsX2_isFeasible := goodIn_r _ [130, 116, 168, 169] (by decide +kernel) (by decide +kernel)
theorem ggX8_best_X8_findCostsAt : GoodIn wsX8_best wsX8_findCostsAt := goodIn_r _ [13, 14, 15, 3, 4, 5, 6, 16, 17, 18, 19, 20, 21, 22, 23, 24, 25, 26, 27, 28, 29, 30, 31, 32, 33, 34, 35, 36, 37, 38, 39, 40, 41, 42, 43, 44, 45, 46, 47, 48, 49, 50, 51, 52, 53, 54, 55, 56, 57, 58, 59, 60, 61, 62, 63, 64, 65, 66, 67, 68, 69, 70, 71, 72, 73, 74, 75, 76, 77, 78, 79, 80, 81, 82, 83, 84, 85, 86, 87, 88, 89, 90, 91, 92, 93, 94, 95, 96, 97, 98, 99, 100, 101, 102, 103, 104, 105, 106, 107, 108, 109, 110, 111, 112, 113, 114, 115, 116, 117, 118, 119, 120, 121, 122, 123, 124, 125, 126, 140, 141, 142, 143, 144, 145, 146, 147, 148, 149, 150, 151, 152, 153, 154, 155, 156, 157, 158, 159, 160, 161, 162, 163, 164, 165, 166, 167, 168, 169] (by decide +kernel) (by decide +kernel)
theorem ggX8_best_X8_isVariable : GoodIn wsX8_best wsX8_isVariable := goodIn_r _ [6] (by decide +kernel) (by decide +kernel)
theorem ggX8_best_X8_isWithin : GoodIn wsX8_best wsX8_isWithin := goodIn_r _ [9] (by decide +kernel) (by decide +kernel)
theorem ggX8_blockers_X8_isAllZero : GoodIn wsX8_blockers wsX8_isAllZero := goodIn_r _ [15] (by decide +kernel) (by decide +kernel)
theorem ggX8_blockers_X8_isRelation : GoodIn wsX8_blockers wsX8_isRelation := goodIn_r _ [9] (by decide +kernel) (by decide +kernel)
theorem ggX8_blockers_X8_isWithin : GoodIn wsX8_blockers wsX8_isWithin := goodIn_r _ [12] (by decide +kernel) (by decide +kernel)
theorem ggX8_burdens_X5_at : GoodIn wsX8_burdens wsX5_at := goodIn_r _ [90, 91, 158] (by decide +kernel) (by decide +kernel)
theorem ggX8_burdens_X8_findCosts : GoodIn wsX8_burdens wsX8_findCosts := goodIn_r _ [9, 3, 10, 11, 12, 13, 14, 15, 16, 17, 18, 19, 20, 21, 22, 23, 24, 25, 26, 27, 28, 29, 30, 31, 32, 33, 34, 35, 36, 37, 38, 39, 40, 41, 42, 43, 44, 45, 46, 47, 48, 49, 50, 51, 52, 53, 54, 55, 56, 57, 58, 59, 60, 61, 62, 63, 64, 65, 66, 67, 68, 69, 70, 71, 72, 73, 74, 75, 76, 77, 78, 79, 80, 81, 82, 83, 84, 85, 133, 134, 135, 136, 137, 138, 139, 140, 141, 142, 143, 144, 145, 146, 147, 148, 149, 150, 151, 152, 153, 154, 155, 156, 157] (by decide +kernel) (by decide +kernel)
theorem ggX8_connected_X5_at : GoodIn wsX8_connected wsX5_at := goodIn_r _ [10, 11, 29] (by decide +kernel) (by decide +kernel)
theorem ggX8_connected_X8_isVariable : GoodIn wsX8_connected wsX8_isVariable := goodIn_r _ [5] (by decide +kernel) (by decide +kernel)
theorem ggX8_constraints_X5_mask : GoodIn wsX8_constraints wsX5_mask := goodIn_r _ [6, 7, 19] (by decide +kernel) (by decide +kernel)
theorem ggX8_cost_X2_part : GoodIn wsX8_cost wsX2_part := goodIn_r _ [94, 81, 82, 95, 5, 96, 97, 61, 62, 63, 121, 122] (by decide +kernel) (by decide +kernel)
theorem ggX8_cost_X8_findCosts : GoodIn wsX8_cost wsX8_findCosts := goodIn_r _ [13, 14, 15, 16, 17, 18, 19, 20, 21, 22, 23, 24, 25, 26, 27, 28, 29, 30, 31, 32, 33, 34, 35, 36, 37, 38, 39, 40, 41, 42, 43, 44, 45, 46, 47, 48, 49, 50, 51, 52, 53, 54, 55, 56, 57, 58, 59, 60, 61, 62, 63, 64, 65, 66, 67, 68, 69, 70, 71, 72, 73, 74, 75, 76, 77, 78, 79, 80, 81, 82, 83, 84, 85, 86, 87, 88, 89, 90, 98, 99, 100, 101, 102, 103, 104, 105, 106, 107, 108, 109, 110, 111, 112, 113, 114, 115, 116, 117, 118, 119, 120, 121, 122] (by decide +kernel) (by decide +kernel)
theorem ggX8_cost_X8_isPart : GoodIn wsX8_cost wsX8_isPart := goodIn_r _ [9] (by decide +kernel) (by decide +kernel)
theorem ggX8_cost_X8_isSoft : GoodIn wsX8_cost wsX8_isSoft := goodIn_r _ [6] (by decide +kernel) (by decide +kernel)
theorem ggX8_count_X4_done : GoodIn wsX8_count wsX4_done := goodIn_r _ [31, 32, 57, 58, 59] (by decide +kernel) (by decide +kernel)
theorem ggX8_count_X4_undone : GoodIn wsX8_count wsX4_undone := goodIn_r _ [36, 37, 57, 58, 59] (by decide +kernel) (by decide +kernel)
theorem ggX8_count_X5_requiredOnes : GoodIn wsX8_count wsX5_requiredOnes := goodIn_r _ [41, 13, 42, 54, 60, 61, 62, 63, 64] (by decide +kernel) (by decide +kernel)
theorem ggX8_count_X5_size : GoodIn wsX8_count wsX5_size := goodIn_r _ [8, 9, 10, 11, 7, 12, 13, 14, 15, 16, 17, 18, 19, 20, 54] (by decide +kernel) (by decide +kernel)
theorem ggX8_count_X6_size : GoodIn wsX8_count wsX6_size := goodIn_r _ [25, 26, 55, 56] (by decide +kernel) (by decide +kernel)
theorem ggX8_fault_X7_isAtEnd : GoodIn wsX8_fault wsX7_isAtEnd := goodIn_r _ [79, 13, 92, 93, 94, 95, 96, 97, 98, 99, 100] (by decide +kernel) (by decide +kernel)
theorem ggX8_fault_X7_read : GoodIn wsX8_fault wsX7_read := goodIn_r _ [7, 8, 9, 10, 6, 11, 12, 13, 14, 15, 16, 17, 18, 19, 20, 21, 22, 23, 24, 25, 26, 27, 28, 29, 30, 31, 32, 33, 34, 35, 36, 37, 38, 39, 40, 41, 42, 43, 44, 45, 46, 47, 48, 49, 50, 51, 52, 53, 54, 55, 56, 57, 58, 59, 60, 61, 62, 63, 64, 65, 66, 67, 68, 69, 70, 71, 72, 73, 74, 75, 92, 93, 94, 95, 96, 97, 98, 99, 100, 101, 102] (by decide +kernel) (by decide +kernel)
theorem ggX8_findCostsAt_X3_lift : GoodIn wsX8_findCostsAt wsX3_lift := goodIn_r _ [24, 25, 26, 14, 129, 130, 131, 132, 133, 134, 135, 136, 137, 138, 139, 140] (by decide +kernel) (by decide +kernel)
theorem ggX8_findCostsAt_X3_placeWith : GoodIn wsX8_findCostsAt wsX3_placeWith := goodIn_r _ [11, 12, 13, 14, 15, 16, 17, 18, 19, 20, 21, 22, 23, 10, 24, 25, 26, 27, 28, 29, 30, 31, 32, 33, 34, 35, 36, 37, 38, 39, 40, 41, 42, 43, 44, 45, 46, 129, 130, 131, 132, 133, 134, 135, 136, 137, 138, 139, 140, 141, 142, 143, 144, 145] (by decide +kernel) (by decide +kernel)
theorem ggX8_findCostsAt_X8_findCosts : GoodIn wsX8_findCostsAt wsX8_findCosts := goodIn_r _ [50, 1, 51, 52, 53, 10, 54, 55, 56, 57, 58, 59, 60, 61, 62, 63, 64, 65, 14, 25, 16, 20, 18, 19, 66, 67, 68, 69, 12, 70, 71, 72, 73, 26, 74, 75, 76, 77, 13, 78, 79, 80, 81, 82, 83, 84, 85, 86, 87, 88, 89, 90, 91, 92, 93, 94, 95, 96, 97, 98, 99, 100, 101, 102, 103, 104, 105, 106, 107, 108, 109, 110, 111, 112, 113, 114, 115, 116, 118, 119, 120, 121, 122, 123, 124, 125, 126, 127, 128, 129, 130, 131, 132, 133, 134, 135, 136, 137, 138, 139, 140, 146, 147] (by decide +kernel) (by decide +kernel)
theorem ggX8_findCostsAt_X8_isVariable : GoodIn wsX8_findCostsAt wsX8_isVariable := goodIn_r _ [6] (by decide +kernel) (by decide +kernel)
theorem ggX8_findCosts_X3_settle : GoodIn wsX8_findCosts wsX3_settle := goodIn_r _ [6, 7, 8, 9, 5, 10, 11, 12, 13, 14, 15, 16, 17, 18, 19, 20, 21, 22, 23, 24, 25, 26, 27, 28, 29, 30, 31, 32, 33, 34, 35, 36, 37, 38, 39, 40, 41, 42, 43, 44, 45, 46, 47, 48, 49, 50, 51, 52, 53, 54, 55, 56, 57, 58, 89, 90, 91, 92, 93, 94, 95, 96, 97, 98, 99, 100] (by decide +kernel) (by decide +kernel)
theorem ggX8_findCosts_X3_tellCosts : GoodIn wsX8_findCosts wsX3_tellCosts := goodIn_r _ [62, 38, 18, 20, 63, 64, 65, 66, 67, 68, 69, 70, 71, 72, 5, 73, 28, 22, 23, 74, 75, 76, 77, 89, 90, 91, 92, 93, 94, 95, 96, 97, 98, 99, 100, 101, 102] (by decide +kernel) (by decide +kernel)
theorem ggX8_force_X2_isFeasible : GoodIn wsX8_force wsX2_isFeasible := goodIn_r _ [138, 124, 174, 175] (by decide +kernel) (by decide +kernel)
theorem ggX8_force_X2_part : GoodIn wsX8_force wsX2_part := goodIn_r _ [142, 124, 125, 143, 7, 144, 145, 104, 105, 106, 174, 175] (by decide +kernel) (by decide +kernel)
theorem ggX8_force_X8_findCostsAt : GoodIn wsX8_force wsX8_findCostsAt := goodIn_r _ [21, 22, 23, 5, 6, 7, 8, 24, 25, 26, 27, 28, 29, 30, 31, 32, 33, 34, 35, 36, 37, 38, 39, 40, 41, 42, 43, 44, 45, 46, 47, 48, 49, 50, 51, 52, 53, 54, 55, 56, 57, 58, 59, 60, 61, 62, 63, 64, 65, 66, 67, 68, 69, 70, 71, 72, 73, 74, 75, 76, 77, 78, 79, 80, 81, 82, 83, 84, 85, 86, 87, 88, 89, 90, 91, 92, 93, 94, 95, 96, 97, 98, 99, 100, 101, 102, 103, 104, 105, 106, 107, 108, 109, 110, 111, 112, 113, 114, 115, 116, 117, 118, 119, 120, 121, 122, 123, 124, 125, 126, 127, 128, 129, 130, 131, 132, 133, 134, 146, 147, 148, 149, 150, 151, 152, 153, 154, 155, 156, 157, 158, 159, 160, 161, 162, 163, 164, 165, 166, 167, 168, 169, 170, 171, 172, 173, 174, 175] (by decide +kernel) (by decide +kernel)
theorem ggX8_force_X8_isPart : GoodIn wsX8_force wsX8_isPart := goodIn_r _ [17] (by decide +kernel) (by decide +kernel)
theorem ggX8_force_X8_isSoft : GoodIn wsX8_force wsX8_isSoft := goodIn_r _ [14] (by decide +kernel) (by decide +kernel)
theorem ggX8_force_X8_isVariable : GoodIn wsX8_force wsX8_isVariable := goodIn_r _ [8] (by decide +kernel) (by decide +kernel)
theorem ggX8_force_X8_isWithin : GoodIn wsX8_force wsX8_isWithin := goodIn_r _ [11] (by decide +kernel) (by decide +kernel)
theorem ggX8_high_X8_variableAt : GoodIn wsX8_high wsX8_variableAt := goodIn_r _ [5, 6, 7, 8, 9, 10, 4, 11, 12, 13, 14, 15, 16, 17, 18, 19, 20, 21, 22, 23, 24, 25, 26, 27, 28, 29, 30, 31, 32, 33, 34, 35, 36, 37, 38, 39, 40, 41, 42, 43, 44, 45, 46, 47, 48, 49, 50, 51, 52, 53, 54, 55, 56, 57, 58, 59, 60, 61, 62, 63, 64, 65, 66, 67, 68, 69, 70, 71, 72, 73, 74, 75, 76, 77, 78, 79, 80, 81, 82, 83, 84, 85, 86, 87, 88, 89, 90, 91, 92, 93, 94, 95, 96, 97, 98, 99, 100, 101, 102, 103, 104, 105, 106, 107] (by decide +kernel) (by decide +kernel)
theorem ggX8_isAmbiguous_X3_denominator : GoodIn wsX8_isAmbiguous wsX3_denominator := goodIn_r _ [67, 38, 79, 80, 81, 82, 83, 84, 85, 86, 87, 88, 89, 90] (by decide +kernel) (by decide +kernel)
theorem ggX8_isAmbiguous_X3_goTo : GoodIn wsX8_isAmbiguous wsX3_goTo := goodIn_r _ [6, 7, 8, 9, 5, 10, 11, 12, 13, 14, 15, 16, 17, 18, 19, 20, 21, 22, 23, 24, 25, 26, 27, 28, 29, 30, 31, 32, 33, 34, 35, 36, 37, 38, 39, 40, 41, 42, 43, 44, 45, 46, 47, 48, 49, 50, 51, 52, 53, 54, 55, 56, 57, 58, 79, 80, 81, 82, 83, 84, 85, 86, 87, 88, 89, 90] (by decide +kernel) (by decide +kernel)
theorem ggX8_isAmbiguous_X3_numerator : GoodIn wsX8_isAmbiguous wsX3_numerator := goodIn_r _ [62, 28, 63, 38, 79, 80, 81, 82, 83, 84, 85, 86, 87, 88, 89, 90] (by decide +kernel) (by decide +kernel)
theorem ggX8_low_X8_variableAt : GoodIn wsX8_low wsX8_variableAt := goodIn_r _ [5, 6, 7, 8, 9, 10, 4, 11, 12, 13, 14, 15, 16, 17, 18, 19, 20, 21, 22, 23, 24, 25, 26, 27, 28, 29, 30, 31, 32, 33, 34, 35, 36, 37, 38, 39, 40, 41, 42, 43, 44, 45, 46, 47, 48, 49, 50, 51, 52, 53, 54, 55, 56, 57, 58, 59, 60, 61, 62, 63, 64, 65, 66, 67, 68, 69, 70, 71, 72, 73, 74, 75, 76, 77, 78, 79, 80, 81, 82, 83, 84, 85, 86, 87, 88, 89, 90, 91, 92, 93, 94, 95, 96, 97, 98, 99, 100, 101, 102, 103, 104, 105, 106, 107] (by decide +kernel) (by decide +kernel)
theorem ggX8_parse_X6_size : GoodIn wsX8_parse wsX6_size := goodIn_r _ [25, 26, 277, 278] (by decide +kernel) (by decide +kernel)
theorem ggX8_parse_X7_isAtEnd : GoodIn wsX8_parse wsX7_isAtEnd := goodIn_r _ [81, 14, 268, 269, 270, 271, 272, 273, 274, 275, 276] (by decide +kernel) (by decide +kernel)
theorem ggX8_parse_X7_read : GoodIn wsX8_parse wsX7_read := goodIn_r _ [8, 9, 10, 11, 7, 12, 13, 14, 15, 16, 17, 18, 19, 20, 21, 22, 23, 24, 25, 26, 27, 28, 29, 30, 31, 32, 33, 34, 35, 36, 37, 38, 39, 40, 41, 42, 43, 44, 45, 46, 47, 48, 49, 50, 51, 52, 53, 54, 55, 56, 57, 58, 59, 60, 61, 62, 63, 64, 65, 66, 67, 68, 69, 70, 71, 72, 73, 74, 75, 76, 268, 269, 270, 271, 272, 273, 274, 275, 276, 277, 278] (by decide +kernel) (by decide +kernel)
theorem ggX8_play_X5_at : GoodIn wsX8_play wsX5_at := goodIn_r _ [9, 10, 164] (by decide +kernel) (by decide +kernel)
theorem ggX8_reach_X8_variableAt : GoodIn wsX8_reach wsX8_variableAt := goodIn_r _ [5, 6, 7, 8, 9, 10, 4, 11, 12, 13, 14, 15, 16, 17, 18, 19, 20, 21, 22, 23, 24, 25, 26, 27, 28, 29, 30, 31, 32, 33, 34, 35, 36, 37, 38, 39, 40, 41, 42, 43, 44, 45, 46, 47, 48, 49, 50, 51, 52, 53, 54, 55, 56, 57, 58, 59, 60, 61, 62, 63, 64, 65, 66, 67, 68, 69, 70, 71, 72, 73, 74, 75, 76, 77, 78, 79, 80, 81, 82, 83, 84, 85, 86, 87, 88, 89, 90, 91, 92, 93, 94, 95, 96, 97, 98, 99, 100, 101, 102, 103, 104, 105, 106, 107] (by decide +kernel) (by decide +kernel)
theorem ggX8_redo_X4_forth : GoodIn wsX8_redo wsX4_forth := goodIn_r _ [8, 9, 10, 11, 84, 85, 86] (by decide +kernel) (by decide +kernel)
theorem ggX8_remove_X5_at : GoodIn wsX8_remove wsX5_at := goodIn_r _ [6, 7, 166] (by decide +kernel) (by decide +kernel)
theorem ggX8_say_X6_append : GoodIn wsX8_say wsX6_append := goodIn_r _ [11, 7, 12, 28, 29] (by decide +kernel) (by decide +kernel)
theorem ggX8_say_X6_isFull : GoodIn wsX8_say wsX6_isFull := goodIn_r _ [6, 7, 28, 29] (by decide +kernel) (by decide +kernel)
theorem ggX8_say_X6_size : GoodIn wsX8_say wsX6_size := goodIn_r _ [16, 7, 28, 29] (by decide +kernel) (by decide +kernel)
theorem ggX8_setConstant_X5_at : GoodIn wsX8_setConstant wsX5_at := goodIn_r _ [7, 8, 172] (by decide +kernel) (by decide +kernel)
theorem ggX8_setStrength_X5_at : GoodIn wsX8_setStrength wsX5_at := goodIn_r _ [7, 8, 174] (by decide +kernel) (by decide +kernel)
theorem ggX8_spell_X5_at : GoodIn wsX8_spell wsX5_at := goodIn_r _ [7, 8, 60] (by decide +kernel) (by decide +kernel)
theorem ggX8_status_X5_at : GoodIn wsX8_status wsX5_at := goodIn_r _ [8, 9, 87] (by decide +kernel) (by decide +kernel)
theorem ggX8_term_X8_isVariable : GoodIn wsX8_term wsX8_isVariable := goodIn_r _ [5] (by decide +kernel) (by decide +kernel)
theorem ggX8_term_X8_isWithin : GoodIn wsX8_term wsX8_isWithin := goodIn_r _ [8] (by decide +kernel) (by decide +kernel)
theorem ggX8_undo_X4_back : GoodIn wsX8_undo wsX4_back := goodIn_r _ [8, 9, 10, 11, 84, 85, 86] (by decide +kernel) (by decide +kernel)
theorem ggX8_value_X5_at : GoodIn wsX8_value wsX5_at := goodIn_r _ [9, 10, 96] (by decide +kernel) (by decide +kernel)
theorem ggX8_variableAt_X3_denominator : GoodIn wsX8_variableAt wsX3_denominator := goodIn_r _ [76, 47, 92, 93, 94, 95, 96, 97, 98, 99, 100, 101, 102, 103] (by decide +kernel) (by decide +kernel)
theorem ggX8_variableAt_X3_goTo : GoodIn wsX8_variableAt wsX3_goTo := goodIn_r _ [15, 16, 17, 18, 14, 19, 20, 21, 22, 23, 24, 25, 26, 27, 28, 29, 30, 31, 32, 33, 34, 35, 36, 37, 38, 39, 40, 41, 42, 43, 44, 45, 46, 47, 48, 49, 50, 51, 52, 53, 54, 55, 56, 57, 58, 59, 60, 61, 62, 63, 64, 65, 66, 67, 92, 93, 94, 95, 96, 97, 98, 99, 100, 101, 102, 103] (by decide +kernel) (by decide +kernel)
theorem ggX8_variableAt_X3_numerator : GoodIn wsX8_variableAt wsX3_numerator := goodIn_r _ [71, 37, 72, 47, 92, 93, 94, 95, 96, 97, 98, 99, 100, 101, 102, 103] (by decide +kernel) (by decide +kernel)
theorem ggX8_variableAt_X8_isPart : GoodIn wsX8_variableAt wsX8_isPart := goodIn_r _ [10] (by decide +kernel) (by decide +kernel)
theorem ggX8_variableAt_X8_isVariable : GoodIn wsX8_variableAt wsX8_isVariable := goodIn_r _ [7] (by decide +kernel) (by decide +kernel)
theorem ggX8_variableAt_X8_partOf : GoodIn wsX8_variableAt wsX8_partOf := goodIn_r _ [79, 80, 57, 58, 59] (by decide +kernel) (by decide +kernel)
theorem ggX8_wipe_X6_clear : GoodIn wsX8_wipe wsX6_clear := goodIn_r _ [11, 7, 23, 24] (by decide +kernel) (by decide +kernel)
theorem ggX8_wipe_X6_size : GoodIn wsX8_wipe wsX6_size := goodIn_r _ [6, 7, 23, 24] (by decide +kernel) (by decide +kernel)
theorem gX7_read_X6_size : GoodIn wsX7_read (wsV RX7 43 RX6 yX6_size wsX6_size) := goodIn_app (goodIn_of _ (by decide +kernel)) ggX7_read_X6_size
theorem gX7_read_X7_begin : GoodIn wsX7_read (wsV RX7 40 RX7 yX7_begin wsX7_begin) := goodIn_app (goodIn_of _ (by decide +kernel)) ggX7_read_X7_begin
theorem gX8_about_X5_at : GoodIn wsX8_about (wsV RX8 107 RX5 yX5_at wsX5_at) := goodIn_app (goodIn_of _ (by decide +kernel)) ggX8_about_X5_at
theorem gX8_add_X8_isAllZero : GoodIn wsX8_add (va_wsS RX8 91 yX8_isAllZero wsX8_isAllZero) := goodIn_app (goodIn_of _ (by decide +kernel)) ggX8_add_X8_isAllZero
theorem gX8_add_X8_isRelation : GoodIn wsX8_add (va_wsS RX8 82 yX8_isRelation wsX8_isRelation) := goodIn_app (goodIn_of _ (by decide +kernel)) ggX8_add_X8_isRelation
theorem gX8_add_X8_isStrength : GoodIn wsX8_add (va_wsS RX8 85 yX8_isStrength wsX8_isStrength) := goodIn_app (goodIn_of _ (by decide +kernel)) ggX8_add_X8_isStrength
theorem gX8_add_X8_isWeight : GoodIn wsX8_add (va_wsS RX8 88 yX8_isWeight wsX8_isWeight) := goodIn_app (goodIn_of _ (by decide +kernel)) ggX8_add_X8_isWeight
theorem gX8_add_X8_isWithin : GoodIn wsX8_add (va_wsS RX8 78 yX8_isWithin wsX8_isWithin) := goodIn_app (goodIn_of _ (by decide +kernel)) ggX8_add_X8_isWithin
theorem gX8_ambiguous_X8_isAmbiguous : GoodIn wsX8_ambiguous (wsV RX8 222 RX8 yX8_isAmbiguous wsX8_isAmbiguous) := goodIn_app (goodIn_of _ (by decide +kernel)) ggX8_ambiguous_X8_isAmbiguous
theorem gX8_best_X2_compareWith : GoodIn wsX8_best (wsV RX8 269 RX2 yX2_compareWith wsX2_compareWith) := goodIn_app (goodIn_of _ (by decide +kernel)) ggX8_best_X2_compareWith
theorem gX8_best_X2_copy : GoodIn wsX8_best (wsV RX8 273 RX2 yX2_copy wsX2_copy) := goodIn_app (goodIn_of _ (by decide +kernel)) ggX8_best_X2_copy
theorem gX8_best_X2_isFeasible : GoodIn wsX8_best (wsV RX8 266 RX2 yX2_isFeasible wsX2_isFeasible) := goodIn_app (goodIn_of _ (by decide +kernel)) ggX8_best_X2_isFeasible
theorem gX8_best_X8_findCostsAt : GoodIn wsX8_best (wsV RX8 262 RX8 yX8_findCostsAt wsX8_findCostsAt) := goodIn_app (goodIn_of _ (by decide +kernel)) ggX8_best_X8_findCostsAt
theorem gX8_best_X8_isVariable : GoodIn wsX8_best (va_wsS RX8 74 yX8_isVariable wsX8_isVariable) := goodIn_app (goodIn_of _ (by decide +kernel)) ggX8_best_X8_isVariable
theorem gX8_best_X8_isWithin : GoodIn wsX8_best (va_wsS RX8 78 yX8_isWithin wsX8_isWithin) := goodIn_app (goodIn_of _ (by decide +kernel)) ggX8_best_X8_isWithin
theorem gX8_blockers_X8_isAllZero : GoodIn wsX8_blockers (va_wsS RX8 91 yX8_isAllZero wsX8_isAllZero) := goodIn_app (goodIn_of _ (by decide +kernel)) ggX8_blockers_X8_isAllZero
theorem gX8_blockers_X8_isRelation : GoodIn wsX8_blockers (va_wsS RX8 82 yX8_isRelation wsX8_isRelation) := goodIn_app (goodIn_of _ (by decide +kernel)) ggX8_blockers_X8_isRelation
theorem gX8_blockers_X8_isWithin : GoodIn wsX8_blockers (va_wsS RX8 78 yX8_isWithin wsX8_isWithin) := goodIn_app (goodIn_of _ (by decide +kernel)) ggX8_blockers_X8_isWithin
theorem gX8_burdens_X5_at : GoodIn wsX8_burdens (wsV RX8 107 RX5 yX5_at wsX5_at) := goodIn_app (goodIn_of _ (by decide +kernel)) ggX8_burdens_X5_at
theorem gX8_burdens_X8_findCosts : GoodIn wsX8_burdens (wsV RX8 210 RX8 yX8_findCosts wsX8_findCosts) := goodIn_app (goodIn_of _ (by decide +kernel)) ggX8_burdens_X8_findCosts
theorem gX8_connected_X5_at : GoodIn wsX8_connected (wsV RX8 107 RX5 yX5_at wsX5_at) := goodIn_app (goodIn_of _ (by decide +kernel)) ggX8_connected_X5_at
theorem gX8_connected_X8_isVariable : GoodIn wsX8_connected (va_wsS RX8 74 yX8_isVariable wsX8_isVariable) := goodIn_app (goodIn_of _ (by decide +kernel)) ggX8_connected_X8_isVariable
theorem gX8_constraints_X5_mask : GoodIn wsX8_constraints (wsV RX8 143 RX5 yX5_mask wsX5_mask) := goodIn_app (goodIn_of _ (by decide +kernel)) ggX8_constraints_X5_mask
theorem gX8_cost_X2_part : GoodIn wsX8_cost (wsV RX8 214 RX2 yX2_part wsX2_part) := goodIn_app (goodIn_of _ (by decide +kernel)) ggX8_cost_X2_part
theorem gX8_cost_X8_findCosts : GoodIn wsX8_cost (wsV RX8 210 RX8 yX8_findCosts wsX8_findCosts) := goodIn_app (goodIn_of _ (by decide +kernel)) ggX8_cost_X8_findCosts
theorem gX8_cost_X8_isPart : GoodIn wsX8_cost (va_wsS RX8 205 yX8_isPart wsX8_isPart) := goodIn_app (goodIn_of _ (by decide +kernel)) ggX8_cost_X8_isPart
theorem gX8_cost_X8_isSoft : GoodIn wsX8_cost (va_wsS RX8 202 yX8_isSoft wsX8_isSoft) := goodIn_app (goodIn_of _ (by decide +kernel)) ggX8_cost_X8_isSoft
theorem gX8_count_X4_done : GoodIn wsX8_count (wsV RX8 280 RX4 yX4_done wsX4_done) := goodIn_app (goodIn_of _ (by decide +kernel)) ggX8_count_X4_done
theorem gX8_count_X4_undone : GoodIn wsX8_count (wsV RX8 283 RX4 yX4_undone wsX4_undone) := goodIn_app (goodIn_of _ (by decide +kernel)) ggX8_count_X4_undone
theorem gX8_count_X5_requiredOnes : GoodIn wsX8_count (wsV RX8 286 RX5 yX5_requiredOnes wsX5_requiredOnes) := goodIn_app (goodIn_of _ (by decide +kernel)) ggX8_count_X5_requiredOnes
theorem gX8_count_X5_size : GoodIn wsX8_count (wsV RX8 115 RX5 yX5_size wsX5_size) := goodIn_app (goodIn_of _ (by decide +kernel)) ggX8_count_X5_size
theorem gX8_count_X6_size : GoodIn wsX8_count (wsV RX8 154 RX6 yX6_size wsX6_size) := goodIn_app (goodIn_of _ (by decide +kernel)) ggX8_count_X6_size
theorem gX8_fault_X7_isAtEnd : GoodIn wsX8_fault (wsV RX8 162 RX7 yX7_isAtEnd wsX7_isAtEnd) := goodIn_app (goodIn_of _ (by decide +kernel)) ggX8_fault_X7_isAtEnd
theorem gX8_fault_X7_read : GoodIn wsX8_fault (wsV RX8 158 RX7 yX7_read wsX7_read) := goodIn_app (goodIn_of _ (by decide +kernel)) ggX8_fault_X7_read
theorem gX8_findCostsAt_X3_lift : GoodIn wsX8_findCostsAt (wsV RX8 258 RX3 yX3_lift wsX3_lift) := goodIn_app (goodIn_of _ (by decide +kernel)) ggX8_findCostsAt_X3_lift
theorem gX8_findCostsAt_X3_placeWith : GoodIn wsX8_findCostsAt (wsV RX8 306 RX3 yX3_placeWith wsX3_placeWith) := goodIn_app (goodIn_of _ (by decide +kernel)) ggX8_findCostsAt_X3_placeWith
theorem gX8_findCostsAt_X8_findCosts : GoodIn wsX8_findCostsAt (wsV RX8 210 RX8 yX8_findCosts wsX8_findCosts) := goodIn_app (goodIn_of _ (by decide +kernel)) ggX8_findCostsAt_X8_findCosts
theorem gX8_findCostsAt_X8_isVariable : GoodIn wsX8_findCostsAt (va_wsS RX8 74 yX8_isVariable wsX8_isVariable) := goodIn_app (goodIn_of _ (by decide +kernel)) ggX8_findCostsAt_X8_isVariable
theorem gX8_findCosts_X3_settle : GoodIn wsX8_findCosts (wsV RX8 300 RX3 yX3_settle wsX3_settle) := goodIn_app (goodIn_of _ (by decide +kernel)) ggX8_findCosts_X3_settle
theorem gX8_findCosts_X3_tellCosts : GoodIn wsX8_findCosts (wsV RX8 303 RX3 yX3_tellCosts wsX3_tellCosts) := goodIn_app (goodIn_of _ (by decide +kernel)) ggX8_findCosts_X3_tellCosts
theorem gX8_force_X2_isFeasible : GoodIn wsX8_force (wsV RX8 266 RX2 yX2_isFeasible wsX2_isFeasible) := goodIn_app (goodIn_of _ (by decide +kernel)) ggX8_force_X2_isFeasible
theorem gX8_force_X2_part : GoodIn wsX8_force (wsV RX8 214 RX2 yX2_part wsX2_part) := goodIn_app (goodIn_of _ (by decide +kernel)) ggX8_force_X2_part
theorem gX8_force_X8_findCostsAt : GoodIn wsX8_force (wsV RX8 262 RX8 yX8_findCostsAt wsX8_findCostsAt) := goodIn_app (goodIn_of _ (by decide +kernel)) ggX8_force_X8_findCostsAt
theorem gX8_force_X8_isPart : GoodIn wsX8_force (va_wsS RX8 205 yX8_isPart wsX8_isPart) := goodIn_app (goodIn_of _ (by decide +kernel)) ggX8_force_X8_isPart
theorem gX8_force_X8_isSoft : GoodIn wsX8_force (va_wsS RX8 202 yX8_isSoft wsX8_isSoft) := goodIn_app (goodIn_of _ (by decide +kernel)) ggX8_force_X8_isSoft
theorem gX8_force_X8_isVariable : GoodIn wsX8_force (va_wsS RX8 74 yX8_isVariable wsX8_isVariable) := goodIn_app (goodIn_of _ (by decide +kernel)) ggX8_force_X8_isVariable
theorem gX8_force_X8_isWithin : GoodIn wsX8_force (va_wsS RX8 78 yX8_isWithin wsX8_isWithin) := goodIn_app (goodIn_of _ (by decide +kernel)) ggX8_force_X8_isWithin
theorem gX8_high_X8_variableAt : GoodIn wsX8_high (wsV RX8 218 RX8 yX8_variableAt wsX8_variableAt) := goodIn_app (goodIn_of _ (by decide +kernel)) ggX8_high_X8_variableAt
theorem gX8_isAmbiguous_X3_denominator : GoodIn wsX8_isAmbiguous (wsV RX8 235 RX3 yX3_denominator wsX3_denominator) := goodIn_app (goodIn_of _ (by decide +kernel)) ggX8_isAmbiguous_X3_denominator
theorem gX8_isAmbiguous_X3_goTo : GoodIn wsX8_isAmbiguous (wsV RX8 227 RX3 yX3_goTo wsX3_goTo) := goodIn_app (goodIn_of _ (by decide +kernel)) ggX8_isAmbiguous_X3_goTo
theorem gX8_isAmbiguous_X3_numerator : GoodIn wsX8_isAmbiguous (wsV RX8 231 RX3 yX3_numerator wsX3_numerator) := goodIn_app (goodIn_of _ (by decide +kernel)) ggX8_isAmbiguous_X3_numerator
theorem gX8_low_X8_variableAt : GoodIn wsX8_low (wsV RX8 218 RX8 yX8_variableAt wsX8_variableAt) := goodIn_app (goodIn_of _ (by decide +kernel)) ggX8_low_X8_variableAt
theorem gX8_parse_X6_size : GoodIn wsX8_parse (wsV RX8 154 RX6 yX6_size wsX6_size) := goodIn_app (goodIn_of _ (by decide +kernel)) ggX8_parse_X6_size
theorem gX8_parse_X7_isAtEnd : GoodIn wsX8_parse (wsV RX8 162 RX7 yX7_isAtEnd wsX7_isAtEnd) := goodIn_app (goodIn_of _ (by decide +kernel)) ggX8_parse_X7_isAtEnd
theorem gX8_parse_X7_read : GoodIn wsX8_parse (wsV RX8 158 RX7 yX7_read wsX7_read) := goodIn_app (goodIn_of _ (by decide +kernel)) ggX8_parse_X7_read
theorem gX8_play_X5_at : GoodIn wsX8_play (wsV RX8 107 RX5 yX5_at wsX5_at) := goodIn_app (goodIn_of _ (by decide +kernel)) ggX8_play_X5_at
theorem gX8_reach_X8_variableAt : GoodIn wsX8_reach (wsV RX8 218 RX8 yX8_variableAt wsX8_variableAt) := goodIn_app (goodIn_of _ (by decide +kernel)) ggX8_reach_X8_variableAt
theorem gX8_redo_X4_forth : GoodIn wsX8_redo (wsV RX8 196 RX4 yX4_forth wsX4_forth) := goodIn_app (goodIn_of _ (by decide +kernel)) ggX8_redo_X4_forth
theorem gX8_remove_X5_at : GoodIn wsX8_remove (wsV RX8 107 RX5 yX5_at wsX5_at) := goodIn_app (goodIn_of _ (by decide +kernel)) ggX8_remove_X5_at
theorem gX8_say_X6_append : GoodIn wsX8_say (wsV RX8 150 RX6 yX6_append wsX6_append) := goodIn_app (goodIn_of _ (by decide +kernel)) ggX8_say_X6_append
theorem gX8_say_X6_isFull : GoodIn wsX8_say (wsV RX8 146 RX6 yX6_isFull wsX6_isFull) := goodIn_app (goodIn_of _ (by decide +kernel)) ggX8_say_X6_isFull
theorem gX8_say_X6_size : GoodIn wsX8_say (wsV RX8 154 RX6 yX6_size wsX6_size) := goodIn_app (goodIn_of _ (by decide +kernel)) ggX8_say_X6_size
theorem gX8_setConstant_X5_at : GoodIn wsX8_setConstant (wsV RX8 107 RX5 yX5_at wsX5_at) := goodIn_app (goodIn_of _ (by decide +kernel)) ggX8_setConstant_X5_at
theorem gX8_setStrength_X5_at : GoodIn wsX8_setStrength (wsV RX8 107 RX5 yX5_at wsX5_at) := goodIn_app (goodIn_of _ (by decide +kernel)) ggX8_setStrength_X5_at
theorem gX8_spell_X5_at : GoodIn wsX8_spell (wsV RX8 107 RX5 yX5_at wsX5_at) := goodIn_app (goodIn_of _ (by decide +kernel)) ggX8_spell_X5_at
theorem gX8_status_X5_at : GoodIn wsX8_status (wsV RX8 107 RX5 yX5_at wsX5_at) := goodIn_app (goodIn_of _ (by decide +kernel)) ggX8_status_X5_at
theorem gX8_term_X8_isVariable : GoodIn wsX8_term (va_wsS RX8 74 yX8_isVariable wsX8_isVariable) := goodIn_app (goodIn_of _ (by decide +kernel)) ggX8_term_X8_isVariable
theorem gX8_term_X8_isWithin : GoodIn wsX8_term (va_wsS RX8 78 yX8_isWithin wsX8_isWithin) := goodIn_app (goodIn_of _ (by decide +kernel)) ggX8_term_X8_isWithin
theorem gX8_undo_X4_back : GoodIn wsX8_undo (wsV RX8 179 RX4 yX4_back wsX4_back) := goodIn_app (goodIn_of _ (by decide +kernel)) ggX8_undo_X4_back
theorem gX8_value_X5_at : GoodIn wsX8_value (wsV RX8 107 RX5 yX5_at wsX5_at) := goodIn_app (goodIn_of _ (by decide +kernel)) ggX8_value_X5_at
theorem gX8_variableAt_X3_denominator : GoodIn wsX8_variableAt (wsV RX8 235 RX3 yX3_denominator wsX3_denominator) := goodIn_app (goodIn_of _ (by decide +kernel)) ggX8_variableAt_X3_denominator
theorem gX8_variableAt_X3_goTo : GoodIn wsX8_variableAt (wsV RX8 227 RX3 yX3_goTo wsX3_goTo) := goodIn_app (goodIn_of _ (by decide +kernel)) ggX8_variableAt_X3_goTo
theorem gX8_variableAt_X3_numerator : GoodIn wsX8_variableAt (wsV RX8 231 RX3 yX3_numerator wsX3_numerator) := goodIn_app (goodIn_of _ (by decide +kernel)) ggX8_variableAt_X3_numerator
theorem gX8_variableAt_X8_isPart : GoodIn wsX8_variableAt (va_wsS RX8 205 yX8_isPart wsX8_isPart) := goodIn_app (goodIn_of _ (by decide +kernel)) ggX8_variableAt_X8_isPart
theorem gX8_variableAt_X8_isVariable : GoodIn wsX8_variableAt (va_wsS RX8 74 yX8_isVariable wsX8_isVariable) := goodIn_app (goodIn_of _ (by decide +kernel)) ggX8_variableAt_X8_isVariable
theorem gX8_variableAt_X8_partOf : GoodIn wsX8_variableAt (va_wsS RX8 239 yX8_partOf wsX8_partOf) := goodIn_app (goodIn_of _ (by decide +kernel)) ggX8_variableAt_X8_partOf
theorem gX8_wipe_X6_clear : GoodIn wsX8_wipe (wsV RX8 155 RX6 yX6_clear wsX6_clear) := goodIn_app (goodIn_of _ (by decide +kernel)) ggX8_wipe_X6_clear
theorem gX8_wipe_X6_size : GoodIn wsX8_wipe (wsV RX8 154 RX6 yX6_size wsX6_size) := goodIn_app (goodIn_of _ (by decide +kernel)) ggX8_wipe_X6_size
