/-! decode rows -/
theorem dX9_ambiguous_0 : decode cX9_ambiguous 0 = .ok (.aload_n 0, 1) := by decide +kernel
theorem dX9_ambiguous_1 : decode cX9_ambiguous 1 = .ok (.invokevirtual 286, 3) := by decide +kernel
theorem dX9_ambiguous_11 : decode cX9_ambiguous 11 = .ok (.if_icmp .ge 63, 3) := by decide +kernel
theorem dX9_ambiguous_14 : decode cX9_ambiguous 14 = .ok (.aload_n 0, 1) := by decide +kernel
theorem dX9_ambiguous_15 : decode cX9_ambiguous 15 = .ok (.iconst 0, 1) := by decide +kernel
theorem dX9_ambiguous_16 : decode cX9_ambiguous 16 = .ok (.iload_n 2, 1) := by decide +kernel
theorem dX9_ambiguous_17 : decode cX9_ambiguous 17 = .ok (.iconst 1, 1) := by decide +kernel
theorem dX9_ambiguous_18 : decode cX9_ambiguous 18 = .ok (.invokevirtual 291, 3) := by decide +kernel
theorem dX9_ambiguous_21 : decode cX9_ambiguous 21 = .ok (.aload_n 0, 1) := by decide +kernel
theorem dX9_ambiguous_22 : decode cX9_ambiguous 22 = .ok (.getfield 171, 3) := by decide +kernel
theorem dX9_ambiguous_25 : decode cX9_ambiguous 25 = .ok (.lstore_n 3, 1) := by decide +kernel
theorem dX9_ambiguous_26 : decode cX9_ambiguous 26 = .ok (.aload_n 0, 1) := by decide +kernel
theorem dX9_ambiguous_27 : decode cX9_ambiguous 27 = .ok (.getfield 174, 3) := by decide +kernel
theorem dX9_ambiguous_30 : decode cX9_ambiguous 30 = .ok (.lstore 5, 2) := by decide +kernel
theorem dX9_ambiguous_32 : decode cX9_ambiguous 32 = .ok (.aload_n 0, 1) := by decide +kernel
theorem dX9_ambiguous_33 : decode cX9_ambiguous 33 = .ok (.iconst 0, 1) := by decide +kernel
theorem dX9_ambiguous_34 : decode cX9_ambiguous 34 = .ok (.iload_n 2, 1) := by decide +kernel
theorem dX9_ambiguous_35 : decode cX9_ambiguous 35 = .ok (.iconst (-1), 1) := by decide +kernel
theorem dX9_ambiguous_36 : decode cX9_ambiguous 36 = .ok (.invokevirtual 291, 3) := by decide +kernel
theorem dX9_ambiguous_39 : decode cX9_ambiguous 39 = .ok (.iload_n 1, 1) := by decide +kernel
theorem dX9_ambiguous_4 : decode cX9_ambiguous 4 = .ok (.iconst 0, 1) := by decide +kernel
theorem dX9_ambiguous_40 : decode cX9_ambiguous 40 = .ok (.lload_n 3, 1) := by decide +kernel
theorem dX9_ambiguous_41 : decode cX9_ambiguous 41 = .ok (.aload_n 0, 1) := by decide +kernel
theorem dX9_ambiguous_42 : decode cX9_ambiguous 42 = .ok (.getfield 171, 3) := by decide +kernel
theorem dX9_ambiguous_45 : decode cX9_ambiguous 45 = .ok (.lcmp, 1) := by decide +kernel
theorem dX9_ambiguous_46 : decode cX9_ambiguous 46 = .ok (.ifCond .ne 17, 3) := by decide +kernel
theorem dX9_ambiguous_5 : decode cX9_ambiguous 5 = .ok (.istore_n 1, 1) := by decide +kernel
theorem dX9_ambiguous_6 : decode cX9_ambiguous 6 = .ok (.iconst 0, 1) := by decide +kernel
theorem dX9_ambiguous_63 : decode cX9_ambiguous 63 = .ok (.iconst 1, 1) := by decide +kernel
theorem dX9_ambiguous_64 : decode cX9_ambiguous 64 = .ok (.iload_n 2, 1) := by decide +kernel
theorem dX9_ambiguous_65 : decode cX9_ambiguous 65 = .ok (.ishl, 1) := by decide +kernel
theorem dX9_ambiguous_66 : decode cX9_ambiguous 66 = .ok (.ior, 1) := by decide +kernel
theorem dX9_ambiguous_67 : decode cX9_ambiguous 67 = .ok (.istore_n 1, 1) := by decide +kernel
theorem dX9_ambiguous_68 : decode cX9_ambiguous 68 = .ok (.iinc 2 1, 3) := by decide +kernel
theorem dX9_ambiguous_7 : decode cX9_ambiguous 7 = .ok (.istore_n 2, 1) := by decide +kernel
theorem dX9_ambiguous_71 : decode cX9_ambiguous 71 = .ok (.goto (-63), 3) := by decide +kernel
theorem dX9_ambiguous_74 : decode cX9_ambiguous 74 = .ok (.iload_n 1, 1) := by decide +kernel
theorem dX9_ambiguous_75 : decode cX9_ambiguous 75 = .ok (.ireturn, 1) := by decide +kernel
theorem dX9_ambiguous_8 : decode cX9_ambiguous 8 = .ok (.iload_n 2, 1) := by decide +kernel
theorem dX9_ambiguous_9 : decode cX9_ambiguous 9 = .ok (.bipush 6, 2) := by decide +kernel
theorem dX9_best_0 : decode cX9_best 0 = .ok (.iload_n 1, 1) := by decide +kernel
theorem dX9_best_1 : decode cX9_best 1 = .ok (.invokestatic 196, 3) := by decide +kernel
theorem dX9_best_10 : decode cX9_best 10 = .ok (.sipush (-1000), 3) := by decide +kernel
theorem dX9_best_101 : decode cX9_best 101 = .ok (.ireturn, 1) := by decide +kernel
theorem dX9_best_13 : decode cX9_best 13 = .ok (.sipush 1000, 3) := by decide +kernel
theorem dX9_best_16 : decode cX9_best 16 = .ok (.invokestatic 76, 3) := by decide +kernel
theorem dX9_best_19 : decode cX9_best 19 = .ok (.ifCond .eq 22, 3) := by decide +kernel
theorem dX9_best_22 : decode cX9_best 22 = .ok (.iload_n 3, 1) := by decide +kernel
theorem dX9_best_23 : decode cX9_best 23 = .ok (.iload_n 2, 1) := by decide +kernel
theorem dX9_best_24 : decode cX9_best 24 = .ok (.sipush 1000, 3) := by decide +kernel
theorem dX9_best_27 : decode cX9_best 27 = .ok (.invokestatic 76, 3) := by decide +kernel
theorem dX9_best_30 : decode cX9_best 30 = .ok (.ifCond .eq 11, 3) := by decide +kernel
theorem dX9_best_33 : decode cX9_best 33 = .ok (.iload_n 3, 1) := by decide +kernel
theorem dX9_best_34 : decode cX9_best 34 = .ok (.iload_n 2, 1) := by decide +kernel
theorem dX9_best_35 : decode cX9_best 35 = .ok (.bipush 15, 2) := by decide +kernel
theorem dX9_best_37 : decode cX9_best 37 = .ok (.iadd, 1) := by decide +kernel
theorem dX9_best_38 : decode cX9_best 38 = .ok (.if_icmp .le 6, 3) := by decide +kernel
theorem dX9_best_4 : decode cX9_best 4 = .ok (.ifCond .ne 5, 3) := by decide +kernel
theorem dX9_best_41 : decode cX9_best 41 = .ok (.bipush (-2), 2) := by decide +kernel
theorem dX9_best_43 : decode cX9_best 43 = .ok (.ireturn, 1) := by decide +kernel
theorem dX9_best_44 : decode cX9_best 44 = .ok (.bipush (-6), 2) := by decide +kernel
theorem dX9_best_46 : decode cX9_best 46 = .ok (.istore 4, 2) := by decide +kernel
theorem dX9_best_48 : decode cX9_best 48 = .ok (.iload_n 2, 1) := by decide +kernel
theorem dX9_best_49 : decode cX9_best 49 = .ok (.istore 5, 2) := by decide +kernel
theorem dX9_best_51 : decode cX9_best 51 = .ok (.iload 5, 2) := by decide +kernel
theorem dX9_best_53 : decode cX9_best 53 = .ok (.iload_n 3, 1) := by decide +kernel
theorem dX9_best_54 : decode cX9_best 54 = .ok (.if_icmp .gt 45, 3) := by decide +kernel
theorem dX9_best_57 : decode cX9_best 57 = .ok (.aload_n 0, 1) := by decide +kernel
theorem dX9_best_58 : decode cX9_best 58 = .ok (.iload_n 1, 1) := by decide +kernel
theorem dX9_best_59 : decode cX9_best 59 = .ok (.iload 5, 2) := by decide +kernel
theorem dX9_best_61 : decode cX9_best 61 = .ok (.invokevirtual 308, 3) := by decide +kernel
theorem dX9_best_64 : decode cX9_best 64 = .ok (.ifCond .eq 29, 3) := by decide +kernel
theorem dX9_best_67 : decode cX9_best 67 = .ok (.iload 4, 2) := by decide +kernel
theorem dX9_best_69 : decode cX9_best 69 = .ok (.bipush (-6), 2) := by decide +kernel
theorem dX9_best_7 : decode cX9_best 7 = .ok (.iconst (-1), 1) := by decide +kernel
theorem dX9_best_71 : decode cX9_best 71 = .ok (.if_icmp .eq 10, 3) := by decide +kernel
theorem dX9_best_74 : decode cX9_best 74 = .ok (.aload_n 0, 1) := by decide +kernel
theorem dX9_best_75 : decode cX9_best 75 = .ok (.invokevirtual 313, 3) := by decide +kernel
theorem dX9_best_78 : decode cX9_best 78 = .ok (.ifCond .ge 15, 3) := by decide +kernel
theorem dX9_best_8 : decode cX9_best 8 = .ok (.ireturn, 1) := by decide +kernel
theorem dX9_best_81 : decode cX9_best 81 = .ok (.iload 5, 2) := by decide +kernel
theorem dX9_best_83 : decode cX9_best 83 = .ok (.sipush 10000, 3) := by decide +kernel
theorem dX9_best_86 : decode cX9_best 86 = .ok (.iadd, 1) := by decide +kernel
theorem dX9_best_87 : decode cX9_best 87 = .ok (.istore 4, 2) := by decide +kernel
theorem dX9_best_89 : decode cX9_best 89 = .ok (.aload_n 0, 1) := by decide +kernel
theorem dX9_best_9 : decode cX9_best 9 = .ok (.iload_n 2, 1) := by decide +kernel
theorem dX9_best_90 : decode cX9_best 90 = .ok (.invokevirtual 316, 3) := by decide +kernel
theorem dX9_best_93 : decode cX9_best 93 = .ok (.iinc 5 1, 3) := by decide +kernel
theorem dX9_best_96 : decode cX9_best 96 = .ok (.goto (-45), 3) := by decide +kernel
theorem dX9_best_99 : decode cX9_best 99 = .ok (.iload 4, 2) := by decide +kernel
theorem dX9_blockers_0 : decode cX9_blockers 0 = .ok (.iload_n 1, 1) := by decide +kernel
theorem dX9_blockers_1 : decode cX9_blockers 1 = .ok (.iconst 0, 1) := by decide +kernel
theorem dX9_blockers_10 : decode cX9_blockers 10 = .ok (.invokestatic 212, 3) := by decide +kernel
theorem dX9_blockers_13 : decode cX9_blockers 13 = .ok (.ifCond .ne 6, 3) := by decide +kernel
theorem dX9_blockers_16 : decode cX9_blockers 16 = .ok (.bipush (-2), 2) := by decide +kernel
theorem dX9_blockers_18 : decode cX9_blockers 18 = .ok (.ireturn, 1) := by decide +kernel
theorem dX9_blockers_19 : decode cX9_blockers 19 = .ok (.aload_n 0, 1) := by decide +kernel
theorem dX9_blockers_2 : decode cX9_blockers 2 = .ok (.iconst 2, 1) := by decide +kernel
theorem dX9_blockers_20 : decode cX9_blockers 20 = .ok (.getfield 20, 3) := by decide +kernel
theorem dX9_blockers_23 : decode cX9_blockers 23 = .ok (.invokestatic 219, 3) := by decide +kernel
theorem dX9_blockers_26 : decode cX9_blockers 26 = .ok (.ifCond .ne 6, 3) := by decide +kernel
theorem dX9_blockers_29 : decode cX9_blockers 29 = .ok (.bipush (-5), 2) := by decide +kernel
theorem dX9_blockers_3 : decode cX9_blockers 3 = .ok (.invokestatic 76, 3) := by decide +kernel
theorem dX9_blockers_31 : decode cX9_blockers 31 = .ok (.ireturn, 1) := by decide +kernel
theorem dX9_blockers_6 : decode cX9_blockers 6 = .ok (.ifCond .eq 10, 3) := by decide +kernel
theorem dX9_blockers_9 : decode cX9_blockers 9 = .ok (.iload_n 2, 1) := by decide +kernel
theorem dX9_burdens_0 : decode cX9_burdens 0 = .ok (.aload_n 0, 1) := by decide +kernel
theorem dX9_burdens_1 : decode cX9_burdens 1 = .ok (.invokevirtual 286, 3) := by decide +kernel
theorem dX9_burdens_10 : decode cX9_burdens 10 = .ok (.iconst 0, 1) := by decide +kernel
theorem dX9_burdens_11 : decode cX9_burdens 11 = .ok (.istore_n 2, 1) := by decide +kernel
theorem dX9_burdens_12 : decode cX9_burdens 12 = .ok (.iload_n 2, 1) := by decide +kernel
theorem dX9_burdens_13 : decode cX9_burdens 13 = .ok (.bipush 14, 2) := by decide +kernel
theorem dX9_burdens_15 : decode cX9_burdens 15 = .ok (.if_icmp .ge 48, 3) := by decide +kernel
theorem dX9_burdens_18 : decode cX9_burdens 18 = .ok (.aload_n 0, 1) := by decide +kernel
theorem dX9_burdens_19 : decode cX9_burdens 19 = .ok (.iload_n 2, 1) := by decide +kernel
theorem dX9_burdens_20 : decode cX9_burdens 20 = .ok (.invokevirtual 113, 3) := by decide +kernel
theorem dX9_burdens_23 : decode cX9_burdens 23 = .ok (.ifCond .eq 34, 3) := by decide +kernel
theorem dX9_burdens_4 : decode cX9_burdens 4 = .ok (.aload_n 0, 1) := by decide +kernel
theorem dX9_burdens_5 : decode cX9_burdens 5 = .ok (.invokevirtual 316, 3) := by decide +kernel
theorem dX9_burdens_57 : decode cX9_burdens 57 = .ok (.iinc 2 1, 3) := by decide +kernel
theorem dX9_burdens_60 : decode cX9_burdens 60 = .ok (.goto (-48), 3) := by decide +kernel
theorem dX9_burdens_63 : decode cX9_burdens 63 = .ok (.aload_n 0, 1) := by decide +kernel
theorem dX9_burdens_64 : decode cX9_burdens 64 = .ok (.iconst 0, 1) := by decide +kernel
theorem dX9_burdens_65 : decode cX9_burdens 65 = .ok (.putfield 72, 3) := by decide +kernel
theorem dX9_burdens_68 : decode cX9_burdens 68 = .ok (.iload_n 1, 1) := by decide +kernel
theorem dX9_burdens_69 : decode cX9_burdens 69 = .ok (.ireturn, 1) := by decide +kernel
theorem dX9_burdens_8 : decode cX9_burdens 8 = .ok (.iconst 0, 1) := by decide +kernel
theorem dX9_burdens_9 : decode cX9_burdens 9 = .ok (.istore_n 1, 1) := by decide +kernel
theorem dX9_compare_0 : decode cX9_compare 0 = .ok (.iconst 1, 1) := by decide +kernel
theorem dX9_compare_1 : decode cX9_compare 1 = .ok (.istore_n 1, 1) := by decide +kernel
theorem dX9_compare_11 : decode cX9_compare 11 = .ok (.iload_n 1, 1) := by decide +kernel
theorem dX9_compare_12 : decode cX9_compare 12 = .ok (.laload, 1) := by decide +kernel
theorem dX9_compare_13 : decode cX9_compare 13 = .ok (.aload_n 0, 1) := by decide +kernel
theorem dX9_compare_14 : decode cX9_compare 14 = .ok (.getfield 69, 3) := by decide +kernel
theorem dX9_compare_17 : decode cX9_compare 17 = .ok (.iload_n 1, 1) := by decide +kernel
theorem dX9_compare_18 : decode cX9_compare 18 = .ok (.laload, 1) := by decide +kernel
theorem dX9_compare_19 : decode cX9_compare 19 = .ok (.lmul, 1) := by decide +kernel
theorem dX9_compare_2 : decode cX9_compare 2 = .ok (.iload_n 1, 1) := by decide +kernel
theorem dX9_compare_20 : decode cX9_compare 20 = .ok (.lstore_n 2, 1) := by decide +kernel
theorem dX9_compare_21 : decode cX9_compare 21 = .ok (.aload_n 0, 1) := by decide +kernel
theorem dX9_compare_22 : decode cX9_compare 22 = .ok (.getfield 66, 3) := by decide +kernel
theorem dX9_compare_25 : decode cX9_compare 25 = .ok (.iload_n 1, 1) := by decide +kernel
theorem dX9_compare_26 : decode cX9_compare 26 = .ok (.laload, 1) := by decide +kernel
theorem dX9_compare_27 : decode cX9_compare 27 = .ok (.aload_n 0, 1) := by decide +kernel
theorem dX9_compare_28 : decode cX9_compare 28 = .ok (.getfield 51, 3) := by decide +kernel
theorem dX9_compare_3 : decode cX9_compare 3 = .ok (.iconst 3, 1) := by decide +kernel
theorem dX9_compare_31 : decode cX9_compare 31 = .ok (.iload_n 1, 1) := by decide +kernel
theorem dX9_compare_32 : decode cX9_compare 32 = .ok (.laload, 1) := by decide +kernel
theorem dX9_compare_33 : decode cX9_compare 33 = .ok (.lmul, 1) := by decide +kernel
theorem dX9_compare_34 : decode cX9_compare 34 = .ok (.lstore 4, 2) := by decide +kernel
theorem dX9_compare_36 : decode cX9_compare 36 = .ok (.lload_n 2, 1) := by decide +kernel
theorem dX9_compare_37 : decode cX9_compare 37 = .ok (.lload 4, 2) := by decide +kernel
theorem dX9_compare_39 : decode cX9_compare 39 = .ok (.lcmp, 1) := by decide +kernel
theorem dX9_compare_4 : decode cX9_compare 4 = .ok (.if_icmp .gt 58, 3) := by decide +kernel
theorem dX9_compare_40 : decode cX9_compare 40 = .ok (.ifCond .eq 16, 3) := by decide +kernel
theorem dX9_compare_56 : decode cX9_compare 56 = .ok (.iinc 1 1, 3) := by decide +kernel
theorem dX9_compare_59 : decode cX9_compare 59 = .ok (.goto (-57), 3) := by decide +kernel
theorem dX9_compare_62 : decode cX9_compare 62 = .ok (.iconst 0, 1) := by decide +kernel
theorem dX9_compare_63 : decode cX9_compare 63 = .ok (.ireturn, 1) := by decide +kernel
theorem dX9_compare_7 : decode cX9_compare 7 = .ok (.aload_n 0, 1) := by decide +kernel
theorem dX9_compare_8 : decode cX9_compare 8 = .ok (.getfield 48, 3) := by decide +kernel
theorem dX9_connected_0 : decode cX9_connected 0 = .ok (.iload_n 1, 1) := by decide +kernel
theorem dX9_connected_1 : decode cX9_connected 1 = .ok (.invokestatic 196, 3) := by decide +kernel
theorem dX9_connected_10 : decode cX9_connected 10 = .ok (.iload_n 1, 1) := by decide +kernel
theorem dX9_connected_102 : decode cX9_connected 102 = .ok (.goto (-78), 3) := by decide +kernel
theorem dX9_connected_105 : decode cX9_connected 105 = .ok (.iinc 3 1, 3) := by decide +kernel
theorem dX9_connected_108 : decode cX9_connected 108 = .ok (.goto (-93), 3) := by decide +kernel
theorem dX9_connected_11 : decode cX9_connected 11 = .ok (.ishl, 1) := by decide +kernel
theorem dX9_connected_111 : decode cX9_connected 111 = .ok (.iload_n 2, 1) := by decide +kernel
theorem dX9_connected_112 : decode cX9_connected 112 = .ok (.ireturn, 1) := by decide +kernel
theorem dX9_connected_12 : decode cX9_connected 12 = .ok (.istore_n 2, 1) := by decide +kernel
theorem dX9_connected_13 : decode cX9_connected 13 = .ok (.iconst 0, 1) := by decide +kernel
theorem dX9_connected_14 : decode cX9_connected 14 = .ok (.istore_n 3, 1) := by decide +kernel
theorem dX9_connected_15 : decode cX9_connected 15 = .ok (.iload_n 3, 1) := by decide +kernel
theorem dX9_connected_16 : decode cX9_connected 16 = .ok (.bipush 6, 2) := by decide +kernel
theorem dX9_connected_18 : decode cX9_connected 18 = .ok (.if_icmp .ge 93, 3) := by decide +kernel
theorem dX9_connected_21 : decode cX9_connected 21 = .ok (.iconst 0, 1) := by decide +kernel
theorem dX9_connected_22 : decode cX9_connected 22 = .ok (.istore 4, 2) := by decide +kernel
theorem dX9_connected_24 : decode cX9_connected 24 = .ok (.iload 4, 2) := by decide +kernel
theorem dX9_connected_26 : decode cX9_connected 26 = .ok (.bipush 14, 2) := by decide +kernel
theorem dX9_connected_28 : decode cX9_connected 28 = .ok (.if_icmp .ge 77, 3) := by decide +kernel
theorem dX9_connected_31 : decode cX9_connected 31 = .ok (.iconst 0, 1) := by decide +kernel
theorem dX9_connected_32 : decode cX9_connected 32 = .ok (.istore 5, 2) := by decide +kernel
theorem dX9_connected_34 : decode cX9_connected 34 = .ok (.iconst 0, 1) := by decide +kernel
theorem dX9_connected_35 : decode cX9_connected 35 = .ok (.istore 6, 2) := by decide +kernel
theorem dX9_connected_37 : decode cX9_connected 37 = .ok (.iload 6, 2) := by decide +kernel
theorem dX9_connected_39 : decode cX9_connected 39 = .ok (.bipush 6, 2) := by decide +kernel
theorem dX9_connected_4 : decode cX9_connected 4 = .ok (.ifCond .ne 5, 3) := by decide +kernel
theorem dX9_connected_41 : decode cX9_connected 41 = .ok (.if_icmp .ge 42, 3) := by decide +kernel
theorem dX9_connected_44 : decode cX9_connected 44 = .ok (.aload_n 0, 1) := by decide +kernel
theorem dX9_connected_45 : decode cX9_connected 45 = .ok (.iload 4, 2) := by decide +kernel
theorem dX9_connected_47 : decode cX9_connected 47 = .ok (.invokevirtual 113, 3) := by decide +kernel
theorem dX9_connected_50 : decode cX9_connected 50 = .ok (.ifCond .eq 33, 3) := by decide +kernel
theorem dX9_connected_7 : decode cX9_connected 7 = .ok (.iconst (-1), 1) := by decide +kernel
theorem dX9_connected_8 : decode cX9_connected 8 = .ok (.ireturn, 1) := by decide +kernel
theorem dX9_connected_83 : decode cX9_connected 83 = .ok (.iload_n 2, 1) := by decide +kernel
theorem dX9_connected_84 : decode cX9_connected 84 = .ok (.iload 5, 2) := by decide +kernel
theorem dX9_connected_86 : decode cX9_connected 86 = .ok (.iload_n 2, 1) := by decide +kernel
theorem dX9_connected_87 : decode cX9_connected 87 = .ok (.iand, 1) := by decide +kernel
theorem dX9_connected_88 : decode cX9_connected 88 = .ok (.ifCond .eq 8, 3) := by decide +kernel
theorem dX9_connected_9 : decode cX9_connected 9 = .ok (.iconst 1, 1) := by decide +kernel
theorem dX9_connected_96 : decode cX9_connected 96 = .ok (.iconst 0, 1) := by decide +kernel
theorem dX9_connected_97 : decode cX9_connected 97 = .ok (.ior, 1) := by decide +kernel
theorem dX9_connected_98 : decode cX9_connected 98 = .ok (.istore_n 2, 1) := by decide +kernel
theorem dX9_connected_99 : decode cX9_connected 99 = .ok (.iinc 4 1, 3) := by decide +kernel
theorem dX9_cost_0 : decode cX9_cost 0 = .ok (.iload_n 1, 1) := by decide +kernel
theorem dX9_cost_1 : decode cX9_cost 1 = .ok (.iconst 1, 1) := by decide +kernel
theorem dX9_cost_10 : decode cX9_cost 10 = .ok (.invokestatic 281, 3) := by decide +kernel
theorem dX9_cost_13 : decode cX9_cost 13 = .ok (.ifCond .ne 7, 3) := by decide +kernel
theorem dX9_cost_16 : decode cX9_cost 16 = .ok (.ldc2_w 284, 3) := by decide +kernel
theorem dX9_cost_19 : decode cX9_cost 19 = .ok (.lreturn, 1) := by decide +kernel
theorem dX9_cost_2 : decode cX9_cost 2 = .ok (.iconst 3, 1) := by decide +kernel
theorem dX9_cost_20 : decode cX9_cost 20 = .ok (.aload_n 0, 1) := by decide +kernel
theorem dX9_cost_21 : decode cX9_cost 21 = .ok (.invokevirtual 286, 3) := by decide +kernel
theorem dX9_cost_24 : decode cX9_cost 24 = .ok (.iload_n 2, 1) := by decide +kernel
theorem dX9_cost_25 : decode cX9_cost 25 = .ok (.ifCond .ne 12, 3) := by decide +kernel
theorem dX9_cost_28 : decode cX9_cost 28 = .ok (.aload_n 0, 1) := by decide +kernel
theorem dX9_cost_29 : decode cX9_cost 29 = .ok (.getfield 48, 3) := by decide +kernel
theorem dX9_cost_3 : decode cX9_cost 3 = .ok (.invokestatic 76, 3) := by decide +kernel
theorem dX9_cost_32 : decode cX9_cost 32 = .ok (.iload_n 1, 1) := by decide +kernel
theorem dX9_cost_33 : decode cX9_cost 33 = .ok (.laload, 1) := by decide +kernel
theorem dX9_cost_34 : decode cX9_cost 34 = .ok (.goto 9, 3) := by decide +kernel
theorem dX9_cost_37 : decode cX9_cost 37 = .ok (.aload_n 0, 1) := by decide +kernel
theorem dX9_cost_38 : decode cX9_cost 38 = .ok (.getfield 51, 3) := by decide +kernel
theorem dX9_cost_41 : decode cX9_cost 41 = .ok (.iload_n 1, 1) := by decide +kernel
theorem dX9_cost_42 : decode cX9_cost 42 = .ok (.laload, 1) := by decide +kernel
theorem dX9_cost_43 : decode cX9_cost 43 = .ok (.lreturn, 1) := by decide +kernel
theorem dX9_cost_6 : decode cX9_cost 6 = .ok (.ifCond .eq 10, 3) := by decide +kernel
theorem dX9_cost_9 : decode cX9_cost 9 = .ok (.iload_n 2, 1) := by decide +kernel
theorem dX9_count_0 : decode cX9_count 0 = .ok (.iload_n 1, 1) := by decide +kernel
theorem dX9_count_1 : decode cX9_count 1 = .ok (.tableswitch 60 0 4 #[35, 40, 45, 50, 55], 35) := by decide +kernel
theorem dX9_count_36 : decode cX9_count 36 = .ok (.aload_n 0, 1) := by decide +kernel
theorem dX9_count_37 : decode cX9_count 37 = .ok (.invokevirtual 199, 3) := by decide +kernel
theorem dX9_count_40 : decode cX9_count 40 = .ok (.ireturn, 1) := by decide +kernel
theorem dX9_count_41 : decode cX9_count 41 = .ok (.aload_n 0, 1) := by decide +kernel
theorem dX9_count_42 : decode cX9_count 42 = .ok (.getfield 230, 3) := by decide +kernel
theorem dX9_count_45 : decode cX9_count 45 = .ok (.ireturn, 1) := by decide +kernel
theorem dX9_count_46 : decode cX9_count 46 = .ok (.aload_n 0, 1) := by decide +kernel
theorem dX9_count_47 : decode cX9_count 47 = .ok (.getfield 181, 3) := by decide +kernel
theorem dX9_count_50 : decode cX9_count 50 = .ok (.ireturn, 1) := by decide +kernel
theorem dX9_count_51 : decode cX9_count 51 = .ok (.aload_n 0, 1) := by decide +kernel
theorem dX9_count_52 : decode cX9_count 52 = .ok (.getfield 184, 3) := by decide +kernel
theorem dX9_count_55 : decode cX9_count 55 = .ok (.ireturn, 1) := by decide +kernel
theorem dX9_count_56 : decode cX9_count 56 = .ok (.aload_n 0, 1) := by decide +kernel
theorem dX9_count_57 : decode cX9_count 57 = .ok (.invokevirtual 322, 3) := by decide +kernel
theorem dX9_count_60 : decode cX9_count 60 = .ok (.ireturn, 1) := by decide +kernel
theorem dX9_count_61 : decode cX9_count 61 = .ok (.bipush (-2), 2) := by decide +kernel
theorem dX9_count_63 : decode cX9_count 63 = .ok (.ireturn, 1) := by decide +kernel
theorem dX9_end_0 : decode cX9_end 0 = .ok (.iload_n 1, 1) := by decide +kernel
theorem dX9_end_1 : decode cX9_end 1 = .ok (.invokestatic 196, 3) := by decide +kernel
theorem dX9_end_10 : decode cX9_end 10 = .ok (.lreturn, 1) := by decide +kernel
theorem dX9_end_11 : decode cX9_end 11 = .ok (.iload_n 3, 1) := by decide +kernel
theorem dX9_end_12 : decode cX9_end 12 = .ok (.invokestatic 281, 3) := by decide +kernel
theorem dX9_end_15 : decode cX9_end 15 = .ok (.ifCond .ne 7, 3) := by decide +kernel
theorem dX9_end_18 : decode cX9_end 18 = .ok (.ldc2_w 284, 3) := by decide +kernel
theorem dX9_end_21 : decode cX9_end 21 = .ok (.lreturn, 1) := by decide +kernel
theorem dX9_end_22 : decode cX9_end 22 = .ok (.aload_n 0, 1) := by decide +kernel
theorem dX9_end_23 : decode cX9_end 23 = .ok (.invokevirtual 286, 3) := by decide +kernel
theorem dX9_end_26 : decode cX9_end 26 = .ok (.aload_n 0, 1) := by decide +kernel
theorem dX9_end_27 : decode cX9_end 27 = .ok (.iconst 0, 1) := by decide +kernel
theorem dX9_end_28 : decode cX9_end 28 = .ok (.iload_n 1, 1) := by decide +kernel
theorem dX9_end_29 : decode cX9_end 29 = .ok (.iload_n 2, 1) := by decide +kernel
theorem dX9_end_30 : decode cX9_end 30 = .ok (.invokevirtual 291, 3) := by decide +kernel
theorem dX9_end_33 : decode cX9_end 33 = .ok (.aload_n 0, 1) := by decide +kernel
theorem dX9_end_34 : decode cX9_end 34 = .ok (.iload_n 3, 1) := by decide +kernel
theorem dX9_end_35 : decode cX9_end 35 = .ok (.invokevirtual 294, 3) := by decide +kernel
theorem dX9_end_38 : decode cX9_end 38 = .ok (.lreturn, 1) := by decide +kernel
theorem dX9_end_4 : decode cX9_end 4 = .ok (.ifCond .ne 7, 3) := by decide +kernel
theorem dX9_end_7 : decode cX9_end 7 = .ok (.ldc2_w 289, 3) := by decide +kernel
theorem dX9_fault_0 : decode cX9_fault 0 = .ok (.aload_n 0, 1) := by decide +kernel
theorem dX9_fault_1 : decode cX9_fault 1 = .ok (.iconst 0, 1) := by decide +kernel
theorem dX9_fault_10 : decode cX9_fault 10 = .ok (.iconst 0, 1) := by decide +kernel
theorem dX9_fault_11 : decode cX9_fault 11 = .ok (.istore_n 1, 1) := by decide +kernel
theorem dX9_fault_12 : decode cX9_fault 12 = .ok (.iload_n 1, 1) := by decide +kernel
theorem dX9_fault_13 : decode cX9_fault 13 = .ok (.bipush 6, 2) := by decide +kernel
theorem dX9_fault_132 : decode cX9_fault 132 = .ok (.aload_n 0, 1) := by decide +kernel
theorem dX9_fault_133 : decode cX9_fault 133 = .ok (.getfield 239, 3) := by decide +kernel
theorem dX9_fault_136 : decode cX9_fault 136 = .ok (.ifCond .ne 7, 3) := by decide +kernel
theorem dX9_fault_143 : decode cX9_fault 143 = .ok (.aload_n 0, 1) := by decide +kernel
theorem dX9_fault_144 : decode cX9_fault 144 = .ok (.getfield 239, 3) := by decide +kernel
theorem dX9_fault_147 : decode cX9_fault 147 = .ok (.ifCond .ne 26, 3) := by decide +kernel
theorem dX9_fault_15 : decode cX9_fault 15 = .ok (.if_icmp .ge 16, 3) := by decide +kernel
theorem dX9_fault_173 : decode cX9_fault 173 = .ok (.aload_n 0, 1) := by decide +kernel
theorem dX9_fault_174 : decode cX9_fault 174 = .ok (.getfield 239, 3) := by decide +kernel
theorem dX9_fault_177 : decode cX9_fault 177 = .ok (.ifCond .ne 14, 3) := by decide +kernel
theorem dX9_fault_18 : decode cX9_fault 18 = .ok (.aload_n 0, 1) := by decide +kernel
theorem dX9_fault_19 : decode cX9_fault 19 = .ok (.getfield 57, 3) := by decide +kernel
theorem dX9_fault_191 : decode cX9_fault 191 = .ok (.aload_n 0, 1) := by decide +kernel
theorem dX9_fault_192 : decode cX9_fault 192 = .ok (.getfield 233, 3) := by decide +kernel
theorem dX9_fault_195 : decode cX9_fault 195 = .ok (.goto 5, 3) := by decide +kernel
theorem dX9_fault_2 : decode cX9_fault 2 = .ok (.putfield 233, 3) := by decide +kernel
theorem dX9_fault_200 : decode cX9_fault 200 = .ok (.ireturn, 1) := by decide +kernel
theorem dX9_fault_22 : decode cX9_fault 22 = .ok (.iload_n 1, 1) := by decide +kernel
theorem dX9_fault_23 : decode cX9_fault 23 = .ok (.iconst 0, 1) := by decide +kernel
theorem dX9_fault_24 : decode cX9_fault 24 = .ok (.iastore, 1) := by decide +kernel
theorem dX9_fault_25 : decode cX9_fault 25 = .ok (.iinc 1 1, 3) := by decide +kernel
theorem dX9_fault_28 : decode cX9_fault 28 = .ok (.goto (-16), 3) := by decide +kernel
theorem dX9_fault_31 : decode cX9_fault 31 = .ok (.aload_n 0, 1) := by decide +kernel
theorem dX9_fault_32 : decode cX9_fault 32 = .ok (.iconst 0, 1) := by decide +kernel
theorem dX9_fault_33 : decode cX9_fault 33 = .ok (.putfield 248, 3) := by decide +kernel
theorem dX9_fault_36 : decode cX9_fault 36 = .ok (.aload_n 0, 1) := by decide +kernel
theorem dX9_fault_37 : decode cX9_fault 37 = .ok (.iconst 1, 1) := by decide +kernel
theorem dX9_fault_38 : decode cX9_fault 38 = .ok (.putfield 251, 3) := by decide +kernel
theorem dX9_fault_41 : decode cX9_fault 41 = .ok (.aload_n 0, 1) := by decide +kernel
theorem dX9_fault_42 : decode cX9_fault 42 = .ok (.invokevirtual 254, 3) := by decide +kernel
theorem dX9_fault_45 : decode cX9_fault 45 = .ok (.aload_n 0, 1) := by decide +kernel
theorem dX9_fault_46 : decode cX9_fault 46 = .ok (.getfield 239, 3) := by decide +kernel
theorem dX9_fault_49 : decode cX9_fault 49 = .ok (.ifCond .ne 83, 3) := by decide +kernel
theorem dX9_fault_5 : decode cX9_fault 5 = .ok (.aload_n 0, 1) := by decide +kernel
theorem dX9_fault_6 : decode cX9_fault 6 = .ok (.iconst 0, 1) := by decide +kernel
theorem dX9_fault_7 : decode cX9_fault 7 = .ok (.putfield 239, 3) := by decide +kernel
theorem dX9_force_0 : decode cX9_force 0 = .ok (.iload_n 1, 1) := by decide +kernel
theorem dX9_force_1 : decode cX9_force 1 = .ok (.invokestatic 196, 3) := by decide +kernel
theorem dX9_force_10 : decode cX9_force 10 = .ok (.lreturn, 1) := by decide +kernel
theorem dX9_force_11 : decode cX9_force 11 = .ok (.iload_n 2, 1) := by decide +kernel
theorem dX9_force_12 : decode cX9_force 12 = .ok (.sipush (-1000), 3) := by decide +kernel
theorem dX9_force_15 : decode cX9_force 15 = .ok (.sipush 1000, 3) := by decide +kernel
theorem dX9_force_18 : decode cX9_force 18 = .ok (.invokestatic 76, 3) := by decide +kernel
theorem dX9_force_21 : decode cX9_force 21 = .ok (.ifCond .eq 20, 3) := by decide +kernel
theorem dX9_force_24 : decode cX9_force 24 = .ok (.iload_n 3, 1) := by decide +kernel
theorem dX9_force_25 : decode cX9_force 25 = .ok (.iconst 1, 1) := by decide +kernel
theorem dX9_force_26 : decode cX9_force 26 = .ok (.iconst 3, 1) := by decide +kernel
theorem dX9_force_27 : decode cX9_force 27 = .ok (.invokestatic 76, 3) := by decide +kernel
theorem dX9_force_30 : decode cX9_force 30 = .ok (.ifCond .eq 11, 3) := by decide +kernel
theorem dX9_force_33 : decode cX9_force 33 = .ok (.iload 4, 2) := by decide +kernel
theorem dX9_force_35 : decode cX9_force 35 = .ok (.invokestatic 281, 3) := by decide +kernel
theorem dX9_force_38 : decode cX9_force 38 = .ok (.ifCond .ne 7, 3) := by decide +kernel
theorem dX9_force_4 : decode cX9_force 4 = .ok (.ifCond .ne 7, 3) := by decide +kernel
theorem dX9_force_41 : decode cX9_force 41 = .ok (.ldc2_w 284, 3) := by decide +kernel
theorem dX9_force_44 : decode cX9_force 44 = .ok (.lreturn, 1) := by decide +kernel
theorem dX9_force_45 : decode cX9_force 45 = .ok (.aload_n 0, 1) := by decide +kernel
theorem dX9_force_46 : decode cX9_force 46 = .ok (.iload_n 1, 1) := by decide +kernel
theorem dX9_force_47 : decode cX9_force 47 = .ok (.iload_n 2, 1) := by decide +kernel
theorem dX9_force_48 : decode cX9_force 48 = .ok (.invokevirtual 308, 3) := by decide +kernel
theorem dX9_force_51 : decode cX9_force 51 = .ok (.ifCond .ne 7, 3) := by decide +kernel
theorem dX9_force_54 : decode cX9_force 54 = .ok (.ldc2_w 311, 3) := by decide +kernel
theorem dX9_force_57 : decode cX9_force 57 = .ok (.lreturn, 1) := by decide +kernel
theorem dX9_force_58 : decode cX9_force 58 = .ok (.iload 4, 2) := by decide +kernel
theorem dX9_force_60 : decode cX9_force 60 = .ok (.ifCond .ne 12, 3) := by decide +kernel
theorem dX9_force_63 : decode cX9_force 63 = .ok (.aload_n 0, 1) := by decide +kernel
theorem dX9_force_64 : decode cX9_force 64 = .ok (.getfield 48, 3) := by decide +kernel
theorem dX9_force_67 : decode cX9_force 67 = .ok (.iload_n 3, 1) := by decide +kernel
theorem dX9_force_68 : decode cX9_force 68 = .ok (.laload, 1) := by decide +kernel
theorem dX9_force_69 : decode cX9_force 69 = .ok (.goto 9, 3) := by decide +kernel
theorem dX9_force_7 : decode cX9_force 7 = .ok (.ldc2_w 289, 3) := by decide +kernel
theorem dX9_force_72 : decode cX9_force 72 = .ok (.aload_n 0, 1) := by decide +kernel
theorem dX9_force_73 : decode cX9_force 73 = .ok (.getfield 51, 3) := by decide +kernel
theorem dX9_force_76 : decode cX9_force 76 = .ok (.iload_n 3, 1) := by decide +kernel
theorem dX9_force_77 : decode cX9_force 77 = .ok (.laload, 1) := by decide +kernel
theorem dX9_force_78 : decode cX9_force 78 = .ok (.lreturn, 1) := by decide +kernel
theorem dX9_high_0 : decode cX9_high 0 = .ok (.aload_n 0, 1) := by decide +kernel
theorem dX9_high_1 : decode cX9_high 1 = .ok (.iload_n 1, 1) := by decide +kernel
theorem dX9_high_2 : decode cX9_high 2 = .ok (.iconst (-1), 1) := by decide +kernel
theorem dX9_high_3 : decode cX9_high 3 = .ok (.iload_n 2, 1) := by decide +kernel
theorem dX9_high_4 : decode cX9_high 4 = .ok (.invokevirtual 298, 3) := by decide +kernel
theorem dX9_high_7 : decode cX9_high 7 = .ok (.lreturn, 1) := by decide +kernel
theorem dX9_isForced_0 : decode cX9_isForced 0 = .ok (.iconst 0, 1) := by decide +kernel
theorem dX9_isForced_1 : decode cX9_isForced 1 = .ok (.istore_n 3, 1) := by decide +kernel
theorem dX9_isForced_12 : decode cX9_isForced 12 = .ok (.iload_n 3, 1) := by decide +kernel
theorem dX9_isForced_13 : decode cX9_isForced 13 = .ok (.iload_n 3, 1) := by decide +kernel
theorem dX9_isForced_14 : decode cX9_isForced 14 = .ok (.iload_n 1, 1) := by decide +kernel
theorem dX9_isForced_15 : decode cX9_isForced 15 = .ok (.if_icmp .ne 7, 3) := by decide +kernel
theorem dX9_isForced_18 : decode cX9_isForced 18 = .ok (.iconst 1, 1) := by decide +kernel
theorem dX9_isForced_19 : decode cX9_isForced 19 = .ok (.goto 4, 3) := by decide +kernel
theorem dX9_isForced_2 : decode cX9_isForced 2 = .ok (.iload_n 3, 1) := by decide +kernel
theorem dX9_isForced_22 : decode cX9_isForced 22 = .ok (.iconst 0, 1) := by decide +kernel
theorem dX9_isForced_23 : decode cX9_isForced 23 = .ok (.iastore, 1) := by decide +kernel
theorem dX9_isForced_24 : decode cX9_isForced 24 = .ok (.iinc 3 1, 3) := by decide +kernel
theorem dX9_isForced_27 : decode cX9_isForced 27 = .ok (.goto (-25), 3) := by decide +kernel
theorem dX9_isForced_3 : decode cX9_isForced 3 = .ok (.bipush 6, 2) := by decide +kernel
theorem dX9_isForced_30 : decode cX9_isForced 30 = .ok (.aload_n 0, 1) := by decide +kernel
theorem dX9_isForced_31 : decode cX9_isForced 31 = .ok (.bipush 14, 2) := by decide +kernel
theorem dX9_isForced_33 : decode cX9_isForced 33 = .ok (.aload_n 0, 1) := by decide +kernel
theorem dX9_isForced_34 : decode cX9_isForced 34 = .ok (.getfield 63, 3) := by decide +kernel
theorem dX9_isForced_37 : decode cX9_isForced 37 = .ok (.iconst 1, 1) := by decide +kernel
theorem dX9_isForced_38 : decode cX9_isForced 38 = .ok (.iload_n 2, 1) := by decide +kernel
theorem dX9_isForced_39 : decode cX9_isForced 39 = .ok (.iconst 0, 1) := by decide +kernel
theorem dX9_isForced_40 : decode cX9_isForced 40 = .ok (.iconst 1, 1) := by decide +kernel
theorem dX9_isForced_41 : decode cX9_isForced 41 = .ok (.invokevirtual 205, 3) := by decide +kernel
theorem dX9_isForced_44 : decode cX9_isForced 44 = .ok (.aload_n 0, 1) := by decide +kernel
theorem dX9_isForced_45 : decode cX9_isForced 45 = .ok (.sipush 32767, 3) := by decide +kernel
theorem dX9_isForced_48 : decode cX9_isForced 48 = .ok (.invokevirtual 166, 3) := by decide +kernel
theorem dX9_isForced_5 : decode cX9_isForced 5 = .ok (.if_icmp .ge 25, 3) := by decide +kernel
theorem dX9_isForced_51 : decode cX9_isForced 51 = .ok (.istore_n 3, 1) := by decide +kernel
theorem dX9_isForced_52 : decode cX9_isForced 52 = .ok (.aload_n 0, 1) := by decide +kernel
theorem dX9_isForced_53 : decode cX9_isForced 53 = .ok (.getfield 7, 3) := by decide +kernel
theorem dX9_isForced_56 : decode cX9_isForced 56 = .ok (.sipush 164, 3) := by decide +kernel
theorem dX9_isForced_59 : decode cX9_isForced 59 = .ok (.iconst 0, 1) := by decide +kernel
theorem dX9_isForced_60 : decode cX9_isForced 60 = .ok (.iastore, 1) := by decide +kernel
theorem dX9_isForced_61 : decode cX9_isForced 61 = .ok (.aload_n 0, 1) := by decide +kernel
theorem dX9_isForced_62 : decode cX9_isForced 62 = .ok (.iconst 0, 1) := by decide +kernel
theorem dX9_isForced_63 : decode cX9_isForced 63 = .ok (.putfield 72, 3) := by decide +kernel
theorem dX9_isForced_66 : decode cX9_isForced 66 = .ok (.iload_n 3, 1) := by decide +kernel
theorem dX9_isForced_67 : decode cX9_isForced 67 = .ok (.ireturn, 1) := by decide +kernel
theorem dX9_isForced_8 : decode cX9_isForced 8 = .ok (.aload_n 0, 1) := by decide +kernel
theorem dX9_isForced_9 : decode cX9_isForced 9 = .ok (.getfield 63, 3) := by decide +kernel
theorem dX9_keepCosts_0 : decode cX9_keepCosts 0 = .ok (.iconst 1, 1) := by decide +kernel
theorem dX9_keepCosts_1 : decode cX9_keepCosts 1 = .ok (.istore_n 1, 1) := by decide +kernel
theorem dX9_keepCosts_11 : decode cX9_keepCosts 11 = .ok (.iload_n 1, 1) := by decide +kernel
theorem dX9_keepCosts_12 : decode cX9_keepCosts 12 = .ok (.aload_n 0, 1) := by decide +kernel
theorem dX9_keepCosts_13 : decode cX9_keepCosts 13 = .ok (.getfield 48, 3) := by decide +kernel
theorem dX9_keepCosts_16 : decode cX9_keepCosts 16 = .ok (.iload_n 1, 1) := by decide +kernel
theorem dX9_keepCosts_17 : decode cX9_keepCosts 17 = .ok (.laload, 1) := by decide +kernel
theorem dX9_keepCosts_18 : decode cX9_keepCosts 18 = .ok (.lastore, 1) := by decide +kernel
theorem dX9_keepCosts_19 : decode cX9_keepCosts 19 = .ok (.aload_n 0, 1) := by decide +kernel
theorem dX9_keepCosts_2 : decode cX9_keepCosts 2 = .ok (.iload_n 1, 1) := by decide +kernel
theorem dX9_keepCosts_20 : decode cX9_keepCosts 20 = .ok (.getfield 69, 3) := by decide +kernel
theorem dX9_keepCosts_23 : decode cX9_keepCosts 23 = .ok (.iload_n 1, 1) := by decide +kernel
theorem dX9_keepCosts_24 : decode cX9_keepCosts 24 = .ok (.aload_n 0, 1) := by decide +kernel
theorem dX9_keepCosts_25 : decode cX9_keepCosts 25 = .ok (.getfield 51, 3) := by decide +kernel
theorem dX9_keepCosts_28 : decode cX9_keepCosts 28 = .ok (.iload_n 1, 1) := by decide +kernel
theorem dX9_keepCosts_29 : decode cX9_keepCosts 29 = .ok (.laload, 1) := by decide +kernel
theorem dX9_keepCosts_3 : decode cX9_keepCosts 3 = .ok (.iconst 3, 1) := by decide +kernel
theorem dX9_keepCosts_30 : decode cX9_keepCosts 30 = .ok (.lastore, 1) := by decide +kernel
theorem dX9_keepCosts_31 : decode cX9_keepCosts 31 = .ok (.iinc 1 1, 3) := by decide +kernel
theorem dX9_keepCosts_34 : decode cX9_keepCosts 34 = .ok (.goto (-32), 3) := by decide +kernel
theorem dX9_keepCosts_37 : decode cX9_keepCosts 37 = .ok (.return_, 1) := by decide +kernel
theorem dX9_keepCosts_4 : decode cX9_keepCosts 4 = .ok (.if_icmp .gt 33, 3) := by decide +kernel
theorem dX9_keepCosts_7 : decode cX9_keepCosts 7 = .ok (.aload_n 0, 1) := by decide +kernel
theorem dX9_keepCosts_8 : decode cX9_keepCosts 8 = .ok (.getfield 66, 3) := by decide +kernel
theorem dX9_low_0 : decode cX9_low 0 = .ok (.aload_n 0, 1) := by decide +kernel
theorem dX9_low_1 : decode cX9_low 1 = .ok (.iload_n 1, 1) := by decide +kernel
theorem dX9_low_2 : decode cX9_low 2 = .ok (.iconst 1, 1) := by decide +kernel
theorem dX9_low_3 : decode cX9_low 3 = .ok (.iload_n 2, 1) := by decide +kernel
theorem dX9_low_4 : decode cX9_low 4 = .ok (.invokevirtual 298, 3) := by decide +kernel
theorem dX9_low_7 : decode cX9_low 7 = .ok (.lreturn, 1) := by decide +kernel
theorem dX9_parse_0 : decode cX9_parse 0 = .ok (.aload_n 0, 1) := by decide +kernel
theorem dX9_parse_1 : decode cX9_parse 1 = .ok (.invokevirtual 266, 3) := by decide +kernel
theorem dX9_parse_19 : decode cX9_parse 19 = .ok (.bipush (-5), 2) := by decide +kernel
theorem dX9_parse_21 : decode cX9_parse 21 = .ok (.ireturn, 1) := by decide +kernel
theorem dX9_parse_4 : decode cX9_parse 4 = .ok (.bipush (-6), 2) := by decide +kernel
theorem dX9_parse_6 : decode cX9_parse 6 = .ok (.if_icmp .ne 13, 3) := by decide +kernel
theorem dX9_play_0 : decode cX9_play 0 = .ok (.aload_n 0, 1) := by decide +kernel
theorem dX9_play_1 : decode cX9_play 1 = .ok (.iload_n 1, 1) := by decide +kernel
theorem dX9_play_2 : decode cX9_play 2 = .ok (.invokevirtual 227, 3) := by decide +kernel
theorem dX9_play_5 : decode cX9_play 5 = .ok (.ifCond .ne 5, 3) := by decide +kernel
theorem dX9_play_8 : decode cX9_play 8 = .ok (.iconst (-1), 1) := by decide +kernel
theorem dX9_play_9 : decode cX9_play 9 = .ok (.ireturn, 1) := by decide +kernel
theorem dX9_reach_0 : decode cX9_reach 0 = .ok (.iload_n 1, 1) := by decide +kernel
theorem dX9_reach_1 : decode cX9_reach 1 = .ok (.invokestatic 196, 3) := by decide +kernel
theorem dX9_reach_10 : decode cX9_reach 10 = .ok (.lreturn, 1) := by decide +kernel
theorem dX9_reach_11 : decode cX9_reach 11 = .ok (.iload_n 2, 1) := by decide +kernel
theorem dX9_reach_12 : decode cX9_reach 12 = .ok (.invokestatic 281, 3) := by decide +kernel
theorem dX9_reach_15 : decode cX9_reach 15 = .ok (.ifCond .eq 10, 3) := by decide +kernel
theorem dX9_reach_18 : decode cX9_reach 18 = .ok (.iload_n 3, 1) := by decide +kernel
theorem dX9_reach_19 : decode cX9_reach 19 = .ok (.invokestatic 281, 3) := by decide +kernel
theorem dX9_reach_22 : decode cX9_reach 22 = .ok (.ifCond .ne 7, 3) := by decide +kernel
theorem dX9_reach_25 : decode cX9_reach 25 = .ok (.ldc2_w 284, 3) := by decide +kernel
theorem dX9_reach_28 : decode cX9_reach 28 = .ok (.lreturn, 1) := by decide +kernel
theorem dX9_reach_29 : decode cX9_reach 29 = .ok (.aload_n 0, 1) := by decide +kernel
theorem dX9_reach_30 : decode cX9_reach 30 = .ok (.sipush 32767, 3) := by decide +kernel
theorem dX9_reach_33 : decode cX9_reach 33 = .ok (.invokevirtual 187, 3) := by decide +kernel
theorem dX9_reach_36 : decode cX9_reach 36 = .ok (.pop, 1) := by decide +kernel
theorem dX9_reach_37 : decode cX9_reach 37 = .ok (.aload_n 0, 1) := by decide +kernel
theorem dX9_reach_38 : decode cX9_reach 38 = .ok (.iconst 0, 1) := by decide +kernel
theorem dX9_reach_39 : decode cX9_reach 39 = .ok (.iload_n 1, 1) := by decide +kernel
theorem dX9_reach_4 : decode cX9_reach 4 = .ok (.ifCond .ne 7, 3) := by decide +kernel
theorem dX9_reach_40 : decode cX9_reach 40 = .ok (.iload_n 2, 1) := by decide +kernel
theorem dX9_reach_41 : decode cX9_reach 41 = .ok (.ifCond .ne 7, 3) := by decide +kernel
theorem dX9_reach_44 : decode cX9_reach 44 = .ok (.iconst 1, 1) := by decide +kernel
theorem dX9_reach_45 : decode cX9_reach 45 = .ok (.goto 4, 3) := by decide +kernel
theorem dX9_reach_48 : decode cX9_reach 48 = .ok (.iconst (-1), 1) := by decide +kernel
theorem dX9_reach_49 : decode cX9_reach 49 = .ok (.invokevirtual 291, 3) := by decide +kernel
theorem dX9_reach_52 : decode cX9_reach 52 = .ok (.aload_n 0, 1) := by decide +kernel
theorem dX9_reach_53 : decode cX9_reach 53 = .ok (.iload_n 3, 1) := by decide +kernel
theorem dX9_reach_54 : decode cX9_reach 54 = .ok (.invokevirtual 294, 3) := by decide +kernel
theorem dX9_reach_57 : decode cX9_reach 57 = .ok (.lreturn, 1) := by decide +kernel
theorem dX9_reach_7 : decode cX9_reach 7 = .ok (.ldc2_w 289, 3) := by decide +kernel
theorem dX9_readSide_0 : decode cX9_readSide 0 = .ok (.aload_n 0, 1) := by decide +kernel
theorem dX9_readSide_1 : decode cX9_readSide 1 = .ok (.invokevirtual 236, 3) := by decide +kernel
theorem dX9_readSide_13 : decode cX9_readSide 13 = .ok (.iconst 1, 1) := by decide +kernel
theorem dX9_readSide_14 : decode cX9_readSide 14 = .ok (.istore_n 1, 1) := by decide +kernel
theorem dX9_readSide_15 : decode cX9_readSide 15 = .ok (.aload_n 0, 1) := by decide +kernel
theorem dX9_readSide_16 : decode cX9_readSide 16 = .ok (.dup, 1) := by decide +kernel
theorem dX9_readSide_17 : decode cX9_readSide 17 = .ok (.getfield 233, 3) := by decide +kernel
theorem dX9_readSide_20 : decode cX9_readSide 20 = .ok (.iload_n 1, 1) := by decide +kernel
theorem dX9_readSide_21 : decode cX9_readSide 21 = .ok (.ifCond .ge 7, 3) := by decide +kernel
theorem dX9_readSide_28 : decode cX9_readSide 28 = .ok (.iconst 0, 1) := by decide +kernel
theorem dX9_readSide_29 : decode cX9_readSide 29 = .ok (.iadd, 1) := by decide +kernel
theorem dX9_readSide_30 : decode cX9_readSide 30 = .ok (.putfield 233, 3) := by decide +kernel
theorem dX9_readSide_33 : decode cX9_readSide 33 = .ok (.aload_n 0, 1) := by decide +kernel
theorem dX9_readSide_34 : decode cX9_readSide 34 = .ok (.iload_n 1, 1) := by decide +kernel
theorem dX9_readSide_35 : decode cX9_readSide 35 = .ok (.invokevirtual 242, 3) := by decide +kernel
theorem dX9_readSide_38 : decode cX9_readSide 38 = .ok (.aload_n 0, 1) := by decide +kernel
theorem dX9_readSide_39 : decode cX9_readSide 39 = .ok (.getfield 239, 3) := by decide +kernel
theorem dX9_readSide_4 : decode cX9_readSide 4 = .ok (.bipush 45, 2) := by decide +kernel
theorem dX9_readSide_42 : decode cX9_readSide 42 = .ok (.ifCond .ne 54, 3) := by decide +kernel
theorem dX9_readSide_6 : decode cX9_readSide 6 = .ok (.if_icmp .ne 7, 3) := by decide +kernel
theorem dX9_readSide_96 : decode cX9_readSide 96 = .ok (.return_, 1) := by decide +kernel
theorem dX9_requiredMany_0 : decode cX9_requiredMany 0 = .ok (.iconst 0, 1) := by decide +kernel
theorem dX9_requiredMany_1 : decode cX9_requiredMany 1 = .ok (.istore_n 1, 1) := by decide +kernel
theorem dX9_requiredMany_10 : decode cX9_requiredMany 10 = .ok (.iload_n 1, 1) := by decide +kernel
theorem dX9_requiredMany_11 : decode cX9_requiredMany 11 = .ok (.aload_n 0, 1) := by decide +kernel
theorem dX9_requiredMany_12 : decode cX9_requiredMany 12 = .ok (.invokevirtual 305, 3) := by decide +kernel
theorem dX9_requiredMany_15 : decode cX9_requiredMany 15 = .ok (.iload_n 2, 1) := by decide +kernel
theorem dX9_requiredMany_16 : decode cX9_requiredMany 16 = .ok (.ishr, 1) := by decide +kernel
theorem dX9_requiredMany_17 : decode cX9_requiredMany 17 = .ok (.iconst 1, 1) := by decide +kernel
theorem dX9_requiredMany_18 : decode cX9_requiredMany 18 = .ok (.iand, 1) := by decide +kernel
theorem dX9_requiredMany_19 : decode cX9_requiredMany 19 = .ok (.iadd, 1) := by decide +kernel
theorem dX9_requiredMany_2 : decode cX9_requiredMany 2 = .ok (.iconst 0, 1) := by decide +kernel
theorem dX9_requiredMany_20 : decode cX9_requiredMany 20 = .ok (.istore_n 1, 1) := by decide +kernel
theorem dX9_requiredMany_21 : decode cX9_requiredMany 21 = .ok (.iinc 2 1, 3) := by decide +kernel
theorem dX9_requiredMany_24 : decode cX9_requiredMany 24 = .ok (.goto (-20), 3) := by decide +kernel
theorem dX9_requiredMany_27 : decode cX9_requiredMany 27 = .ok (.iload_n 1, 1) := by decide +kernel
theorem dX9_requiredMany_28 : decode cX9_requiredMany 28 = .ok (.ireturn, 1) := by decide +kernel
theorem dX9_requiredMany_3 : decode cX9_requiredMany 3 = .ok (.istore_n 2, 1) := by decide +kernel
theorem dX9_requiredMany_4 : decode cX9_requiredMany 4 = .ok (.iload_n 2, 1) := by decide +kernel
theorem dX9_requiredMany_5 : decode cX9_requiredMany 5 = .ok (.bipush 14, 2) := by decide +kernel
theorem dX9_requiredMany_7 : decode cX9_requiredMany 7 = .ok (.if_icmp .ge 20, 3) := by decide +kernel
theorem dX9_requiredOnes_0 : decode cX9_requiredOnes 0 = .ok (.iconst 0, 1) := by decide +kernel
theorem dX9_requiredOnes_1 : decode cX9_requiredOnes 1 = .ok (.istore_n 1, 1) := by decide +kernel
theorem dX9_requiredOnes_10 : decode cX9_requiredOnes 10 = .ok (.iload_n 1, 1) := by decide +kernel
theorem dX9_requiredOnes_11 : decode cX9_requiredOnes 11 = .ok (.aload_n 0, 1) := by decide +kernel
theorem dX9_requiredOnes_12 : decode cX9_requiredOnes 12 = .ok (.iload_n 2, 1) := by decide +kernel
theorem dX9_requiredOnes_13 : decode cX9_requiredOnes 13 = .ok (.invokevirtual 113, 3) := by decide +kernel
theorem dX9_requiredOnes_16 : decode cX9_requiredOnes 16 = .ok (.ifCond .eq 19, 3) := by decide +kernel
theorem dX9_requiredOnes_2 : decode cX9_requiredOnes 2 = .ok (.iconst 0, 1) := by decide +kernel
theorem dX9_requiredOnes_3 : decode cX9_requiredOnes 3 = .ok (.istore_n 2, 1) := by decide +kernel
theorem dX9_requiredOnes_35 : decode cX9_requiredOnes 35 = .ok (.iconst 0, 1) := by decide +kernel
theorem dX9_requiredOnes_36 : decode cX9_requiredOnes 36 = .ok (.ior, 1) := by decide +kernel
theorem dX9_requiredOnes_37 : decode cX9_requiredOnes 37 = .ok (.istore_n 1, 1) := by decide +kernel
theorem dX9_requiredOnes_38 : decode cX9_requiredOnes 38 = .ok (.iinc 2 1, 3) := by decide +kernel
theorem dX9_requiredOnes_4 : decode cX9_requiredOnes 4 = .ok (.iload_n 2, 1) := by decide +kernel
theorem dX9_requiredOnes_41 : decode cX9_requiredOnes 41 = .ok (.goto (-37), 3) := by decide +kernel
theorem dX9_requiredOnes_44 : decode cX9_requiredOnes 44 = .ok (.iload_n 1, 1) := by decide +kernel
theorem dX9_requiredOnes_45 : decode cX9_requiredOnes 45 = .ok (.ireturn, 1) := by decide +kernel
theorem dX9_requiredOnes_5 : decode cX9_requiredOnes 5 = .ok (.bipush 14, 2) := by decide +kernel
theorem dX9_requiredOnes_7 : decode cX9_requiredOnes 7 = .ok (.if_icmp .ge 37, 3) := by decide +kernel
theorem dX9_restore_0 : decode cX9_restore 0 = .ok (.iload_n 1, 1) := by decide +kernel
theorem dX9_restore_1 : decode cX9_restore 1 = .ok (.invokestatic 281, 3) := by decide +kernel
theorem dX9_restore_10 : decode cX9_restore 10 = .ok (.aload_n 0, 1) := by decide +kernel
theorem dX9_restore_11 : decode cX9_restore 11 = .ok (.getfield 16, 3) := by decide +kernel
theorem dX9_restore_14 : decode cX9_restore 14 = .ok (.iload_n 1, 1) := by decide +kernel
theorem dX9_restore_15 : decode cX9_restore 15 = .ok (.baload, 1) := by decide +kernel
theorem dX9_restore_16 : decode cX9_restore 16 = .ok (.ifCond .ne 6, 3) := by decide +kernel
theorem dX9_restore_19 : decode cX9_restore 19 = .ok (.bipush (-5), 2) := by decide +kernel
theorem dX9_restore_21 : decode cX9_restore 21 = .ok (.ireturn, 1) := by decide +kernel
theorem dX9_restore_4 : decode cX9_restore 4 = .ok (.ifCond .ne 6, 3) := by decide +kernel
theorem dX9_restore_7 : decode cX9_restore 7 = .ok (.bipush (-2), 2) := by decide +kernel
theorem dX9_restore_9 : decode cX9_restore 9 = .ok (.ireturn, 1) := by decide +kernel
theorem dX9_save_0 : decode cX9_save 0 = .ok (.iload_n 1, 1) := by decide +kernel
theorem dX9_save_1 : decode cX9_save 1 = .ok (.invokestatic 281, 3) := by decide +kernel
theorem dX9_save_10 : decode cX9_save 10 = .ok (.iconst 0, 1) := by decide +kernel
theorem dX9_save_11 : decode cX9_save 11 = .ok (.istore_n 2, 1) := by decide +kernel
theorem dX9_save_12 : decode cX9_save 12 = .ok (.iload_n 2, 1) := by decide +kernel
theorem dX9_save_13 : decode cX9_save 13 = .ok (.sipush 154, 3) := by decide +kernel
theorem dX9_save_16 : decode cX9_save 16 = .ok (.if_icmp .ge 27, 3) := by decide +kernel
theorem dX9_save_19 : decode cX9_save 19 = .ok (.aload_n 0, 1) := by decide +kernel
theorem dX9_save_20 : decode cX9_save 20 = .ok (.getfield 13, 3) := by decide +kernel
theorem dX9_save_23 : decode cX9_save 23 = .ok (.sipush 154, 3) := by decide +kernel
theorem dX9_save_26 : decode cX9_save 26 = .ok (.iload_n 1, 1) := by decide +kernel
theorem dX9_save_27 : decode cX9_save 27 = .ok (.imul, 1) := by decide +kernel
theorem dX9_save_28 : decode cX9_save 28 = .ok (.iload_n 2, 1) := by decide +kernel
theorem dX9_save_29 : decode cX9_save 29 = .ok (.iadd, 1) := by decide +kernel
theorem dX9_save_30 : decode cX9_save 30 = .ok (.aload_n 0, 1) := by decide +kernel
theorem dX9_save_31 : decode cX9_save 31 = .ok (.getfield 7, 3) := by decide +kernel
theorem dX9_save_34 : decode cX9_save 34 = .ok (.iload_n 2, 1) := by decide +kernel
theorem dX9_save_35 : decode cX9_save 35 = .ok (.iaload, 1) := by decide +kernel
theorem dX9_save_36 : decode cX9_save 36 = .ok (.iastore, 1) := by decide +kernel
theorem dX9_save_37 : decode cX9_save 37 = .ok (.iinc 2 1, 3) := by decide +kernel
theorem dX9_save_4 : decode cX9_save 4 = .ok (.ifCond .ne 6, 3) := by decide +kernel
theorem dX9_save_40 : decode cX9_save 40 = .ok (.goto (-28), 3) := by decide +kernel
theorem dX9_save_43 : decode cX9_save 43 = .ok (.aload_n 0, 1) := by decide +kernel
theorem dX9_save_44 : decode cX9_save 44 = .ok (.getfield 16, 3) := by decide +kernel
theorem dX9_save_47 : decode cX9_save 47 = .ok (.iload_n 1, 1) := by decide +kernel
theorem dX9_save_48 : decode cX9_save 48 = .ok (.iconst 1, 1) := by decide +kernel
theorem dX9_save_49 : decode cX9_save 49 = .ok (.bastore, 1) := by decide +kernel
theorem dX9_save_50 : decode cX9_save 50 = .ok (.aload_n 0, 1) := by decide +kernel
theorem dX9_save_51 : decode cX9_save 51 = .ok (.invokevirtual 199, 3) := by decide +kernel
theorem dX9_save_54 : decode cX9_save 54 = .ok (.ireturn, 1) := by decide +kernel
theorem dX9_save_7 : decode cX9_save 7 = .ok (.bipush (-2), 2) := by decide +kernel
theorem dX9_save_9 : decode cX9_save 9 = .ok (.ireturn, 1) := by decide +kernel
theorem dX9_spell_0 : decode cX9_spell 0 = .ok (.aload_n 0, 1) := by decide +kernel
theorem dX9_spell_1 : decode cX9_spell 1 = .ok (.iload_n 1, 1) := by decide +kernel
theorem dX9_spell_2 : decode cX9_spell 2 = .ok (.invokevirtual 227, 3) := by decide +kernel
theorem dX9_spell_5 : decode cX9_spell 5 = .ok (.ifCond .ne 5, 3) := by decide +kernel
theorem dX9_spell_8 : decode cX9_spell 8 = .ok (.iconst (-1), 1) := by decide +kernel
theorem dX9_spell_9 : decode cX9_spell 9 = .ok (.ireturn, 1) := by decide +kernel
theorem dX9_status_0 : decode cX9_status 0 = .ok (.aload_n 0, 1) := by decide +kernel
theorem dX9_status_1 : decode cX9_status 1 = .ok (.iload_n 1, 1) := by decide +kernel
theorem dX9_status_2 : decode cX9_status 2 = .ok (.invokevirtual 227, 3) := by decide +kernel
theorem dX9_status_5 : decode cX9_status 5 = .ok (.ifCond .ne 5, 3) := by decide +kernel
theorem dX9_status_8 : decode cX9_status 8 = .ok (.iconst (-1), 1) := by decide +kernel
theorem dX9_status_9 : decode cX9_status 9 = .ok (.ireturn, 1) := by decide +kernel
theorem dX9_value_0 : decode cX9_value 0 = .ok (.aload_n 0, 1) := by decide +kernel
theorem dX9_value_1 : decode cX9_value 1 = .ok (.iload_n 1, 1) := by decide +kernel
theorem dX9_value_11 : decode cX9_value 11 = .ok (.lreturn, 1) := by decide +kernel
theorem dX9_value_2 : decode cX9_value 2 = .ok (.invokevirtual 227, 3) := by decide +kernel
theorem dX9_value_5 : decode cX9_value 5 = .ok (.ifCond .ne 7, 3) := by decide +kernel
theorem dX9_value_8 : decode cX9_value 8 = .ok (.ldc2_w 289, 3) := by decide +kernel
theorem ggX9_ambiguous_X9_findLeast : GoodIn wsX9_ambiguous wsX9_findLeast := goodIn_r _ [108, 14, 15, 109, 16, 1, 2, 62, 63, 64, 6, 65, 27, 39, 40, 41, 42, 43, 82, 83, 84, 85, 29, 28, 86, 87, 88, 89, 90, 91, 92, 93, 26, 94, 95, 96, 97, 31, 74, 75, 76, 77, 78, 79, 80, 81, 102, 103, 104, 110, 111, 112, 113, 114, 115, 116, 117, 118, 119, 120, 121, 122, 123, 124, 125, 126, 127, 128, 129, 130, 131, 132, 133, 134, 135, 136, 137, 138, 139, 140, 141, 142, 143, 144, 145] (by decide +kernel) (by decide +kernel)
theorem ggX9_ambiguous_X9_solve : GoodIn wsX9_ambiguous wsX9_solve := goodIn_r _ [7, 8, 9, 10, 11, 6, 12, 13, 14, 15, 16, 17, 18, 19, 20, 21, 22, 23, 24, 25, 26, 27, 28, 29, 30, 31, 32, 33, 34, 35, 36, 37, 38, 39, 40, 41, 42, 43, 44, 45, 46, 47, 48, 49, 50, 51, 52, 53, 54, 55, 56, 57, 58, 59, 60, 61, 62, 63, 64, 65, 66, 67, 68, 69, 70, 71, 72, 73, 74, 75, 76, 77, 78, 79, 80, 81, 82, 83, 84, 85, 86, 87, 88, 89, 90, 91, 92, 93, 94, 95, 96, 97, 98, 99, 100, 101, 102, 103, 104, 110, 111, 112, 113, 114, 115, 116, 117, 118, 119, 120, 121, 122, 123, 124, 125, 126, 127, 128, 129, 130, 131, 132, 133, 134, 135, 136, 137, 138, 139, 140, 141, 142, 143, 144, 145] (by decide +kernel) (by decide +kernel)
theorem ggX9_best_X9_compare : GoodIn wsX9_best wsX9_compare := goodIn_r _ [114, 23, 115, 116, 27, 121, 122, 123, 124, 125, 126, 127, 128, 129, 130, 131, 132, 133, 134, 135, 136, 137, 138, 139, 140, 141, 142, 143, 144, 145, 146, 147, 148, 149, 150, 151, 152, 153, 154, 155, 156] (by decide +kernel) (by decide +kernel)
theorem ggX9_best_X9_in : GoodIn wsX9_best wsX9_in := goodIn_r _ [7] (by decide +kernel) (by decide +kernel)
theorem ggX9_best_X9_isForced : GoodIn wsX9_best wsX9_isForced := goodIn_r _ [11, 12, 13, 14, 15, 16, 17, 3, 18, 19, 20, 21, 22, 23, 24, 25, 26, 27, 28, 29, 30, 31, 32, 33, 34, 35, 36, 37, 38, 39, 40, 41, 42, 43, 44, 45, 5, 6, 7, 46, 47, 48, 49, 50, 51, 52, 53, 54, 55, 56, 57, 58, 59, 60, 61, 62, 63, 64, 65, 66, 67, 68, 69, 70, 71, 72, 73, 74, 75, 76, 77, 78, 79, 80, 81, 82, 83, 84, 85, 86, 87, 88, 89, 90, 91, 92, 93, 94, 95, 96, 97, 98, 99, 100, 101, 102, 103, 104, 105, 106, 107, 108, 109, 110, 121, 122, 123, 124, 125, 126, 127, 128, 129, 130, 131, 132, 133, 134, 135, 136, 137, 138, 139, 140, 141, 142, 143, 144, 145, 146, 147, 148, 149, 150, 151, 152, 153, 154, 155, 156] (by decide +kernel) (by decide +kernel)
theorem ggX9_best_X9_isVariable : GoodIn wsX9_best wsX9_isVariable := goodIn_r _ [4, 5, 6, 3, 7] (by decide +kernel) (by decide +kernel)
theorem ggX9_best_X9_keepCosts : GoodIn wsX9_best wsX9_keepCosts := goodIn_r _ [120, 116, 23, 115, 27, 121, 122, 123, 124, 125, 126, 127, 128, 129, 130, 131, 132, 133, 134, 135, 136, 137, 138, 139, 140, 141, 142, 143, 144, 145, 146, 147, 148, 149, 150, 151, 152, 153, 154, 155, 156] (by decide +kernel) (by decide +kernel)
theorem ggX9_blockers_X9_in : GoodIn wsX9_blockers wsX9_in := goodIn_r _ [7] (by decide +kernel) (by decide +kernel)
theorem ggX9_blockers_X9_isAnything : GoodIn wsX9_blockers wsX9_isAnything := goodIn_r _ [13] (by decide +kernel) (by decide +kernel)
theorem ggX9_blockers_X9_isConstant : GoodIn wsX9_blockers wsX9_isConstant := goodIn_r _ [10, 4, 5, 6, 7] (by decide +kernel) (by decide +kernel)
theorem ggX9_burdens_X9_isThere : GoodIn wsX9_burdens wsX9_isThere := goodIn_r _ [33, 34, 35, 5, 36, 37, 38, 39, 40, 41, 113, 114, 115, 116, 117, 118, 119, 120, 121, 122, 123, 124, 125, 126, 127, 128, 129, 130, 131, 132, 133, 134, 135, 136, 137, 138, 139, 140, 141, 142, 143, 144, 145, 146, 147, 148] (by decide +kernel) (by decide +kernel)
theorem ggX9_burdens_X9_keepCosts : GoodIn wsX9_burdens wsX9_keepCosts := goodIn_r _ [106, 107, 11, 108, 15, 113, 114, 115, 116, 117, 118, 119, 120, 121, 122, 123, 124, 125, 126, 127, 128, 129, 130, 131, 132, 133, 134, 135, 136, 137, 138, 139, 140, 141, 142, 143, 144, 145, 146, 147, 148] (by decide +kernel) (by decide +kernel)
theorem ggX9_burdens_X9_solve : GoodIn wsX9_burdens wsX9_solve := goodIn_r _ [6, 1, 7, 8, 9, 5, 10, 11, 12, 13, 14, 15, 16, 17, 18, 19, 20, 21, 22, 23, 24, 25, 26, 27, 28, 29, 30, 31, 32, 33, 34, 35, 36, 37, 38, 39, 40, 41, 42, 43, 44, 45, 46, 47, 48, 49, 50, 51, 52, 53, 54, 55, 56, 57, 58, 59, 60, 61, 62, 63, 64, 65, 66, 67, 68, 69, 70, 71, 72, 73, 74, 75, 76, 77, 78, 79, 80, 81, 82, 83, 84, 85, 86, 87, 88, 89, 90, 91, 92, 93, 94, 95, 96, 97, 98, 99, 100, 101, 102, 113, 114, 115, 116, 117, 118, 119, 120, 121, 122, 123, 124, 125, 126, 127, 128, 129, 130, 131, 132, 133, 134, 135, 136, 137, 138, 139, 140, 141, 142, 143, 144, 145, 146, 147, 148] (by decide +kernel) (by decide +kernel)
theorem ggX9_connected_X9_isThere : GoodIn wsX9_connected wsX9_isThere := goodIn_r _ [11, 5, 6, 3, 7, 12, 13, 14, 15, 16, 17, 18, 19, 20, 21, 22, 23, 24, 25, 26, 27, 28, 29, 30, 31, 32, 33, 34, 35, 36, 37, 38, 39, 40, 41, 42, 43, 44, 45, 46, 47, 48, 49, 50, 51, 52] (by decide +kernel) (by decide +kernel)
theorem ggX9_connected_X9_isVariable : GoodIn wsX9_connected wsX9_isVariable := goodIn_r _ [4, 5, 6, 3, 7] (by decide +kernel) (by decide +kernel)
theorem ggX9_cost_X9_in : GoodIn wsX9_cost wsX9_in := goodIn_r _ [7] (by decide +kernel) (by decide +kernel)
theorem ggX9_cost_X9_isPart : GoodIn wsX9_cost wsX9_isPart := goodIn_r _ [10, 4, 5, 6, 7] (by decide +kernel) (by decide +kernel)
theorem ggX9_cost_X9_solve : GoodIn wsX9_cost wsX9_solve := goodIn_r _ [14, 15, 16, 17, 18, 6, 19, 2, 20, 21, 22, 3, 23, 24, 25, 26, 27, 28, 29, 30, 31, 32, 33, 34, 35, 36, 37, 38, 39, 40, 4, 5, 7, 41, 42, 43, 44, 45, 46, 47, 48, 49, 50, 51, 52, 53, 54, 55, 56, 57, 58, 59, 60, 61, 62, 63, 64, 65, 66, 67, 68, 69, 70, 71, 72, 73, 74, 75, 76, 77, 78, 79, 80, 81, 82, 83, 84, 85, 86, 87, 88, 89, 90, 91, 92, 93, 94, 95, 96, 97, 98, 99, 100, 101, 102, 103, 104, 105, 106, 107, 108, 109, 110, 111, 112, 113, 114, 115, 116, 117, 118, 119, 120, 121, 122, 123, 124, 125, 126, 127, 128, 129, 130, 131, 132, 133, 134, 135, 136, 137, 138, 139, 140, 141, 142] (by decide +kernel) (by decide +kernel)
theorem ggX9_count_X9_constraintsThere : GoodIn wsX9_count wsX9_constraintsThere := goodIn_r _ [8, 9, 10, 11, 7, 12, 13, 29, 30, 31, 32, 33, 34, 35, 36, 37, 38, 39, 40, 41, 42, 43, 44, 45, 46, 47, 48, 49, 50, 51, 52, 53, 54, 55, 56, 57, 58, 59, 60, 61, 62, 63, 64] (by decide +kernel) (by decide +kernel)
theorem ggX9_count_X9_requiredMany : GoodIn wsX9_count wsX9_requiredMany := goodIn_r _ [17, 18, 19, 20, 7, 21, 22, 23, 24, 25, 26, 27, 28, 9, 10, 11, 12, 13, 29, 30, 31, 32, 33, 34, 35, 36, 37, 38, 39, 40, 41, 42, 43, 44, 45, 46, 47, 48, 49, 50, 51, 52, 53, 54, 55, 56, 57, 58, 59, 60, 61, 62, 63, 64] (by decide +kernel) (by decide +kernel)
theorem ggX9_end_X9_findLeast : GoodIn wsX9_end wsX9_findLeast := goodIn_r _ [114, 23, 24, 115, 25, 116, 117, 68, 69, 70, 5, 71, 36, 45, 46, 47, 48, 49, 88, 89, 90, 91, 38, 37, 92, 93, 94, 95, 96, 97, 98, 99, 35, 100, 101, 102, 103, 40, 80, 81, 82, 83, 84, 85, 86, 87, 108, 109, 110, 122, 123, 124, 125, 126, 127, 128, 129, 130, 131, 132, 133, 134, 135, 136, 137, 138, 139, 140, 141, 142, 143, 144, 145, 146, 147, 148, 149, 150, 151, 152, 153, 154, 155, 156, 157] (by decide +kernel) (by decide +kernel)
theorem ggX9_end_X9_found : GoodIn wsX9_end wsX9_found := goodIn_r _ [121, 116, 117, 122, 123, 124, 125, 126, 127, 128, 129, 130, 131, 132, 133, 134, 135, 136, 137, 138, 139, 140, 141, 142, 143, 144, 145, 146, 147, 148, 149, 150, 151, 152, 153, 154, 155, 156, 157] (by decide +kernel) (by decide +kernel)
theorem ggX9_end_X9_isPart : GoodIn wsX9_end wsX9_isPart := goodIn_r _ [12, 7, 8, 5, 9] (by decide +kernel) (by decide +kernel)
theorem ggX9_end_X9_isVariable : GoodIn wsX9_end wsX9_isVariable := goodIn_r _ [6, 7, 8, 5, 9] (by decide +kernel) (by decide +kernel)
theorem ggX9_end_X9_solve : GoodIn wsX9_end wsX9_solve := goodIn_r _ [16, 17, 18, 19, 20, 5, 21, 22, 23, 24, 25, 26, 27, 28, 29, 30, 31, 32, 33, 34, 35, 36, 37, 38, 39, 40, 41, 42, 43, 44, 7, 8, 9, 45, 46, 47, 48, 49, 50, 51, 52, 53, 54, 55, 56, 57, 58, 59, 60, 61, 62, 63, 64, 65, 66, 67, 68, 69, 70, 71, 72, 73, 74, 75, 76, 77, 78, 79, 80, 81, 82, 83, 84, 85, 86, 87, 88, 89, 90, 91, 92, 93, 94, 95, 96, 97, 98, 99, 100, 101, 102, 103, 104, 105, 106, 107, 108, 109, 110, 122, 123, 124, 125, 126, 127, 128, 129, 130, 131, 132, 133, 134, 135, 136, 137, 138, 139, 140, 141, 142, 143, 144, 145, 146, 147, 148, 149, 150, 151, 152, 153, 154, 155, 156, 157] (by decide +kernel) (by decide +kernel)
theorem ggX9_fault_X9_readSide : GoodIn wsX9_fault wsX9_readSide := goodIn_r _ [12, 1, 2, 13, 14, 15, 11, 16, 7, 17, 18, 19, 20, 21, 3, 22, 23, 24, 34, 35, 36, 37, 38, 39, 40, 41, 42, 43, 44, 45, 46, 47, 48, 49, 50, 51, 52, 53, 54, 55, 56, 57, 58, 59, 60, 61, 62, 63, 64, 65, 66, 67, 68, 69] (by decide +kernel) (by decide +kernel)
theorem ggX9_force_X9_in : GoodIn wsX9_force wsX9_in := goodIn_r _ [12] (by decide +kernel) (by decide +kernel)
theorem ggX9_force_X9_isForced : GoodIn wsX9_force wsX9_isForced := goodIn_r _ [19, 20, 21, 22, 23, 24, 25, 8, 26, 27, 28, 29, 30, 4, 31, 32, 33, 5, 34, 35, 36, 37, 38, 39, 40, 41, 42, 43, 44, 45, 46, 47, 48, 49, 50, 51, 10, 11, 12, 52, 53, 54, 55, 56, 57, 58, 59, 60, 61, 62, 63, 64, 65, 66, 67, 68, 69, 70, 71, 72, 73, 74, 75, 76, 77, 78, 79, 80, 81, 82, 83, 84, 85, 86, 87, 88, 89, 90, 91, 92, 93, 94, 95, 96, 97, 98, 99, 100, 101, 102, 103, 104, 105, 106, 107, 108, 109, 110, 111, 112, 113, 114, 115, 116, 117, 118, 119, 120, 121, 122, 123, 124, 125, 126, 127, 128, 129, 130, 131, 132, 133, 134, 135, 136, 137, 138, 139, 140, 141, 142, 143, 144, 145, 146, 147, 148, 149, 150, 151, 152] (by decide +kernel) (by decide +kernel)
theorem ggX9_force_X9_isPart : GoodIn wsX9_force wsX9_isPart := goodIn_r _ [15, 10, 11, 8, 12] (by decide +kernel) (by decide +kernel)
theorem ggX9_force_X9_isVariable : GoodIn wsX9_force wsX9_isVariable := goodIn_r _ [9, 10, 11, 8, 12] (by decide +kernel) (by decide +kernel)
theorem ggX9_high_X9_end : GoodIn wsX9_high wsX9_end := goodIn_r _ [5, 6, 7, 8, 9, 4, 10, 11, 12, 13, 14, 15, 16, 17, 18, 19, 20, 21, 22, 23, 24, 25, 26, 27, 28, 29, 30, 31, 32, 33, 34, 35, 36, 37, 38, 39, 40, 41, 42, 43, 44, 45, 46, 47, 48, 49, 50, 51, 52, 53, 54, 55, 56, 57, 58, 59, 60, 61, 62, 63, 64, 65, 66, 67, 68, 69, 70, 71, 72, 73, 74, 75, 76, 77, 78, 79, 80, 81, 82, 83, 84, 85, 86, 87, 88, 89, 90, 91, 92, 93, 94, 95, 96, 97, 98, 99, 100, 101, 102, 103, 104, 105, 106, 107, 108, 109, 110, 111, 112, 113, 114, 115, 116, 117, 118, 119, 120, 121, 122, 123, 124, 125, 126, 127, 128, 129, 130, 131, 132, 133, 134, 135, 136, 137, 138, 139, 140, 141, 142, 143, 144, 145, 146, 147, 148, 149, 150, 151, 152, 153, 154, 155, 156, 157, 158, 159, 160, 161] (by decide +kernel) (by decide +kernel)
theorem ggX9_isForced_X9_put : GoodIn wsX9_isForced wsX9_put := goodIn_r _ [8, 2, 104, 105, 106, 107, 108, 109, 110, 111, 112, 113, 114, 115, 116, 117, 118, 119, 120, 121, 122, 123, 124, 125, 126, 127, 128, 129, 130, 131, 132, 133, 134, 135, 136, 137, 138, 139] (by decide +kernel) (by decide +kernel)
theorem ggX9_isForced_X9_solveAll : GoodIn wsX9_isForced wsX9_solveAll := goodIn_r _ [12, 13, 14, 15, 16, 17, 18, 19, 20, 7, 21, 22, 23, 24, 25, 26, 27, 28, 29, 30, 31, 32, 33, 34, 35, 36, 37, 38, 39, 40, 41, 42, 2, 43, 44, 45, 46, 47, 48, 49, 50, 51, 52, 53, 54, 55, 56, 57, 58, 59, 60, 61, 62, 63, 64, 65, 66, 67, 68, 69, 70, 71, 72, 73, 74, 75, 76, 77, 78, 79, 80, 81, 82, 83, 84, 85, 86, 87, 88, 89, 90, 91, 92, 93, 94, 95, 96, 97, 98, 99, 100, 101, 102, 103, 104, 105, 106, 107, 108, 109, 110, 111, 112, 113, 114, 115, 116, 117, 118, 119, 120, 121, 122, 123, 124, 125, 126, 127, 128, 129, 130, 131, 132, 133, 134, 135, 136, 137, 138, 139] (by decide +kernel) (by decide +kernel)
theorem ggX9_low_X9_end : GoodIn wsX9_low wsX9_end := goodIn_r _ [5, 6, 7, 8, 9, 4, 10, 11, 12, 13, 14, 15, 16, 17, 18, 19, 20, 21, 22, 23, 24, 25, 26, 27, 28, 29, 30, 31, 32, 33, 34, 35, 36, 37, 38, 39, 40, 41, 42, 43, 44, 45, 46, 47, 48, 49, 50, 51, 52, 53, 54, 55, 56, 57, 58, 59, 60, 61, 62, 63, 64, 65, 66, 67, 68, 69, 70, 71, 72, 73, 74, 75, 76, 77, 78, 79, 80, 81, 82, 83, 84, 85, 86, 87, 88, 89, 90, 91, 92, 93, 94, 95, 96, 97, 98, 99, 100, 101, 102, 103, 104, 105, 106, 107, 108, 109, 110, 111, 112, 113, 114, 115, 116, 117, 118, 119, 120, 121, 122, 123, 124, 125, 126, 127, 128, 129, 130, 131, 132, 133, 134, 135, 136, 137, 138, 139, 140, 141, 142, 143, 144, 145, 146, 147, 148, 149, 150, 151, 152, 153, 154, 155, 156, 157, 158, 159, 160, 161] (by decide +kernel) (by decide +kernel)
theorem ggX9_parse_X9_fault : GoodIn wsX9_parse wsX9_fault := goodIn_r _ [11, 12, 13, 1, 4, 5, 2, 6, 14, 15, 16, 10, 17, 18, 19, 20, 21, 22, 23, 24, 25, 26, 27, 28, 29, 30, 31, 32, 33, 3, 34, 35, 36, 37, 148, 149, 150, 151, 152, 153, 154, 155, 156, 157, 158, 159, 160, 161, 162, 163, 164, 165, 166, 167, 168, 169, 170, 171, 172, 173, 174, 175, 176, 177, 178, 179, 180, 181, 182, 183] (by decide +kernel) (by decide +kernel)
theorem ggX9_play_X9_isOne : GoodIn wsX9_play wsX9_isOne := goodIn_r _ [5, 6, 7, 4, 8, 9, 10, 11, 12, 13, 127, 128, 129, 130, 131, 132, 133, 134, 135, 136, 137, 138, 139, 140, 141, 142, 143, 144, 145, 146, 147, 148, 149, 150, 151, 152, 153, 154, 155, 156, 157, 158, 159, 160, 161, 162] (by decide +kernel) (by decide +kernel)
theorem ggX9_reach_X9_findLeast : GoodIn wsX9_reach wsX9_findLeast := goodIn_r _ [85, 26, 28, 86, 30, 87, 88, 62, 63, 64, 5, 65, 29, 39, 40, 41, 42, 43, 89, 90, 91, 92, 32, 31, 93, 94, 95, 96, 97, 98, 99, 100, 27, 101, 102, 103, 104, 34, 74, 75, 76, 77, 78, 79, 80, 81, 105, 106, 107, 112, 113, 114, 115, 116, 117, 118, 119, 120, 121, 122, 123, 124, 125, 126, 127, 128, 129, 130, 131, 132, 133, 134, 135, 136, 137, 138, 139, 140, 141, 142, 143, 144, 145, 146, 147] (by decide +kernel) (by decide +kernel)
theorem ggX9_reach_X9_found : GoodIn wsX9_reach wsX9_found := goodIn_r _ [111, 87, 88, 112, 113, 114, 115, 116, 117, 118, 119, 120, 121, 122, 123, 124, 125, 126, 127, 128, 129, 130, 131, 132, 133, 134, 135, 136, 137, 138, 139, 140, 141, 142, 143, 144, 145, 146, 147] (by decide +kernel) (by decide +kernel)
theorem ggX9_reach_X9_isPart : GoodIn wsX9_reach wsX9_isPart := goodIn_r _ [12, 7, 8, 5, 9] (by decide +kernel) (by decide +kernel)
theorem ggX9_reach_X9_isPossible : GoodIn wsX9_reach wsX9_isPossible := goodIn_r _ [16, 17, 18, 19, 20, 5, 21, 22, 23, 24, 25, 26, 27, 28, 29, 30, 31, 32, 33, 34, 35, 36, 37, 38, 7, 8, 9, 39, 40, 41, 42, 43, 44, 45, 46, 47, 48, 49, 50, 51, 52, 53, 54, 55, 56, 57, 58, 59, 60, 61, 62, 63, 64, 65, 66, 67, 68, 69, 70, 71, 72, 73, 74, 75, 76, 77, 78, 79, 80, 81, 112, 113, 114, 115, 116, 117, 118, 119, 120, 121, 122, 123, 124, 125, 126, 127, 128, 129, 130, 131, 132, 133, 134, 135, 136, 137, 138, 139, 140, 141, 142, 143, 144, 145, 146, 147] (by decide +kernel) (by decide +kernel)
theorem ggX9_reach_X9_isVariable : GoodIn wsX9_reach wsX9_isVariable := goodIn_r _ [6, 7, 8, 5, 9] (by decide +kernel) (by decide +kernel)
theorem ggX9_readSide_X9_readTerm : GoodIn wsX9_readSide wsX9_readTerm := goodIn_r _ [13, 1, 14, 2, 3, 4, 5, 6, 7, 8, 9, 15, 16, 17, 18, 19, 20, 21, 22, 23, 24, 25, 26, 27, 28, 29, 30, 31, 32, 33, 34, 35, 36, 37, 38, 39, 40, 41, 42, 43, 44, 45, 46, 47, 48, 49, 50, 51, 52, 53] (by decide +kernel) (by decide +kernel)
theorem ggX9_readSide_X9_sign : GoodIn wsX9_readSide wsX9_sign := goodIn_r _ [7, 1, 8, 9, 18, 19, 20, 21, 22, 23, 24, 25, 26, 27, 28, 29, 30, 31, 32, 33, 34, 35, 36, 37, 38, 39, 40, 41, 42, 43, 44, 45, 46, 47, 48, 49, 50, 51, 52, 53] (by decide +kernel) (by decide +kernel)
theorem ggX9_requiredMany_X9_requiredOnes : GoodIn wsX9_requiredMany wsX9_requiredOnes := goodIn_r _ [5, 6, 7, 8, 4, 9, 10, 11, 12, 13, 14, 15, 16, 17, 18, 19, 20, 21, 22, 23, 24, 25, 26, 27, 28, 29, 30, 31, 32, 33, 34, 35, 36, 37, 38, 39, 40, 41, 42, 43, 44, 45, 46, 47, 48, 49, 50, 51, 52, 53] (by decide +kernel) (by decide +kernel)
theorem ggX9_requiredOnes_X9_isThere : GoodIn wsX9_requiredOnes wsX9_isThere := goodIn_r _ [5, 6, 7, 4, 8, 9, 10, 11, 12, 13, 14, 15, 16, 17, 18, 19, 20, 21, 22, 23, 24, 25, 26, 27, 28, 29, 30, 31, 32, 33, 34, 35, 36, 37, 38, 39, 40, 41, 42, 43, 44, 45, 46, 47, 48, 49] (by decide +kernel) (by decide +kernel)
theorem ggX9_restore_X9_isPart : GoodIn wsX9_restore wsX9_isPart := goodIn_r _ [10, 11, 12, 9, 13] (by decide +kernel) (by decide +kernel)
theorem ggX9_save_X9_constraintsThere : GoodIn wsX9_save wsX9_constraintsThere := goodIn_r _ [14, 15, 16, 17, 6, 18, 2, 19, 20, 21, 22, 23, 24, 25, 26, 27, 28, 29, 30, 31, 32, 33, 34, 35, 36, 37, 38, 39, 40, 41, 42, 43, 44, 45, 46, 47, 48, 49, 50, 51, 52, 53, 54] (by decide +kernel) (by decide +kernel)
theorem ggX9_save_X9_isPart : GoodIn wsX9_save wsX9_isPart := goodIn_r _ [7, 8, 9, 6, 10] (by decide +kernel) (by decide +kernel)
theorem ggX9_spell_X9_isOne : GoodIn wsX9_spell wsX9_isOne := goodIn_r _ [7, 8, 9, 6, 10, 11, 12, 13, 14, 15, 28, 29, 30, 31, 32, 33, 34, 35, 36, 37, 38, 39, 40, 41, 42, 43, 44, 45, 46, 47, 48, 49, 50, 51, 52, 53, 54, 55, 56, 57, 58, 59, 60, 61, 62, 63] (by decide +kernel) (by decide +kernel)
theorem ggX9_status_X9_isOne : GoodIn wsX9_status wsX9_isOne := goodIn_r _ [5, 6, 7, 4, 8, 9, 10, 11, 12, 13, 118, 119, 120, 121, 122, 123, 124, 125, 126, 127, 128, 129, 130, 131, 132, 133, 134, 135, 136, 137, 138, 139, 140, 141, 142, 143, 144, 145, 146, 147, 148, 149, 150, 151, 152, 153] (by decide +kernel) (by decide +kernel)
theorem ggX9_value_X9_isOne : GoodIn wsX9_value wsX9_isOne := goodIn_r _ [7, 8, 9, 6, 10, 11, 12, 13, 14, 15, 123, 124, 125, 126, 127, 128, 129, 130, 131, 132, 133, 134, 135, 136, 137, 138, 139, 140, 141, 142, 143, 144, 145, 146, 147, 148, 149, 150, 151, 152, 153, 154, 155, 156, 157, 158] (by decide +kernel) (by decide +kernel)
theorem gX9_ambiguous_X9_findLeast : GoodIn wsX9_ambiguous (wsV RX9 291 RX9 yX9_findLeast wsX9_findLeast) := goodIn_app (goodIn_of _ (by decide +kernel)) ggX9_ambiguous_X9_findLeast
theorem gX9_ambiguous_X9_solve : GoodIn wsX9_ambiguous (wsV RX9 286 RX9 yX9_solve wsX9_solve) := goodIn_app (goodIn_of _ (by decide +kernel)) ggX9_ambiguous_X9_solve
theorem gX9_best_X9_compare : GoodIn wsX9_best (wsV RX9 313 RX9 yX9_compare wsX9_compare) := goodIn_app (goodIn_of _ (by decide +kernel)) ggX9_best_X9_compare
theorem gX9_best_X9_in : GoodIn wsX9_best (va_wsS RX9 76 yX9_in wsX9_in) := goodIn_app (goodIn_of _ (by decide +kernel)) ggX9_best_X9_in
theorem gX9_best_X9_isForced : GoodIn wsX9_best (wsV RX9 308 RX9 yX9_isForced wsX9_isForced) := goodIn_app (goodIn_of _ (by decide +kernel)) ggX9_best_X9_isForced
theorem gX9_best_X9_isVariable : GoodIn wsX9_best (va_wsS RX9 196 yX9_isVariable wsX9_isVariable) := goodIn_app (goodIn_of _ (by decide +kernel)) ggX9_best_X9_isVariable
theorem gX9_best_X9_keepCosts : GoodIn wsX9_best (wsV RX9 316 RX9 yX9_keepCosts wsX9_keepCosts) := goodIn_app (goodIn_of _ (by decide +kernel)) ggX9_best_X9_keepCosts
theorem gX9_blockers_X9_in : GoodIn wsX9_blockers (va_wsS RX9 76 yX9_in wsX9_in) := goodIn_app (goodIn_of _ (by decide +kernel)) ggX9_blockers_X9_in
theorem gX9_blockers_X9_isAnything : GoodIn wsX9_blockers (va_wsS RX9 219 yX9_isAnything wsX9_isAnything) := goodIn_app (goodIn_of _ (by decide +kernel)) ggX9_blockers_X9_isAnything
theorem gX9_blockers_X9_isConstant : GoodIn wsX9_blockers (va_wsS RX9 212 yX9_isConstant wsX9_isConstant) := goodIn_app (goodIn_of _ (by decide +kernel)) ggX9_blockers_X9_isConstant
theorem gX9_burdens_X9_isThere : GoodIn wsX9_burdens (wsV RX9 113 RX9 yX9_isThere wsX9_isThere) := goodIn_app (goodIn_of _ (by decide +kernel)) ggX9_burdens_X9_isThere
theorem gX9_burdens_X9_keepCosts : GoodIn wsX9_burdens (wsV RX9 316 RX9 yX9_keepCosts wsX9_keepCosts) := goodIn_app (goodIn_of _ (by decide +kernel)) ggX9_burdens_X9_keepCosts
theorem gX9_burdens_X9_solve : GoodIn wsX9_burdens (wsV RX9 286 RX9 yX9_solve wsX9_solve) := goodIn_app (goodIn_of _ (by decide +kernel)) ggX9_burdens_X9_solve
theorem gX9_connected_X9_isThere : GoodIn wsX9_connected (wsV RX9 113 RX9 yX9_isThere wsX9_isThere) := goodIn_app (goodIn_of _ (by decide +kernel)) ggX9_connected_X9_isThere
theorem gX9_connected_X9_isVariable : GoodIn wsX9_connected (va_wsS RX9 196 yX9_isVariable wsX9_isVariable) := goodIn_app (goodIn_of _ (by decide +kernel)) ggX9_connected_X9_isVariable
theorem gX9_cost_X9_in : GoodIn wsX9_cost (va_wsS RX9 76 yX9_in wsX9_in) := goodIn_app (goodIn_of _ (by decide +kernel)) ggX9_cost_X9_in
theorem gX9_cost_X9_isPart : GoodIn wsX9_cost (va_wsS RX9 281 yX9_isPart wsX9_isPart) := goodIn_app (goodIn_of _ (by decide +kernel)) ggX9_cost_X9_isPart
theorem gX9_cost_X9_solve : GoodIn wsX9_cost (wsV RX9 286 RX9 yX9_solve wsX9_solve) := goodIn_app (goodIn_of _ (by decide +kernel)) ggX9_cost_X9_solve
theorem gX9_count_X9_constraintsThere : GoodIn wsX9_count (wsV RX9 199 RX9 yX9_constraintsThere wsX9_constraintsThere) := goodIn_app (goodIn_of _ (by decide +kernel)) ggX9_count_X9_constraintsThere
theorem gX9_count_X9_requiredMany : GoodIn wsX9_count (wsV RX9 322 RX9 yX9_requiredMany wsX9_requiredMany) := goodIn_app (goodIn_of _ (by decide +kernel)) ggX9_count_X9_requiredMany
theorem gX9_end_X9_findLeast : GoodIn wsX9_end (wsV RX9 291 RX9 yX9_findLeast wsX9_findLeast) := goodIn_app (goodIn_of _ (by decide +kernel)) ggX9_end_X9_findLeast
theorem gX9_end_X9_found : GoodIn wsX9_end (wsV RX9 294 RX9 yX9_found wsX9_found) := goodIn_app (goodIn_of _ (by decide +kernel)) ggX9_end_X9_found
theorem gX9_end_X9_isPart : GoodIn wsX9_end (va_wsS RX9 281 yX9_isPart wsX9_isPart) := goodIn_app (goodIn_of _ (by decide +kernel)) ggX9_end_X9_isPart
theorem gX9_end_X9_isVariable : GoodIn wsX9_end (va_wsS RX9 196 yX9_isVariable wsX9_isVariable) := goodIn_app (goodIn_of _ (by decide +kernel)) ggX9_end_X9_isVariable
theorem gX9_end_X9_solve : GoodIn wsX9_end (wsV RX9 286 RX9 yX9_solve wsX9_solve) := goodIn_app (goodIn_of _ (by decide +kernel)) ggX9_end_X9_solve
theorem gX9_fault_X9_readSide : GoodIn wsX9_fault (wsV RX9 254 RX9 yX9_readSide wsX9_readSide) := goodIn_app (goodIn_of _ (by decide +kernel)) ggX9_fault_X9_readSide
theorem gX9_force_X9_in : GoodIn wsX9_force (va_wsS RX9 76 yX9_in wsX9_in) := goodIn_app (goodIn_of _ (by decide +kernel)) ggX9_force_X9_in
theorem gX9_force_X9_isForced : GoodIn wsX9_force (wsV RX9 308 RX9 yX9_isForced wsX9_isForced) := goodIn_app (goodIn_of _ (by decide +kernel)) ggX9_force_X9_isForced
theorem gX9_force_X9_isPart : GoodIn wsX9_force (va_wsS RX9 281 yX9_isPart wsX9_isPart) := goodIn_app (goodIn_of _ (by decide +kernel)) ggX9_force_X9_isPart
theorem gX9_force_X9_isVariable : GoodIn wsX9_force (va_wsS RX9 196 yX9_isVariable wsX9_isVariable) := goodIn_app (goodIn_of _ (by decide +kernel)) ggX9_force_X9_isVariable
theorem gX9_high_X9_end : GoodIn wsX9_high (wsV RX9 298 RX9 yX9_end wsX9_end) := goodIn_app (goodIn_of _ (by decide +kernel)) ggX9_high_X9_end
theorem gX9_isForced_X9_put : GoodIn wsX9_isForced (wsV RX9 205 RX9 yX9_put wsX9_put) := goodIn_app (goodIn_of _ (by decide +kernel)) ggX9_isForced_X9_put
theorem gX9_isForced_X9_solveAll : GoodIn wsX9_isForced (wsV RX9 166 RX9 yX9_solveAll wsX9_solveAll) := goodIn_app (goodIn_of _ (by decide +kernel)) ggX9_isForced_X9_solveAll
theorem gX9_low_X9_end : GoodIn wsX9_low (wsV RX9 298 RX9 yX9_end wsX9_end) := goodIn_app (goodIn_of _ (by decide +kernel)) ggX9_low_X9_end
theorem gX9_parse_X9_fault : GoodIn wsX9_parse (wsV RX9 266 RX9 yX9_fault wsX9_fault) := goodIn_app (goodIn_of _ (by decide +kernel)) ggX9_parse_X9_fault
theorem gX9_play_X9_isOne : GoodIn wsX9_play (wsV RX9 227 RX9 yX9_isOne wsX9_isOne) := goodIn_app (goodIn_of _ (by decide +kernel)) ggX9_play_X9_isOne
theorem gX9_reach_X9_findLeast : GoodIn wsX9_reach (wsV RX9 291 RX9 yX9_findLeast wsX9_findLeast) := goodIn_app (goodIn_of _ (by decide +kernel)) ggX9_reach_X9_findLeast
theorem gX9_reach_X9_found : GoodIn wsX9_reach (wsV RX9 294 RX9 yX9_found wsX9_found) := goodIn_app (goodIn_of _ (by decide +kernel)) ggX9_reach_X9_found
theorem gX9_reach_X9_isPart : GoodIn wsX9_reach (va_wsS RX9 281 yX9_isPart wsX9_isPart) := goodIn_app (goodIn_of _ (by decide +kernel)) ggX9_reach_X9_isPart
theorem gX9_reach_X9_isPossible : GoodIn wsX9_reach (wsV RX9 187 RX9 yX9_isPossible wsX9_isPossible) := goodIn_app (goodIn_of _ (by decide +kernel)) ggX9_reach_X9_isPossible
theorem gX9_reach_X9_isVariable : GoodIn wsX9_reach (va_wsS RX9 196 yX9_isVariable wsX9_isVariable) := goodIn_app (goodIn_of _ (by decide +kernel)) ggX9_reach_X9_isVariable
theorem gX9_readSide_X9_readTerm : GoodIn wsX9_readSide (wsV RX9 242 RX9 yX9_readTerm wsX9_readTerm) := goodIn_app (goodIn_of _ (by decide +kernel)) ggX9_readSide_X9_readTerm
theorem gX9_readSide_X9_sign : GoodIn wsX9_readSide (wsV RX9 236 RX9 yX9_sign wsX9_sign) := goodIn_app (goodIn_of _ (by decide +kernel)) ggX9_readSide_X9_sign
theorem gX9_requiredMany_X9_requiredOnes : GoodIn wsX9_requiredMany (wsV RX9 305 RX9 yX9_requiredOnes wsX9_requiredOnes) := goodIn_app (goodIn_of _ (by decide +kernel)) ggX9_requiredMany_X9_requiredOnes
theorem gX9_requiredOnes_X9_isThere : GoodIn wsX9_requiredOnes (wsV RX9 113 RX9 yX9_isThere wsX9_isThere) := goodIn_app (goodIn_of _ (by decide +kernel)) ggX9_requiredOnes_X9_isThere
theorem gX9_restore_X9_isPart : GoodIn wsX9_restore (va_wsS RX9 281 yX9_isPart wsX9_isPart) := goodIn_app (goodIn_of _ (by decide +kernel)) ggX9_restore_X9_isPart
theorem gX9_save_X9_constraintsThere : GoodIn wsX9_save (wsV RX9 199 RX9 yX9_constraintsThere wsX9_constraintsThere) := goodIn_app (goodIn_of _ (by decide +kernel)) ggX9_save_X9_constraintsThere
theorem gX9_save_X9_isPart : GoodIn wsX9_save (va_wsS RX9 281 yX9_isPart wsX9_isPart) := goodIn_app (goodIn_of _ (by decide +kernel)) ggX9_save_X9_isPart
theorem gX9_spell_X9_isOne : GoodIn wsX9_spell (wsV RX9 227 RX9 yX9_isOne wsX9_isOne) := goodIn_app (goodIn_of _ (by decide +kernel)) ggX9_spell_X9_isOne
theorem gX9_status_X9_isOne : GoodIn wsX9_status (wsV RX9 227 RX9 yX9_isOne wsX9_isOne) := goodIn_app (goodIn_of _ (by decide +kernel)) ggX9_status_X9_isOne
theorem gX9_value_X9_isOne : GoodIn wsX9_value (wsV RX9 227 RX9 yX9_isOne wsX9_isOne) := goodIn_app (goodIn_of _ (by decide +kernel)) ggX9_value_X9_isOne
