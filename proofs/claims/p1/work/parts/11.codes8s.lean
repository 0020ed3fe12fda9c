theorem dX8_isVariable_0 : decode cX8_isVariable 0 = .ok (.iload_n 0, 1) := by decide +kernel
theorem dX8_isVariable_1 : decode cX8_isVariable 1 = .ok (.ifCond .lt 13, 3) := by decide +kernel
theorem dX8_isVariable_4 : decode cX8_isVariable 4 = .ok (.iload_n 0, 1) := by decide +kernel
theorem dX8_isVariable_5 : decode cX8_isVariable 5 = .ok (.bipush 6, 2) := by decide +kernel
theorem dX8_isVariable_7 : decode cX8_isVariable 7 = .ok (.if_icmp .ge 7, 3) := by decide +kernel
theorem dX8_isVariable_10 : decode cX8_isVariable 10 = .ok (.iconst 1, 1) := by decide +kernel
theorem dX8_isVariable_11 : decode cX8_isVariable 11 = .ok (.goto 4, 3) := by decide +kernel
theorem dX8_isVariable_14 : decode cX8_isVariable 14 = .ok (.iconst 0, 1) := by decide +kernel
theorem dX8_isVariable_15 : decode cX8_isVariable 15 = .ok (.ireturn, 1) := by decide +kernel
theorem dX8_isWithin_0 : decode cX8_isWithin 0 = .ok (.iload_n 0, 1) := by decide +kernel
theorem dX8_isWithin_1 : decode cX8_isWithin 1 = .ok (.iload_n 1, 1) := by decide +kernel
theorem dX8_isWithin_2 : decode cX8_isWithin 2 = .ok (.ineg, 1) := by decide +kernel
theorem dX8_isWithin_3 : decode cX8_isWithin 3 = .ok (.if_icmp .lt 12, 3) := by decide +kernel
theorem dX8_isWithin_6 : decode cX8_isWithin 6 = .ok (.iload_n 0, 1) := by decide +kernel
theorem dX8_isWithin_7 : decode cX8_isWithin 7 = .ok (.iload_n 1, 1) := by decide +kernel
theorem dX8_isWithin_8 : decode cX8_isWithin 8 = .ok (.if_icmp .gt 7, 3) := by decide +kernel
theorem dX8_isWithin_11 : decode cX8_isWithin 11 = .ok (.iconst 1, 1) := by decide +kernel
theorem dX8_isWithin_12 : decode cX8_isWithin 12 = .ok (.goto 4, 3) := by decide +kernel
theorem dX8_isWithin_15 : decode cX8_isWithin 15 = .ok (.iconst 0, 1) := by decide +kernel
theorem dX8_isWithin_16 : decode cX8_isWithin 16 = .ok (.ireturn, 1) := by decide +kernel
theorem dX8_isRelation_0 : decode cX8_isRelation 0 = .ok (.iload_n 0, 1) := by decide +kernel
theorem dX8_isRelation_1 : decode cX8_isRelation 1 = .ok (.ifCond .lt 12, 3) := by decide +kernel
theorem dX8_isRelation_4 : decode cX8_isRelation 4 = .ok (.iload_n 0, 1) := by decide +kernel
theorem dX8_isRelation_5 : decode cX8_isRelation 5 = .ok (.iconst 2, 1) := by decide +kernel
theorem dX8_isRelation_6 : decode cX8_isRelation 6 = .ok (.if_icmp .gt 7, 3) := by decide +kernel
theorem dX8_isRelation_9 : decode cX8_isRelation 9 = .ok (.iconst 1, 1) := by decide +kernel
theorem dX8_isRelation_10 : decode cX8_isRelation 10 = .ok (.goto 4, 3) := by decide +kernel
theorem dX8_isRelation_13 : decode cX8_isRelation 13 = .ok (.iconst 0, 1) := by decide +kernel
theorem dX8_isRelation_14 : decode cX8_isRelation 14 = .ok (.ireturn, 1) := by decide +kernel
theorem dX8_isStrength_0 : decode cX8_isStrength 0 = .ok (.iload_n 0, 1) := by decide +kernel
theorem dX8_isStrength_1 : decode cX8_isStrength 1 = .ok (.ifCond .lt 12, 3) := by decide +kernel
theorem dX8_isStrength_4 : decode cX8_isStrength 4 = .ok (.iload_n 0, 1) := by decide +kernel
theorem dX8_isStrength_5 : decode cX8_isStrength 5 = .ok (.iconst 3, 1) := by decide +kernel
theorem dX8_isStrength_6 : decode cX8_isStrength 6 = .ok (.if_icmp .gt 7, 3) := by decide +kernel
theorem dX8_isStrength_9 : decode cX8_isStrength 9 = .ok (.iconst 1, 1) := by decide +kernel
theorem dX8_isStrength_10 : decode cX8_isStrength 10 = .ok (.goto 4, 3) := by decide +kernel
theorem dX8_isStrength_13 : decode cX8_isStrength 13 = .ok (.iconst 0, 1) := by decide +kernel
theorem dX8_isStrength_14 : decode cX8_isStrength 14 = .ok (.ireturn, 1) := by decide +kernel
theorem dX8_isSoft_0 : decode cX8_isSoft 0 = .ok (.iload_n 0, 1) := by decide +kernel
theorem dX8_isSoft_1 : decode cX8_isSoft 1 = .ok (.iconst 1, 1) := by decide +kernel
theorem dX8_isSoft_2 : decode cX8_isSoft 2 = .ok (.if_icmp .lt 12, 3) := by decide +kernel
theorem dX8_isSoft_5 : decode cX8_isSoft 5 = .ok (.iload_n 0, 1) := by decide +kernel
theorem dX8_isSoft_6 : decode cX8_isSoft 6 = .ok (.iconst 3, 1) := by decide +kernel
theorem dX8_isSoft_7 : decode cX8_isSoft 7 = .ok (.if_icmp .gt 7, 3) := by decide +kernel
theorem dX8_isSoft_10 : decode cX8_isSoft 10 = .ok (.iconst 1, 1) := by decide +kernel
theorem dX8_isSoft_11 : decode cX8_isSoft 11 = .ok (.goto 4, 3) := by decide +kernel
theorem dX8_isSoft_14 : decode cX8_isSoft 14 = .ok (.iconst 0, 1) := by decide +kernel
theorem dX8_isSoft_15 : decode cX8_isSoft 15 = .ok (.ireturn, 1) := by decide +kernel
theorem dX8_isWeight_0 : decode cX8_isWeight 0 = .ok (.iload_n 0, 1) := by decide +kernel
theorem dX8_isWeight_1 : decode cX8_isWeight 1 = .ok (.iconst 1, 1) := by decide +kernel
theorem dX8_isWeight_2 : decode cX8_isWeight 2 = .ok (.if_icmp .lt 12, 3) := by decide +kernel
theorem dX8_isWeight_5 : decode cX8_isWeight 5 = .ok (.iload_n 0, 1) := by decide +kernel
theorem dX8_isWeight_6 : decode cX8_isWeight 6 = .ok (.iconst 5, 1) := by decide +kernel
theorem dX8_isWeight_7 : decode cX8_isWeight 7 = .ok (.if_icmp .gt 7, 3) := by decide +kernel
theorem dX8_isWeight_10 : decode cX8_isWeight 10 = .ok (.iconst 1, 1) := by decide +kernel
theorem dX8_isWeight_11 : decode cX8_isWeight 11 = .ok (.goto 4, 3) := by decide +kernel
theorem dX8_isWeight_14 : decode cX8_isWeight 14 = .ok (.iconst 0, 1) := by decide +kernel
theorem dX8_isWeight_15 : decode cX8_isWeight 15 = .ok (.ireturn, 1) := by decide +kernel
theorem dX8_isPart_0 : decode cX8_isPart 0 = .ok (.iload_n 0, 1) := by decide +kernel
theorem dX8_isPart_1 : decode cX8_isPart 1 = .ok (.ifCond .eq 8, 3) := by decide +kernel
theorem dX8_isPart_4 : decode cX8_isPart 4 = .ok (.iload_n 0, 1) := by decide +kernel
theorem dX8_isPart_5 : decode cX8_isPart 5 = .ok (.iconst 1, 1) := by decide +kernel
theorem dX8_isPart_6 : decode cX8_isPart 6 = .ok (.if_icmp .ne 7, 3) := by decide +kernel
theorem dX8_isPart_9 : decode cX8_isPart 9 = .ok (.iconst 1, 1) := by decide +kernel
theorem dX8_isPart_10 : decode cX8_isPart 10 = .ok (.goto 4, 3) := by decide +kernel
theorem dX8_isPart_13 : decode cX8_isPart 13 = .ok (.iconst 0, 1) := by decide +kernel
theorem dX8_isPart_14 : decode cX8_isPart 14 = .ok (.ireturn, 1) := by decide +kernel
theorem dX8_isAllZero_0 : decode cX8_isAllZero 0 = .ok (.iconst 0, 1) := by decide +kernel
theorem dX8_isAllZero_1 : decode cX8_isAllZero 1 = .ok (.istore_n 1, 1) := by decide +kernel
theorem dX8_isAllZero_2 : decode cX8_isAllZero 2 = .ok (.iload_n 1, 1) := by decide +kernel
theorem dX8_isAllZero_3 : decode cX8_isAllZero 3 = .ok (.aload_n 0, 1) := by decide +kernel
theorem dX8_isAllZero_4 : decode cX8_isAllZero 4 = .ok (.arraylength, 1) := by decide +kernel
theorem dX8_isAllZero_5 : decode cX8_isAllZero 5 = .ok (.if_icmp .ge 17, 3) := by decide +kernel
theorem dX8_isAllZero_8 : decode cX8_isAllZero 8 = .ok (.aload_n 0, 1) := by decide +kernel
theorem dX8_isAllZero_9 : decode cX8_isAllZero 9 = .ok (.iload_n 1, 1) := by decide +kernel
theorem dX8_isAllZero_10 : decode cX8_isAllZero 10 = .ok (.iaload, 1) := by decide +kernel
theorem dX8_isAllZero_11 : decode cX8_isAllZero 11 = .ok (.ifCond .eq 5, 3) := by decide +kernel
theorem dX8_isAllZero_14 : decode cX8_isAllZero 14 = .ok (.iconst 0, 1) := by decide +kernel
theorem dX8_isAllZero_15 : decode cX8_isAllZero 15 = .ok (.ireturn, 1) := by decide +kernel
theorem dX8_isAllZero_16 : decode cX8_isAllZero 16 = .ok (.iinc 1 1, 3) := by decide +kernel
theorem dX8_isAllZero_19 : decode cX8_isAllZero 19 = .ok (.goto (-17), 3) := by decide +kernel
theorem dX8_isAllZero_22 : decode cX8_isAllZero 22 = .ok (.iconst 1, 1) := by decide +kernel
theorem dX8_isAllZero_23 : decode cX8_isAllZero 23 = .ok (.ireturn, 1) := by decide +kernel
theorem dX8_partOf_0 : decode cX8_partOf 0 = .ok (.lload_n 2, 1) := by decide +kernel
theorem dX8_partOf_1 : decode cX8_partOf 1 = .ok (.lstore 5, 2) := by decide +kernel
theorem dX8_partOf_3 : decode cX8_partOf 3 = .ok (.lload_n 0, 1) := by decide +kernel
theorem dX8_partOf_4 : decode cX8_partOf 4 = .ok (.invokestatic 310, 3) := by decide +kernel
theorem dX8_partOf_7 : decode cX8_partOf 7 = .ok (.lstore 7, 2) := by decide +kernel
theorem dX8_partOf_9 : decode cX8_partOf 9 = .ok (.iconst 0, 1) := by decide +kernel
theorem dX8_partOf_10 : decode cX8_partOf 10 = .ok (.istore 9, 2) := by decide +kernel
theorem dX8_partOf_12 : decode cX8_partOf 12 = .ok (.iload 9, 2) := by decide +kernel
theorem dX8_partOf_14 : decode cX8_partOf 14 = .ok (.sipush 200, 3) := by decide +kernel
theorem dX8_partOf_17 : decode cX8_partOf 17 = .ok (.if_icmp .ge 31, 3) := by decide +kernel
theorem dX8_partOf_20 : decode cX8_partOf 20 = .ok (.lload 7, 2) := by decide +kernel
theorem dX8_partOf_22 : decode cX8_partOf 22 = .ok (.lconst 0, 1) := by decide +kernel
theorem dX8_partOf_23 : decode cX8_partOf 23 = .ok (.lcmp, 1) := by decide +kernel
theorem dX8_partOf_24 : decode cX8_partOf 24 = .ok (.ifCond .eq 24, 3) := by decide +kernel
theorem dX8_partOf_27 : decode cX8_partOf 27 = .ok (.lload 5, 2) := by decide +kernel
theorem dX8_partOf_29 : decode cX8_partOf 29 = .ok (.lload 7, 2) := by decide +kernel
theorem dX8_partOf_31 : decode cX8_partOf 31 = .ok (.lrem, 1) := by decide +kernel
theorem dX8_partOf_32 : decode cX8_partOf 32 = .ok (.lstore 10, 2) := by decide +kernel
theorem dX8_partOf_34 : decode cX8_partOf 34 = .ok (.lload 7, 2) := by decide +kernel
theorem dX8_partOf_36 : decode cX8_partOf 36 = .ok (.lstore 5, 2) := by decide +kernel
theorem dX8_partOf_38 : decode cX8_partOf 38 = .ok (.lload 10, 2) := by decide +kernel
theorem dX8_partOf_40 : decode cX8_partOf 40 = .ok (.lstore 7, 2) := by decide +kernel
theorem dX8_partOf_42 : decode cX8_partOf 42 = .ok (.iinc 9 1, 3) := by decide +kernel
theorem dX8_partOf_45 : decode cX8_partOf 45 = .ok (.goto (-33), 3) := by decide +kernel
theorem dX8_partOf_48 : decode cX8_partOf 48 = .ok (.lload 5, 2) := by decide +kernel
theorem dX8_partOf_50 : decode cX8_partOf 50 = .ok (.lconst 0, 1) := by decide +kernel
theorem dX8_partOf_51 : decode cX8_partOf 51 = .ok (.lcmp, 1) := by decide +kernel
theorem dX8_partOf_52 : decode cX8_partOf 52 = .ok (.ifCond .gt 14, 3) := by decide +kernel
theorem dX8_partOf_55 : decode cX8_partOf 55 = .ok (.iload 4, 2) := by decide +kernel
theorem dX8_partOf_57 : decode cX8_partOf 57 = .ok (.ifCond .ne 7, 3) := by decide +kernel
theorem dX8_partOf_60 : decode cX8_partOf 60 = .ok (.lconst 0, 1) := by decide +kernel
theorem dX8_partOf_61 : decode cX8_partOf 61 = .ok (.goto 4, 3) := by decide +kernel
theorem dX8_partOf_64 : decode cX8_partOf 64 = .ok (.lconst 1, 1) := by decide +kernel
theorem dX8_partOf_65 : decode cX8_partOf 65 = .ok (.lreturn, 1) := by decide +kernel
theorem dX8_partOf_66 : decode cX8_partOf 66 = .ok (.iload 4, 2) := by decide +kernel
theorem dX8_partOf_68 : decode cX8_partOf 68 = .ok (.ifCond .ne 10, 3) := by decide +kernel
theorem dX8_partOf_71 : decode cX8_partOf 71 = .ok (.lload_n 0, 1) := by decide +kernel
theorem dX8_partOf_72 : decode cX8_partOf 72 = .ok (.lload 5, 2) := by decide +kernel
theorem dX8_partOf_74 : decode cX8_partOf 74 = .ok (.ldiv, 1) := by decide +kernel
theorem dX8_partOf_75 : decode cX8_partOf 75 = .ok (.goto 7, 3) := by decide +kernel
theorem dX8_partOf_78 : decode cX8_partOf 78 = .ok (.lload_n 2, 1) := by decide +kernel
theorem dX8_partOf_79 : decode cX8_partOf 79 = .ok (.lload 5, 2) := by decide +kernel
theorem dX8_partOf_81 : decode cX8_partOf 81 = .ok (.ldiv, 1) := by decide +kernel
theorem dX8_partOf_82 : decode cX8_partOf 82 = .ok (.lreturn, 1) := by decide +kernel
