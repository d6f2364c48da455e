theorem dX11_leastSkill_62 : decode cX11_leastSkill 62 = .ok (.bipush 43, 2) := by decide +kernel
theorem dX11_leastSkill_64 : decode cX11_leastSkill 64 = .ok (.iload_n 1, 1) := by decide +kernel
theorem dX11_leastSkill_65 : decode cX11_leastSkill 65 = .ok (.iadd, 1) := by decide +kernel
theorem dX11_leastSkill_66 : decode cX11_leastSkill 66 = .ok (.iload_n 3, 1) := by decide +kernel
theorem dX11_leastSkill_67 : decode cX11_leastSkill 67 = .ok (.iastore, 1) := by decide +kernel
theorem dX11_leastSkill_68 : decode cX11_leastSkill 68 = .ok (.aload_n 0, 1) := by decide +kernel
theorem dX11_leastSkill_69 : decode cX11_leastSkill 69 = .ok (.getfield 61, 3) := by decide +kernel
theorem dX11_leastSkill_72 : decode cX11_leastSkill 72 = .ok (.iload_n 2, 1) := by decide +kernel
theorem dX11_leastSkill_73 : decode cX11_leastSkill 73 = .ok (.invokevirtual 187, 3) := by decide +kernel
theorem dX11_leastSkill_76 : decode cX11_leastSkill 76 = .ok (.aload_n 0, 1) := by decide +kernel
theorem dX11_leastSkill_77 : decode cX11_leastSkill 77 = .ok (.getfield 61, 3) := by decide +kernel
theorem dX11_leastSkill_80 : decode cX11_leastSkill 80 = .ok (.getfield 170, 3) := by decide +kernel
theorem dX11_leastSkill_83 : decode cX11_leastSkill 83 = .ok (.getfield 124, 3) := by decide +kernel
theorem dX11_leastSkill_86 : decode cX11_leastSkill 86 = .ok (.bipush 53, 2) := by decide +kernel
theorem dX11_leastSkill_88 : decode cX11_leastSkill 88 = .ok (.iload_n 1, 1) := by decide +kernel
theorem dX11_leastSkill_89 : decode cX11_leastSkill 89 = .ok (.iadd, 1) := by decide +kernel
theorem dX11_leastSkill_90 : decode cX11_leastSkill 90 = .ok (.iaload, 1) := by decide +kernel
theorem dX11_leastSkill_91 : decode cX11_leastSkill 91 = .ok (.ifCond .ne 5, 3) := by decide +kernel
theorem dX11_leastSkill_94 : decode cX11_leastSkill 94 = .ok (.iload_n 3, 1) := by decide +kernel
theorem dX11_leastSkill_95 : decode cX11_leastSkill 95 = .ok (.ireturn, 1) := by decide +kernel
theorem dX11_leastSkill_96 : decode cX11_leastSkill 96 = .ok (.iinc 3 1, 3) := by decide +kernel
theorem dX11_leastSkill_99 : decode cX11_leastSkill 99 = .ok (.goto (-71), 3) := by decide +kernel
theorem dX11_leastSkill_102 : decode cX11_leastSkill 102 = .ok (.bipush (-2), 2) := by decide +kernel
theorem dX11_leastSkill_104 : decode cX11_leastSkill 104 = .ok (.ireturn, 1) := by decide +kernel
theorem dX3_opensClause_0 : decode cX3_opensClause 0 = .ok (.iload_n 0, 1) := by decide +kernel
theorem dX3_opensClause_1 : decode cX3_opensClause 1 = .ok (.bipush 13, 2) := by decide +kernel
theorem dX3_opensClause_3 : decode cX3_opensClause 3 = .ok (.if_icmp .eq 18, 3) := by decide +kernel
theorem dX3_opensClause_6 : decode cX3_opensClause 6 = .ok (.iload_n 0, 1) := by decide +kernel
theorem dX3_opensClause_7 : decode cX3_opensClause 7 = .ok (.bipush 10, 2) := by decide +kernel
theorem dX3_opensClause_9 : decode cX3_opensClause 9 = .ok (.if_icmp .eq 12, 3) := by decide +kernel
theorem dX3_opensClause_12 : decode cX3_opensClause 12 = .ok (.iload_n 0, 1) := by decide +kernel
theorem dX3_opensClause_13 : decode cX3_opensClause 13 = .ok (.iconst 1, 1) := by decide +kernel
theorem dX3_opensClause_14 : decode cX3_opensClause 14 = .ok (.if_icmp .eq 7, 3) := by decide +kernel
theorem dX3_opensClause_17 : decode cX3_opensClause 17 = .ok (.iload_n 0, 1) := by decide +kernel
theorem dX3_opensClause_18 : decode cX3_opensClause 18 = .ok (.ifCond .ne 7, 3) := by decide +kernel
theorem dX3_opensClause_21 : decode cX3_opensClause 21 = .ok (.iconst 1, 1) := by decide +kernel
theorem dX3_opensClause_22 : decode cX3_opensClause 22 = .ok (.goto 4, 3) := by decide +kernel
theorem dX3_opensClause_25 : decode cX3_opensClause 25 = .ok (.iconst 0, 1) := by decide +kernel
theorem dX3_opensClause_26 : decode cX3_opensClause 26 = .ok (.ireturn, 1) := by decide +kernel
theorem dX1_sumOfArchers_0 : decode cX1_sumOfArchers 0 = .ok (.iconst 0, 1) := by decide +kernel
theorem dX1_sumOfArchers_1 : decode cX1_sumOfArchers 1 = .ok (.istore_n 2, 1) := by decide +kernel
theorem dX1_sumOfArchers_2 : decode cX1_sumOfArchers 2 = .ok (.iconst 0, 1) := by decide +kernel
theorem dX1_sumOfArchers_3 : decode cX1_sumOfArchers 3 = .ok (.istore_n 3, 1) := by decide +kernel
theorem dX1_sumOfArchers_4 : decode cX1_sumOfArchers 4 = .ok (.iload_n 3, 1) := by decide +kernel
theorem dX1_sumOfArchers_5 : decode cX1_sumOfArchers 5 = .ok (.aload_n 0, 1) := by decide +kernel
theorem dX1_sumOfArchers_6 : decode cX1_sumOfArchers 6 = .ok (.getfield 11, 3) := by decide +kernel
theorem dX1_sumOfArchers_9 : decode cX1_sumOfArchers 9 = .ok (.iconst 4, 1) := by decide +kernel
theorem dX1_sumOfArchers_10 : decode cX1_sumOfArchers 10 = .ok (.iaload, 1) := by decide +kernel
theorem dX1_sumOfArchers_11 : decode cX1_sumOfArchers 11 = .ok (.if_icmp .ge 20, 3) := by decide +kernel
theorem dX1_sumOfArchers_14 : decode cX1_sumOfArchers 14 = .ok (.iload_n 2, 1) := by decide +kernel
theorem dX1_sumOfArchers_15 : decode cX1_sumOfArchers 15 = .ok (.aload_n 0, 1) := by decide +kernel
theorem dX1_sumOfArchers_16 : decode cX1_sumOfArchers 16 = .ok (.getfield 11, 3) := by decide +kernel
theorem dX1_sumOfArchers_19 : decode cX1_sumOfArchers 19 = .ok (.iload_n 1, 1) := by decide +kernel
theorem dX1_sumOfArchers_20 : decode cX1_sumOfArchers 20 = .ok (.iload_n 3, 1) := by decide +kernel
theorem dX1_sumOfArchers_21 : decode cX1_sumOfArchers 21 = .ok (.iadd, 1) := by decide +kernel
theorem dX1_sumOfArchers_22 : decode cX1_sumOfArchers 22 = .ok (.iaload, 1) := by decide +kernel
theorem dX1_sumOfArchers_23 : decode cX1_sumOfArchers 23 = .ok (.iadd, 1) := by decide +kernel
theorem dX1_sumOfArchers_24 : decode cX1_sumOfArchers 24 = .ok (.istore_n 2, 1) := by decide +kernel
theorem dX1_sumOfArchers_25 : decode cX1_sumOfArchers 25 = .ok (.iinc 3 1, 3) := by decide +kernel
theorem dX1_sumOfArchers_28 : decode cX1_sumOfArchers 28 = .ok (.goto (-24), 3) := by decide +kernel
theorem dX1_sumOfArchers_31 : decode cX1_sumOfArchers 31 = .ok (.iload_n 2, 1) := by decide +kernel
theorem dX1_sumOfArchers_32 : decode cX1_sumOfArchers 32 = .ok (.ireturn, 1) := by decide +kernel
theorem dX10_hasNextClause_0 : decode cX10_hasNextClause 0 = .ok (.aload_n 0, 1) := by decide +kernel
theorem dX10_hasNextClause_1 : decode cX10_hasNextClause 1 = .ok (.bipush 59, 2) := by decide +kernel
theorem dX10_hasNextClause_3 : decode cX10_hasNextClause 3 = .ok (.invokevirtual 57, 3) := by decide +kernel
theorem dX10_hasNextClause_6 : decode cX10_hasNextClause 6 = .ok (.istore_n 1, 1) := by decide +kernel
theorem dX10_hasNextClause_7 : decode cX10_hasNextClause 7 = .ok (.iload_n 1, 1) := by decide +kernel
theorem dX10_hasNextClause_8 : decode cX10_hasNextClause 8 = .ok (.ifCond .eq 10, 3) := by decide +kernel
theorem dX10_hasNextClause_11 : decode cX10_hasNextClause 11 = .ok (.aload_n 0, 1) := by decide +kernel
theorem dX10_hasNextClause_12 : decode cX10_hasNextClause 12 = .ok (.invokevirtual 54, 3) := by decide +kernel
theorem dX10_hasNextClause_15 : decode cX10_hasNextClause 15 = .ok (.goto 19, 3) := by decide +kernel
theorem dX10_hasNextClause_18 : decode cX10_hasNextClause 18 = .ok (.aload_n 0, 1) := by decide +kernel
theorem dX10_hasNextClause_19 : decode cX10_hasNextClause 19 = .ok (.getfield 34, 3) := by decide +kernel
theorem dX10_hasNextClause_22 : decode cX10_hasNextClause 22 = .ok (.ifCond .eq 12, 3) := by decide +kernel
theorem dX10_hasNextClause_25 : decode cX10_hasNextClause 25 = .ok (.aload_n 0, 1) := by decide +kernel
theorem dX10_hasNextClause_26 : decode cX10_hasNextClause 26 = .ok (.aload_n 0, 1) := by decide +kernel
theorem dX10_hasNextClause_27 : decode cX10_hasNextClause 27 = .ok (.getfield 40, 3) := by decide +kernel
theorem dX10_hasNextClause_30 : decode cX10_hasNextClause 30 = .ok (.iconst 0, 1) := by decide +kernel
theorem dX10_hasNextClause_31 : decode cX10_hasNextClause 31 = .ok (.invokevirtual 61, 3) := by decide +kernel
theorem dX10_hasNextClause_34 : decode cX10_hasNextClause 34 = .ok (.iload_n 1, 1) := by decide +kernel
theorem dX10_hasNextClause_35 : decode cX10_hasNextClause 35 = .ok (.ifCond .eq 14, 3) := by decide +kernel
theorem dX10_hasNextClause_38 : decode cX10_hasNextClause 38 = .ok (.aload_n 0, 1) := by decide +kernel
theorem dX10_hasNextClause_39 : decode cX10_hasNextClause 39 = .ok (.getfield 43, 3) := by decide +kernel
theorem dX10_hasNextClause_42 : decode cX10_hasNextClause 42 = .ok (.ifCond .ne 7, 3) := by decide +kernel
theorem dX10_hasNextClause_45 : decode cX10_hasNextClause 45 = .ok (.iconst 1, 1) := by decide +kernel
theorem dX10_hasNextClause_46 : decode cX10_hasNextClause 46 = .ok (.goto 4, 3) := by decide +kernel
theorem dX10_hasNextClause_49 : decode cX10_hasNextClause 49 = .ok (.iconst 0, 1) := by decide +kernel
theorem dX10_hasNextClause_50 : decode cX10_hasNextClause 50 = .ok (.ireturn, 1) := by decide +kernel
