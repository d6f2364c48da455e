theorem dX8_readClause_3 : decode cX8_readClause 3 = .ok (.invokevirtual 49, 3) := by decide +kernel
theorem dX8_readClause_6 : decode cX8_readClause 6 = .ok (.ifCond .ne 13, 3) := by decide +kernel
theorem dX8_readClause_9 : decode cX8_readClause 9 = .ok (.aload_n 1, 1) := by decide +kernel
theorem dX8_readClause_10 : decode cX8_readClause 10 = .ok (.aload_n 1, 1) := by decide +kernel
theorem dX8_readClause_11 : decode cX8_readClause 11 = .ok (.getfield 53, 3) := by decide +kernel
theorem dX8_readClause_14 : decode cX8_readClause 14 = .ok (.iconst 0, 1) := by decide +kernel
theorem dX8_readClause_15 : decode cX8_readClause 15 = .ok (.invokevirtual 56, 3) := by decide +kernel
theorem dX8_readClause_18 : decode cX8_readClause 18 = .ok (.return_, 1) := by decide +kernel
theorem dX8_readClause_19 : decode cX8_readClause 19 = .ok (.iload_n 2, 1) := by decide +kernel
theorem dX8_readClause_20 : decode cX8_readClause 20 = .ok (.bipush 12, 2) := by decide +kernel
theorem dX8_readClause_22 : decode cX8_readClause 22 = .ok (.if_icmp .lt 13, 3) := by decide +kernel
theorem dX8_readClause_25 : decode cX8_readClause 25 = .ok (.aload_n 1, 1) := by decide +kernel
theorem dX8_readClause_26 : decode cX8_readClause 26 = .ok (.aload_n 1, 1) := by decide +kernel
theorem dX8_readClause_27 : decode cX8_readClause 27 = .ok (.getfield 53, 3) := by decide +kernel
theorem dX8_readClause_30 : decode cX8_readClause 30 = .ok (.iconst 4, 1) := by decide +kernel
theorem dX8_readClause_31 : decode cX8_readClause 31 = .ok (.invokevirtual 56, 3) := by decide +kernel
theorem dX8_readClause_34 : decode cX8_readClause 34 = .ok (.return_, 1) := by decide +kernel
theorem dX8_readClause_35 : decode cX8_readClause 35 = .ok (.aload_n 1, 1) := by decide +kernel
theorem dX8_readClause_36 : decode cX8_readClause 36 = .ok (.invokevirtual 60, 3) := by decide +kernel
theorem dX8_readClause_39 : decode cX8_readClause 39 = .ok (.aload_n 0, 1) := by decide +kernel
theorem dX8_readClause_40 : decode cX8_readClause 40 = .ok (.aload_n 1, 1) := by decide +kernel
theorem dX8_readClause_41 : decode cX8_readClause 41 = .ok (.invokevirtual 63, 3) := by decide +kernel
theorem dX8_readClause_44 : decode cX8_readClause 44 = .ok (.aload_n 1, 1) := by decide +kernel
theorem dX8_readClause_45 : decode cX8_readClause 45 = .ok (.getfield 35, 3) := by decide +kernel
theorem dX8_readClause_48 : decode cX8_readClause 48 = .ok (.ifCond .ne 31, 3) := by decide +kernel
theorem dX8_readClause_51 : decode cX8_readClause 51 = .ok (.aload_n 1, 1) := by decide +kernel
theorem dX8_readClause_52 : decode cX8_readClause 52 = .ok (.bipush 15, 2) := by decide +kernel
theorem dX8_readClause_54 : decode cX8_readClause 54 = .ok (.invokevirtual 49, 3) := by decide +kernel
theorem dX8_readClause_57 : decode cX8_readClause 57 = .ok (.ifCond .eq 22, 3) := by decide +kernel
theorem dX8_readClause_60 : decode cX8_readClause 60 = .ok (.aload_n 1, 1) := by decide +kernel
theorem dX8_readClause_61 : decode cX8_readClause 61 = .ok (.invokevirtual 60, 3) := by decide +kernel
theorem dX8_readClause_64 : decode cX8_readClause 64 = .ok (.aload_n 0, 1) := by decide +kernel
theorem dX8_readClause_65 : decode cX8_readClause 65 = .ok (.aload_n 1, 1) := by decide +kernel
theorem dX8_readClause_66 : decode cX8_readClause 66 = .ok (.iconst 0, 1) := by decide +kernel
theorem dX8_readClause_67 : decode cX8_readClause 67 = .ok (.invokevirtual 67, 3) := by decide +kernel
theorem dX8_readClause_70 : decode cX8_readClause 70 = .ok (.aload_n 0, 1) := by decide +kernel
theorem dX8_readClause_71 : decode cX8_readClause 71 = .ok (.iconst 4, 1) := by decide +kernel
theorem dX8_readClause_72 : decode cX8_readClause 72 = .ok (.iconst 0, 1) := by decide +kernel
theorem dX8_readClause_73 : decode cX8_readClause 73 = .ok (.invokevirtual 70, 3) := by decide +kernel
theorem dX8_readClause_76 : decode cX8_readClause 76 = .ok (.goto 9, 3) := by decide +kernel
theorem dX8_readClause_79 : decode cX8_readClause 79 = .ok (.aload_n 0, 1) := by decide +kernel
theorem dX8_readClause_80 : decode cX8_readClause 80 = .ok (.iconst 3, 1) := by decide +kernel
theorem dX8_readClause_81 : decode cX8_readClause 81 = .ok (.iconst 0, 1) := by decide +kernel
theorem dX8_readClause_82 : decode cX8_readClause 82 = .ok (.invokevirtual 70, 3) := by decide +kernel
theorem dX8_readClause_85 : decode cX8_readClause 85 = .ok (.return_, 1) := by decide +kernel
theorem dX11_leastSkill_0 : decode cX11_leastSkill 0 = .ok (.aload_n 0, 1) := by decide +kernel
theorem dX11_leastSkill_1 : decode cX11_leastSkill 1 = .ok (.getfield 43, 3) := by decide +kernel
theorem dX11_leastSkill_4 : decode cX11_leastSkill 4 = .ok (.getfield 111, 3) := by decide +kernel
theorem dX11_leastSkill_7 : decode cX11_leastSkill 7 = .ok (.iload_n 1, 1) := by decide +kernel
theorem dX11_leastSkill_8 : decode cX11_leastSkill 8 = .ok (.invokevirtual 139, 3) := by decide +kernel
theorem dX11_leastSkill_11 : decode cX11_leastSkill 11 = .ok (.ifCond .eq 13, 3) := by decide +kernel
theorem dX11_leastSkill_14 : decode cX11_leastSkill 14 = .ok (.iload_n 2, 1) := by decide +kernel
theorem dX11_leastSkill_15 : decode cX11_leastSkill 15 = .ok (.iconst 1, 1) := by decide +kernel
theorem dX11_leastSkill_16 : decode cX11_leastSkill 16 = .ok (.bipush 40, 2) := by decide +kernel
theorem dX11_leastSkill_18 : decode cX11_leastSkill 18 = .ok (.invokestatic 90, 3) := by decide +kernel
theorem dX11_leastSkill_21 : decode cX11_leastSkill 21 = .ok (.ifCond .ne 5, 3) := by decide +kernel
theorem dX11_leastSkill_24 : decode cX11_leastSkill 24 = .ok (.iconst (-1), 1) := by decide +kernel
theorem dX11_leastSkill_25 : decode cX11_leastSkill 25 = .ok (.ireturn, 1) := by decide +kernel
theorem dX11_leastSkill_26 : decode cX11_leastSkill 26 = .ok (.iconst 1, 1) := by decide +kernel
theorem dX11_leastSkill_27 : decode cX11_leastSkill 27 = .ok (.istore_n 3, 1) := by decide +kernel
theorem dX11_leastSkill_28 : decode cX11_leastSkill 28 = .ok (.iload_n 3, 1) := by decide +kernel
theorem dX11_leastSkill_29 : decode cX11_leastSkill 29 = .ok (.bipush 9, 2) := by decide +kernel
theorem dX11_leastSkill_31 : decode cX11_leastSkill 31 = .ok (.if_icmp .gt 71, 3) := by decide +kernel
theorem dX11_leastSkill_34 : decode cX11_leastSkill 34 = .ok (.aload_n 0, 1) := by decide +kernel
theorem dX11_leastSkill_35 : decode cX11_leastSkill 35 = .ok (.getfield 61, 3) := by decide +kernel
theorem dX11_leastSkill_38 : decode cX11_leastSkill 38 = .ok (.aload_n 0, 1) := by decide +kernel
theorem dX11_leastSkill_39 : decode cX11_leastSkill 39 = .ok (.getfield 43, 3) := by decide +kernel
theorem dX11_leastSkill_42 : decode cX11_leastSkill 42 = .ok (.getfield 111, 3) := by decide +kernel
theorem dX11_leastSkill_45 : decode cX11_leastSkill 45 = .ok (.aload_n 0, 1) := by decide +kernel
theorem dX11_leastSkill_46 : decode cX11_leastSkill 46 = .ok (.invokevirtual 159, 3) := by decide +kernel
theorem dX11_leastSkill_49 : decode cX11_leastSkill 49 = .ok (.invokevirtual 162, 3) := by decide +kernel
theorem dX11_leastSkill_52 : decode cX11_leastSkill 52 = .ok (.aload_n 0, 1) := by decide +kernel
theorem dX11_leastSkill_53 : decode cX11_leastSkill 53 = .ok (.getfield 61, 3) := by decide +kernel
theorem dX11_leastSkill_56 : decode cX11_leastSkill 56 = .ok (.getfield 170, 3) := by decide +kernel
theorem dX11_leastSkill_59 : decode cX11_leastSkill 59 = .ok (.getfield 124, 3) := by decide +kernel
theorem dX11_leastSkill_62 : decode cX11_leastSkill 62 = .ok (.bipush 43, 2) := by decide +kernel
theorem dX11_leastSkill_64 : decode cX11_leastSkill 64 = .ok (.iload_n 1, 1) := by decide +kernel
theorem dX11_leastSkill_65 : decode cX11_leastSkill 65 = .ok (.iadd, 1) := by decide +kernel
theorem dX11_leastSkill_66 : decode cX11_leastSkill 66 = .ok (.iload_n 3, 1) := by decide +kernel
theorem dX11_leastSkill_67 : decode cX11_leastSkill 67 = .ok (.iastore, 1) := by decide +kernel
theorem dX11_leastSkill_68 : decode cX11_leastSkill 68 = .ok (.aload_n 0, 1) := by decide +kernel
theorem dX11_leastSkill_69 : decode cX11_leastSkill 69 = .ok (.getfield 61, 3) := by decide +kernel
theorem dX11_leastSkill_72 : decode cX11_leastSkill 72 = .ok (.iload_n 2, 1) := by decide +kernel
theorem dX11_leastSkill_73 : decode cX11_leastSkill 73 = .ok (.invokevirtual 187, 3) := by decide +kernel
theorem dX11_leastSkill_76 : decode cX11_leastSkill 76 = .ok (.aload_n 0, 1) := by decide +kernel
theorem dX11_leastSkill_77 : decode cX11_leastSkill 77 = .ok (.getfield 61, 3) := by decide +kernel
theorem dX11_leastSkill_80 : decode cX11_leastSkill 80 = .ok (.getfield 170, 3) := by decide +kernel
theorem dX11_leastSkill_83 : decode cX11_leastSkill 83 = .ok (.getfield 124, 3) := by decide +kernel
theorem dX11_leastSkill_86 : decode cX11_leastSkill 86 = .ok (.bipush 53, 2) := by decide +kernel
theorem dX11_leastSkill_88 : decode cX11_leastSkill 88 = .ok (.iload_n 1, 1) := by decide +kernel
theorem dX11_leastSkill_89 : decode cX11_leastSkill 89 = .ok (.iadd, 1) := by decide +kernel
theorem dX11_leastSkill_90 : decode cX11_leastSkill 90 = .ok (.iaload, 1) := by decide +kernel
theorem dX11_leastSkill_91 : decode cX11_leastSkill 91 = .ok (.ifCond .ne 5, 3) := by decide +kernel
theorem dX11_leastSkill_94 : decode cX11_leastSkill 94 = .ok (.iload_n 3, 1) := by decide +kernel
theorem dX11_leastSkill_95 : decode cX11_leastSkill 95 = .ok (.ireturn, 1) := by decide +kernel
theorem dX11_leastSkill_96 : decode cX11_leastSkill 96 = .ok (.iinc 3 1, 3) := by decide +kernel
theorem dX11_leastSkill_99 : decode cX11_leastSkill 99 = .ok (.goto (-71), 3) := by decide +kernel
theorem dX11_leastSkill_102 : decode cX11_leastSkill 102 = .ok (.bipush (-2), 2) := by decide +kernel
theorem dX11_leastSkill_104 : decode cX11_leastSkill 104 = .ok (.ireturn, 1) := by decide +kernel
theorem dX12_clauseHere_0 : decode cX12_clauseHere 0 = .ok (.aload_n 0, 1) := by decide +kernel
theorem dX12_clauseHere_1 : decode cX12_clauseHere 1 = .ok (.invokevirtual 102, 3) := by decide +kernel
theorem dX12_clauseHere_4 : decode cX12_clauseHere 4 = .ok (.pop, 1) := by decide +kernel
theorem dX12_clauseHere_5 : decode cX12_clauseHere 5 = .ok (.aload_n 0, 1) := by decide +kernel
theorem dX12_clauseHere_6 : decode cX12_clauseHere 6 = .ok (.getfield 99, 3) := by decide +kernel
theorem dX12_clauseHere_9 : decode cX12_clauseHere 9 = .ok (.istore_n 1, 1) := by decide +kernel
theorem dX12_clauseHere_10 : decode cX12_clauseHere 10 = .ok (.aload_n 0, 1) := by decide +kernel
theorem dX12_clauseHere_11 : decode cX12_clauseHere 11 = .ok (.getfield 157, 3) := by decide +kernel
theorem dX12_clauseHere_14 : decode cX12_clauseHere 14 = .ok (.bipush 6, 2) := by decide +kernel
theorem dX12_clauseHere_16 : decode cX12_clauseHere 16 = .ok (.if_icmp .ne 7, 3) := by decide +kernel
theorem dX12_clauseHere_19 : decode cX12_clauseHere 19 = .ok (.iconst 1, 1) := by decide +kernel
theorem dX12_clauseHere_20 : decode cX12_clauseHere 20 = .ok (.goto 4, 3) := by decide +kernel
theorem dX12_clauseHere_23 : decode cX12_clauseHere 23 = .ok (.iconst 0, 1) := by decide +kernel
theorem dX12_clauseHere_24 : decode cX12_clauseHere 24 = .ok (.istore_n 2, 1) := by decide +kernel
theorem dX12_clauseHere_25 : decode cX12_clauseHere 25 = .ok (.iload_n 2, 1) := by decide +kernel
theorem dX12_clauseHere_26 : decode cX12_clauseHere 26 = .ok (.ifCond .eq 13, 3) := by decide +kernel
theorem dX12_clauseHere_29 : decode cX12_clauseHere 29 = .ok (.aload_n 0, 1) := by decide +kernel
theorem dX12_clauseHere_30 : decode cX12_clauseHere 30 = .ok (.invokevirtual 250, 3) := by decide +kernel
theorem dX12_clauseHere_33 : decode cX12_clauseHere 33 = .ok (.ifCond .ne 23, 3) := by decide +kernel
theorem dX12_clauseHere_36 : decode cX12_clauseHere 36 = .ok (.goto 13, 3) := by decide +kernel
theorem dX12_clauseHere_39 : decode cX12_clauseHere 39 = .ok (.aload_n 0, 1) := by decide +kernel
theorem dX12_clauseHere_40 : decode cX12_clauseHere 40 = .ok (.ldc2_w 253, 3) := by decide +kernel
theorem dX12_clauseHere_43 : decode cX12_clauseHere 43 = .ok (.invokevirtual 110, 3) := by decide +kernel
theorem dX12_clauseHere_46 : decode cX12_clauseHere 46 = .ok (.ifCond .ne 10, 3) := by decide +kernel
theorem dX12_clauseHere_49 : decode cX12_clauseHere 49 = .ok (.aload_n 0, 1) := by decide +kernel
theorem dX12_clauseHere_50 : decode cX12_clauseHere 50 = .ok (.iconst 0, 1) := by decide +kernel
theorem dX12_clauseHere_51 : decode cX12_clauseHere 51 = .ok (.iload_n 1, 1) := by decide +kernel
theorem dX12_clauseHere_52 : decode cX12_clauseHere 52 = .ok (.invokevirtual 120, 3) := by decide +kernel
theorem dX12_clauseHere_55 : decode cX12_clauseHere 55 = .ok (.ireturn, 1) := by decide +kernel
theorem dX12_clauseHere_56 : decode cX12_clauseHere 56 = .ok (.aload_n 0, 1) := by decide +kernel
theorem dX12_clauseHere_57 : decode cX12_clauseHere 57 = .ok (.getfield 255, 3) := by decide +kernel
theorem dX12_clauseHere_60 : decode cX12_clauseHere 60 = .ok (.iload_n 2, 1) := by decide +kernel
theorem dX12_clauseHere_61 : decode cX12_clauseHere 61 = .ok (.ifCond .eq 8, 3) := by decide +kernel
theorem dX12_clauseHere_64 : decode cX12_clauseHere 64 = .ok (.bipush 40, 2) := by decide +kernel
theorem dX12_clauseHere_66 : decode cX12_clauseHere 66 = .ok (.goto 5, 3) := by decide +kernel
theorem dX12_clauseHere_69 : decode cX12_clauseHere 69 = .ok (.bipush 12, 2) := by decide +kernel
theorem dX12_clauseHere_71 : decode cX12_clauseHere 71 = .ok (.if_icmp .ne 10, 3) := by decide +kernel
theorem dX12_clauseHere_74 : decode cX12_clauseHere 74 = .ok (.aload_n 0, 1) := by decide +kernel
theorem dX12_clauseHere_75 : decode cX12_clauseHere 75 = .ok (.iconst 4, 1) := by decide +kernel
theorem dX12_clauseHere_76 : decode cX12_clauseHere 76 = .ok (.iload_n 1, 1) := by decide +kernel
theorem dX12_clauseHere_77 : decode cX12_clauseHere 77 = .ok (.invokevirtual 120, 3) := by decide +kernel
theorem dX12_clauseHere_80 : decode cX12_clauseHere 80 = .ok (.ireturn, 1) := by decide +kernel
theorem dX12_clauseHere_81 : decode cX12_clauseHere 81 = .ok (.aload_n 0, 1) := by decide +kernel
theorem dX12_clauseHere_82 : decode cX12_clauseHere 82 = .ok (.dup, 1) := by decide +kernel
theorem dX12_clauseHere_83 : decode cX12_clauseHere 83 = .ok (.getfield 255, 3) := by decide +kernel
theorem dX12_clauseHere_86 : decode cX12_clauseHere 86 = .ok (.iconst 1, 1) := by decide +kernel
theorem dX12_clauseHere_87 : decode cX12_clauseHere 87 = .ok (.iadd, 1) := by decide +kernel
theorem dX12_clauseHere_88 : decode cX12_clauseHere 88 = .ok (.putfield 255, 3) := by decide +kernel
theorem dX12_clauseHere_91 : decode cX12_clauseHere 91 = .ok (.iload_n 2, 1) := by decide +kernel
theorem dX12_clauseHere_92 : decode cX12_clauseHere 92 = .ok (.ifCond .eq 11, 3) := by decide +kernel
theorem dX12_clauseHere_95 : decode cX12_clauseHere 95 = .ok (.aload_n 0, 1) := by decide +kernel
theorem dX12_clauseHere_96 : decode cX12_clauseHere 96 = .ok (.iload_n 1, 1) := by decide +kernel
theorem dX12_clauseHere_97 : decode cX12_clauseHere 97 = .ok (.invokevirtual 258, 3) := by decide +kernel
theorem dX12_clauseHere_100 : decode cX12_clauseHere 100 = .ok (.goto 7, 3) := by decide +kernel
theorem dX12_clauseHere_103 : decode cX12_clauseHere 103 = .ok (.aload_n 0, 1) := by decide +kernel
theorem dX12_clauseHere_104 : decode cX12_clauseHere 104 = .ok (.invokevirtual 261, 3) := by decide +kernel
theorem dX12_clauseHere_107 : decode cX12_clauseHere 107 = .ok (.ireturn, 1) := by decide +kernel
theorem dX12_leastSkill_0 : decode cX12_leastSkill 0 = .ok (.aload_n 0, 1) := by decide +kernel
theorem dX12_leastSkill_1 : decode cX12_leastSkill 1 = .ok (.iload_n 1, 1) := by decide +kernel
theorem dX12_leastSkill_2 : decode cX12_leastSkill 2 = .ok (.invokevirtual 314, 3) := by decide +kernel
theorem dX12_leastSkill_5 : decode cX12_leastSkill 5 = .ok (.ifCond .eq 15, 3) := by decide +kernel
theorem dX12_leastSkill_8 : decode cX12_leastSkill 8 = .ok (.iload_n 2, 1) := by decide +kernel
theorem dX12_leastSkill_9 : decode cX12_leastSkill 9 = .ok (.i2l, 1) := by decide +kernel
theorem dX12_leastSkill_10 : decode cX12_leastSkill 10 = .ok (.lconst 1, 1) := by decide +kernel
theorem dX12_leastSkill_11 : decode cX12_leastSkill 11 = .ok (.ldc2_w 404, 3) := by decide +kernel
theorem dX12_leastSkill_14 : decode cX12_leastSkill 14 = .ok (.invokestatic 127, 3) := by decide +kernel
theorem dX12_leastSkill_17 : decode cX12_leastSkill 17 = .ok (.ifCond .ne 5, 3) := by decide +kernel
theorem dX12_leastSkill_20 : decode cX12_leastSkill 20 = .ok (.iconst (-1), 1) := by decide +kernel
theorem dX12_leastSkill_21 : decode cX12_leastSkill 21 = .ok (.ireturn, 1) := by decide +kernel
theorem dX12_leastSkill_22 : decode cX12_leastSkill 22 = .ok (.bipush (-2), 2) := by decide +kernel
theorem dX12_leastSkill_24 : decode cX12_leastSkill 24 = .ok (.istore_n 3, 1) := by decide +kernel
theorem dX12_leastSkill_25 : decode cX12_leastSkill 25 = .ok (.aload_n 0, 1) := by decide +kernel
theorem dX12_leastSkill_26 : decode cX12_leastSkill 26 = .ok (.invokevirtual 372, 3) := by decide +kernel
theorem dX12_leastSkill_29 : decode cX12_leastSkill 29 = .ok (.iconst 1, 1) := by decide +kernel
theorem dX12_leastSkill_30 : decode cX12_leastSkill 30 = .ok (.istore 4, 2) := by decide +kernel
theorem dX12_leastSkill_32 : decode cX12_leastSkill 32 = .ok (.iload 4, 2) := by decide +kernel
theorem dX12_leastSkill_34 : decode cX12_leastSkill 34 = .ok (.bipush 9, 2) := by decide +kernel
theorem dX12_leastSkill_36 : decode cX12_leastSkill 36 = .ok (.if_icmp .gt 46, 3) := by decide +kernel
theorem dX12_leastSkill_39 : decode cX12_leastSkill 39 = .ok (.iload_n 3, 1) := by decide +kernel
theorem dX12_leastSkill_40 : decode cX12_leastSkill 40 = .ok (.ifCond .ge 42, 3) := by decide +kernel
theorem dX12_leastSkill_43 : decode cX12_leastSkill 43 = .ok (.aload_n 0, 1) := by decide +kernel
theorem dX12_leastSkill_44 : decode cX12_leastSkill 44 = .ok (.getfield 39, 3) := by decide +kernel
theorem dX12_leastSkill_47 : decode cX12_leastSkill 47 = .ok (.bipush 25, 2) := by decide +kernel
theorem dX12_leastSkill_49 : decode cX12_leastSkill 49 = .ok (.iconst 3, 1) := by decide +kernel
theorem dX12_leastSkill_50 : decode cX12_leastSkill 50 = .ok (.iload_n 1, 1) := by decide +kernel
theorem dX12_leastSkill_51 : decode cX12_leastSkill 51 = .ok (.imul, 1) := by decide +kernel
theorem dX12_leastSkill_52 : decode cX12_leastSkill 52 = .ok (.iadd, 1) := by decide +kernel
theorem dX12_leastSkill_53 : decode cX12_leastSkill 53 = .ok (.iload 4, 2) := by decide +kernel
theorem dX12_leastSkill_55 : decode cX12_leastSkill 55 = .ok (.iastore, 1) := by decide +kernel
theorem dX12_leastSkill_56 : decode cX12_leastSkill 56 = .ok (.aload_n 0, 1) := by decide +kernel
theorem dX12_leastSkill_57 : decode cX12_leastSkill 57 = .ok (.iload_n 2, 1) := by decide +kernel
theorem dX12_leastSkill_58 : decode cX12_leastSkill 58 = .ok (.invokevirtual 375, 3) := by decide +kernel
theorem dX12_leastSkill_61 : decode cX12_leastSkill 61 = .ok (.aload_n 0, 1) := by decide +kernel
theorem dX12_leastSkill_62 : decode cX12_leastSkill 62 = .ok (.iload_n 1, 1) := by decide +kernel
theorem dX12_leastSkill_63 : decode cX12_leastSkill 63 = .ok (.invokevirtual 317, 3) := by decide +kernel
theorem dX12_leastSkill_66 : decode cX12_leastSkill 66 = .ok (.ifCond .ne 6, 3) := by decide +kernel
theorem dX12_leastSkill_69 : decode cX12_leastSkill 69 = .ok (.iload 4, 2) := by decide +kernel
theorem dX12_leastSkill_71 : decode cX12_leastSkill 71 = .ok (.istore_n 3, 1) := by decide +kernel
theorem dX12_leastSkill_72 : decode cX12_leastSkill 72 = .ok (.aload_n 0, 1) := by decide +kernel
theorem dX12_leastSkill_73 : decode cX12_leastSkill 73 = .ok (.invokevirtual 378, 3) := by decide +kernel
theorem dX12_leastSkill_76 : decode cX12_leastSkill 76 = .ok (.iinc 4 1, 3) := by decide +kernel
theorem dX12_leastSkill_79 : decode cX12_leastSkill 79 = .ok (.goto (-47), 3) := by decide +kernel
theorem dX12_leastSkill_82 : decode cX12_leastSkill 82 = .ok (.iload_n 3, 1) := by decide +kernel
theorem dX12_leastSkill_83 : decode cX12_leastSkill 83 = .ok (.ireturn, 1) := by decide +kernel
theorem dX3_opensClause_0 : decode cX3_opensClause 0 = .ok (.iload_n 0, 1) := by decide +kernel
theorem dX3_opensClause_1 : decode cX3_opensClause 1 = .ok (.bipush 13, 2) := by decide +kernel
theorem dX3_opensClause_3 : decode cX3_opensClause 3 = .ok (.if_icmp .eq 18, 3) := by decide +kernel
theorem dX3_opensClause_6 : decode cX3_opensClause 6 = .ok (.iload_n 0, 1) := by decide +kernel
theorem dX3_opensClause_7 : decode cX3_opensClause 7 = .ok (.bipush 10, 2) := by decide +kernel
theorem dX3_opensClause_9 : decode cX3_opensClause 9 = .ok (.if_icmp .eq 12, 3) := by decide +kernel
theorem dX3_opensClause_12 : decode cX3_opensClause 12 = .ok (.iload_n 0, 1) := by decide +kernel
theorem dX3_opensClause_13 : decode cX3_opensClause 13 = .ok (.iconst 1, 1) := by decide +kernel
theorem dX3_opensClause_14 : decode cX3_opensClause 14 = .ok (.if_icmp .eq 7, 3) := by decide +kernel
theorem dX3_opensClause_17 : decode cX3_opensClause 17 = .ok (.iload_n 0, 1) := by decide +kernel
theorem dX3_opensClause_18 : decode cX3_opensClause 18 = .ok (.ifCond .ne 7, 3) := by decide +kernel
theorem dX3_opensClause_21 : decode cX3_opensClause 21 = .ok (.iconst 1, 1) := by decide +kernel
theorem dX3_opensClause_22 : decode cX3_opensClause 22 = .ok (.goto 4, 3) := by decide +kernel
theorem dX3_opensClause_25 : decode cX3_opensClause 25 = .ok (.iconst 0, 1) := by decide +kernel
theorem dX3_opensClause_26 : decode cX3_opensClause 26 = .ok (.ireturn, 1) := by decide +kernel
theorem dX12_comingRound_0 : decode cX12_comingRound 0 = .ok (.aload_n 0, 1) := by decide +kernel
theorem dX12_comingRound_1 : decode cX12_comingRound 1 = .ok (.invokevirtual 294, 3) := by decide +kernel
theorem dX12_comingRound_4 : decode cX12_comingRound 4 = .ok (.ifCond .ne 7, 3) := by decide +kernel
theorem dX12_comingRound_7 : decode cX12_comingRound 7 = .ok (.iconst 0, 1) := by decide +kernel
theorem dX12_comingRound_8 : decode cX12_comingRound 8 = .ok (.goto 22, 3) := by decide +kernel
theorem dX12_comingRound_11 : decode cX12_comingRound 11 = .ok (.aload_n 0, 1) := by decide +kernel
theorem dX12_comingRound_12 : decode cX12_comingRound 12 = .ok (.getfield 39, 3) := by decide +kernel
theorem dX12_comingRound_15 : decode cX12_comingRound 15 = .ok (.iconst 3, 1) := by decide +kernel
theorem dX12_comingRound_16 : decode cX12_comingRound 16 = .ok (.iaload, 1) := by decide +kernel
theorem dX12_comingRound_17 : decode cX12_comingRound 17 = .ok (.ifCond .ne 7, 3) := by decide +kernel
theorem dX12_comingRound_20 : decode cX12_comingRound 20 = .ok (.iconst 1, 1) := by decide +kernel
theorem dX12_comingRound_21 : decode cX12_comingRound 21 = .ok (.goto 9, 3) := by decide +kernel
theorem dX12_comingRound_24 : decode cX12_comingRound 24 = .ok (.aload_n 0, 1) := by decide +kernel
theorem dX12_comingRound_25 : decode cX12_comingRound 25 = .ok (.getfield 39, 3) := by decide +kernel
theorem dX12_comingRound_28 : decode cX12_comingRound 28 = .ok (.iconst 3, 1) := by decide +kernel
theorem dX12_comingRound_29 : decode cX12_comingRound 29 = .ok (.iaload, 1) := by decide +kernel
theorem dX12_comingRound_30 : decode cX12_comingRound 30 = .ok (.ireturn, 1) := by decide +kernel
theorem dX12_isGreenWord_0 : decode cX12_isGreenWord 0 = .ok (.aload_n 0, 1) := by decide +kernel
theorem dX12_isGreenWord_1 : decode cX12_isGreenWord 1 = .ok (.ldc2_w 236, 3) := by decide +kernel
theorem dX12_isGreenWord_4 : decode cX12_isGreenWord 4 = .ok (.invokevirtual 110, 3) := by decide +kernel
theorem dX12_isGreenWord_7 : decode cX12_isGreenWord 7 = .ok (.ifCond .ne 33, 3) := by decide +kernel
theorem dX12_isGreenWord_10 : decode cX12_isGreenWord 10 = .ok (.aload_n 0, 1) := by decide +kernel
theorem dX12_isGreenWord_11 : decode cX12_isGreenWord 11 = .ok (.ldc2_w 151, 3) := by decide +kernel
theorem dX12_isGreenWord_14 : decode cX12_isGreenWord 14 = .ok (.invokevirtual 110, 3) := by decide +kernel
theorem dX12_isGreenWord_17 : decode cX12_isGreenWord 17 = .ok (.ifCond .ne 23, 3) := by decide +kernel
theorem dX12_isGreenWord_20 : decode cX12_isGreenWord 20 = .ok (.aload_n 0, 1) := by decide +kernel
theorem dX12_isGreenWord_21 : decode cX12_isGreenWord 21 = .ok (.ldc2_w 133, 3) := by decide +kernel
theorem dX12_isGreenWord_24 : decode cX12_isGreenWord 24 = .ok (.invokevirtual 110, 3) := by decide +kernel
theorem dX12_isGreenWord_27 : decode cX12_isGreenWord 27 = .ok (.ifCond .ne 13, 3) := by decide +kernel
theorem dX12_isGreenWord_30 : decode cX12_isGreenWord 30 = .ok (.aload_n 0, 1) := by decide +kernel
theorem dX12_isGreenWord_31 : decode cX12_isGreenWord 31 = .ok (.ldc2_w 131, 3) := by decide +kernel
theorem dX12_isGreenWord_34 : decode cX12_isGreenWord 34 = .ok (.invokevirtual 110, 3) := by decide +kernel
theorem dX12_isGreenWord_37 : decode cX12_isGreenWord 37 = .ok (.ifCond .eq 7, 3) := by decide +kernel
theorem dX12_isGreenWord_40 : decode cX12_isGreenWord 40 = .ok (.iconst 1, 1) := by decide +kernel
theorem dX12_isGreenWord_41 : decode cX12_isGreenWord 41 = .ok (.goto 4, 3) := by decide +kernel
theorem dX12_isGreenWord_44 : decode cX12_isGreenWord 44 = .ok (.iconst 0, 1) := by decide +kernel
theorem dX12_isGreenWord_45 : decode cX12_isGreenWord 45 = .ok (.ireturn, 1) := by decide +kernel
theorem dX1_sumOfArchers_0 : decode cX1_sumOfArchers 0 = .ok (.iconst 0, 1) := by decide +kernel
theorem dX1_sumOfArchers_1 : decode cX1_sumOfArchers 1 = .ok (.istore_n 2, 1) := by decide +kernel
theorem dX1_sumOfArchers_2 : decode cX1_sumOfArchers 2 = .ok (.iconst 0, 1) := by decide +kernel
theorem dX1_sumOfArchers_3 : decode cX1_sumOfArchers 3 = .ok (.istore_n 3, 1) := by decide +kernel
theorem dX1_sumOfArchers_4 : decode cX1_sumOfArchers 4 = .ok (.iload_n 3, 1) := by decide +kernel
theorem dX1_sumOfArchers_5 : decode cX1_sumOfArchers 5 = .ok (.aload_n 0, 1) := by decide +kernel
theorem dX1_sumOfArchers_6 : decode cX1_sumOfArchers 6 = .ok (.getfield 11, 3) := by decide +kernel
theorem dX1_sumOfArchers_9 : decode cX1_sumOfArchers 9 = .ok (.iconst 4, 1) := by decide +kernel
theorem dX1_sumOfArchers_10 : decode cX1_sumOfArchers 10 = .ok (.iaload, 1) := by decide +kernel
theorem dX1_sumOfArchers_11 : decode cX1_sumOfArchers 11 = .ok (.if_icmp .ge 20, 3) := by decide +kernel
theorem dX1_sumOfArchers_14 : decode cX1_sumOfArchers 14 = .ok (.iload_n 2, 1) := by decide +kernel
theorem dX1_sumOfArchers_15 : decode cX1_sumOfArchers 15 = .ok (.aload_n 0, 1) := by decide +kernel
theorem dX1_sumOfArchers_16 : decode cX1_sumOfArchers 16 = .ok (.getfield 11, 3) := by decide +kernel
theorem dX1_sumOfArchers_19 : decode cX1_sumOfArchers 19 = .ok (.iload_n 1, 1) := by decide +kernel
theorem dX1_sumOfArchers_20 : decode cX1_sumOfArchers 20 = .ok (.iload_n 3, 1) := by decide +kernel
theorem dX1_sumOfArchers_21 : decode cX1_sumOfArchers 21 = .ok (.iadd, 1) := by decide +kernel
theorem dX1_sumOfArchers_22 : decode cX1_sumOfArchers 22 = .ok (.iaload, 1) := by decide +kernel
theorem dX1_sumOfArchers_23 : decode cX1_sumOfArchers 23 = .ok (.iadd, 1) := by decide +kernel
theorem dX1_sumOfArchers_24 : decode cX1_sumOfArchers 24 = .ok (.istore_n 2, 1) := by decide +kernel
theorem dX1_sumOfArchers_25 : decode cX1_sumOfArchers 25 = .ok (.iinc 3 1, 3) := by decide +kernel
theorem dX1_sumOfArchers_28 : decode cX1_sumOfArchers 28 = .ok (.goto (-24), 3) := by decide +kernel
theorem dX1_sumOfArchers_31 : decode cX1_sumOfArchers 31 = .ok (.iload_n 2, 1) := by decide +kernel
theorem dX1_sumOfArchers_32 : decode cX1_sumOfArchers 32 = .ok (.ireturn, 1) := by decide +kernel
theorem dX10_hasNextClause_0 : decode cX10_hasNextClause 0 = .ok (.aload_n 0, 1) := by decide +kernel
theorem dX10_hasNextClause_1 : decode cX10_hasNextClause 1 = .ok (.bipush 59, 2) := by decide +kernel
theorem dX10_hasNextClause_3 : decode cX10_hasNextClause 3 = .ok (.invokevirtual 57, 3) := by decide +kernel
theorem dX10_hasNextClause_6 : decode cX10_hasNextClause 6 = .ok (.istore_n 1, 1) := by decide +kernel
theorem dX10_hasNextClause_7 : decode cX10_hasNextClause 7 = .ok (.iload_n 1, 1) := by decide +kernel
theorem dX10_hasNextClause_8 : decode cX10_hasNextClause 8 = .ok (.ifCond .eq 10, 3) := by decide +kernel
theorem dX10_hasNextClause_11 : decode cX10_hasNextClause 11 = .ok (.aload_n 0, 1) := by decide +kernel
theorem dX10_hasNextClause_12 : decode cX10_hasNextClause 12 = .ok (.invokevirtual 54, 3) := by decide +kernel
theorem dX10_hasNextClause_15 : decode cX10_hasNextClause 15 = .ok (.goto 19, 3) := by decide +kernel
theorem dX10_hasNextClause_18 : decode cX10_hasNextClause 18 = .ok (.aload_n 0, 1) := by decide +kernel
theorem dX10_hasNextClause_19 : decode cX10_hasNextClause 19 = .ok (.getfield 34, 3) := by decide +kernel
theorem dX10_hasNextClause_22 : decode cX10_hasNextClause 22 = .ok (.ifCond .eq 12, 3) := by decide +kernel
theorem dX10_hasNextClause_25 : decode cX10_hasNextClause 25 = .ok (.aload_n 0, 1) := by decide +kernel
theorem dX10_hasNextClause_26 : decode cX10_hasNextClause 26 = .ok (.aload_n 0, 1) := by decide +kernel
theorem dX10_hasNextClause_27 : decode cX10_hasNextClause 27 = .ok (.getfield 40, 3) := by decide +kernel
theorem dX10_hasNextClause_30 : decode cX10_hasNextClause 30 = .ok (.iconst 0, 1) := by decide +kernel
theorem dX10_hasNextClause_31 : decode cX10_hasNextClause 31 = .ok (.invokevirtual 61, 3) := by decide +kernel
theorem dX10_hasNextClause_34 : decode cX10_hasNextClause 34 = .ok (.iload_n 1, 1) := by decide +kernel
theorem dX10_hasNextClause_35 : decode cX10_hasNextClause 35 = .ok (.ifCond .eq 14, 3) := by decide +kernel
theorem dX10_hasNextClause_38 : decode cX10_hasNextClause 38 = .ok (.aload_n 0, 1) := by decide +kernel
theorem dX10_hasNextClause_39 : decode cX10_hasNextClause 39 = .ok (.getfield 43, 3) := by decide +kernel
theorem dX10_hasNextClause_42 : decode cX10_hasNextClause 42 = .ok (.ifCond .ne 7, 3) := by decide +kernel
theorem dX10_hasNextClause_45 : decode cX10_hasNextClause 45 = .ok (.iconst 1, 1) := by decide +kernel
theorem dX10_hasNextClause_46 : decode cX10_hasNextClause 46 = .ok (.goto 4, 3) := by decide +kernel
theorem dX10_hasNextClause_49 : decode cX10_hasNextClause 49 = .ok (.iconst 0, 1) := by decide +kernel
theorem dX10_hasNextClause_50 : decode cX10_hasNextClause 50 = .ok (.ireturn, 1) := by decide +kernel
