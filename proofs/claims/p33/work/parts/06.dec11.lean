theorem dX12_leastSkill_39 : decode cX12_leastSkill 39 = .ok (.iload_n 3, 1) := by decide +kernel
theorem dX12_leastSkill_40 : decode cX12_leastSkill 40 = .ok (.ifCond .ge 42, 3) := by decide +kernel
theorem dX12_leastSkill_43 : decode cX12_leastSkill 43 = .ok (.aload_n 0, 1) := by decide +kernel
theorem dX12_leastSkill_44 : decode cX12_leastSkill 44 = .ok (.getfield 39, 3) := by decide +kernel
theorem dX12_leastSkill_47 : decode cX12_leastSkill 47 = .ok (.bipush 25, 2) := by decide +kernel
theorem dX12_leastSkill_49 : decode cX12_leastSkill 49 = .ok (.iconst 3, 1) := by decide +kernel
theorem dX12_leastSkill_50 : decode cX12_leastSkill 50 = .ok (.iload_n 1, 1) := by decide +kernel
theorem dX12_leastSkill_51 : decode cX12_leastSkill 51 = .ok (.imul, 1) := by decide +kernel
theorem dX12_leastSkill_52 : decode cX12_leastSkill 52 = .ok (.iadd, 1) := by decide +kernel
theorem dX12_leastSkill_53 : decode cX12_leastSkill 53 = .ok (.iload 4, 2) := by decide +kernel
theorem dX12_leastSkill_55 : decode cX12_leastSkill 55 = .ok (.iastore, 1) := by decide +kernel
theorem dX12_leastSkill_56 : decode cX12_leastSkill 56 = .ok (.aload_n 0, 1) := by decide +kernel
theorem dX12_leastSkill_57 : decode cX12_leastSkill 57 = .ok (.iload_n 2, 1) := by decide +kernel
theorem dX12_leastSkill_58 : decode cX12_leastSkill 58 = .ok (.invokevirtual 375, 3) := by decide +kernel
theorem dX12_leastSkill_61 : decode cX12_leastSkill 61 = .ok (.aload_n 0, 1) := by decide +kernel
theorem dX12_leastSkill_62 : decode cX12_leastSkill 62 = .ok (.iload_n 1, 1) := by decide +kernel
theorem dX12_leastSkill_63 : decode cX12_leastSkill 63 = .ok (.invokevirtual 317, 3) := by decide +kernel
theorem dX12_leastSkill_66 : decode cX12_leastSkill 66 = .ok (.ifCond .ne 6, 3) := by decide +kernel
theorem dX12_leastSkill_69 : decode cX12_leastSkill 69 = .ok (.iload 4, 2) := by decide +kernel
theorem dX12_leastSkill_71 : decode cX12_leastSkill 71 = .ok (.istore_n 3, 1) := by decide +kernel
theorem dX12_leastSkill_72 : decode cX12_leastSkill 72 = .ok (.aload_n 0, 1) := by decide +kernel
theorem dX12_leastSkill_73 : decode cX12_leastSkill 73 = .ok (.invokevirtual 378, 3) := by decide +kernel
theorem dX12_leastSkill_76 : decode cX12_leastSkill 76 = .ok (.iinc 4 1, 3) := by decide +kernel
theorem dX12_leastSkill_79 : decode cX12_leastSkill 79 = .ok (.goto (-47), 3) := by decide +kernel
theorem dX12_leastSkill_82 : decode cX12_leastSkill 82 = .ok (.iload_n 3, 1) := by decide +kernel
theorem dX12_leastSkill_83 : decode cX12_leastSkill 83 = .ok (.ireturn, 1) := by decide +kernel
theorem dX12_numberHere_0 : decode cX12_numberHere 0 = .ok (.aload_n 0, 1) := by decide +kernel
theorem dX12_numberHere_1 : decode cX12_numberHere 1 = .ok (.invokevirtual 102, 3) := by decide +kernel
theorem dX12_numberHere_4 : decode cX12_numberHere 4 = .ok (.pop, 1) := by decide +kernel
theorem dX12_numberHere_5 : decode cX12_numberHere 5 = .ok (.aload_n 0, 1) := by decide +kernel
theorem dX12_numberHere_6 : decode cX12_numberHere 6 = .ok (.aload_n 0, 1) := by decide +kernel
theorem dX12_numberHere_7 : decode cX12_numberHere 7 = .ok (.getfield 99, 3) := by decide +kernel
theorem dX12_numberHere_10 : decode cX12_numberHere 10 = .ok (.invokevirtual 117, 3) := by decide +kernel
theorem dX12_numberHere_13 : decode cX12_numberHere 13 = .ok (.ifCond .ne 13, 3) := by decide +kernel
theorem dX12_numberHere_16 : decode cX12_numberHere 16 = .ok (.aload_n 0, 1) := by decide +kernel
theorem dX12_numberHere_17 : decode cX12_numberHere 17 = .ok (.iconst 0, 1) := by decide +kernel
theorem dX12_numberHere_18 : decode cX12_numberHere 18 = .ok (.aload_n 0, 1) := by decide +kernel
theorem dX12_numberHere_19 : decode cX12_numberHere 19 = .ok (.getfield 99, 3) := by decide +kernel
theorem dX12_numberHere_22 : decode cX12_numberHere 22 = .ok (.invokevirtual 120, 3) := by decide +kernel
theorem dX12_numberHere_25 : decode cX12_numberHere 25 = .ok (.ireturn, 1) := by decide +kernel
theorem dX12_numberHere_26 : decode cX12_numberHere 26 = .ok (.aload_n 0, 1) := by decide +kernel
theorem dX12_numberHere_27 : decode cX12_numberHere 27 = .ok (.getfield 99, 3) := by decide +kernel
theorem dX12_numberHere_30 : decode cX12_numberHere 30 = .ok (.istore_n 3, 1) := by decide +kernel
theorem dX12_numberHere_31 : decode cX12_numberHere 31 = .ok (.iconst 0, 1) := by decide +kernel
theorem dX12_numberHere_32 : decode cX12_numberHere 32 = .ok (.istore 4, 2) := by decide +kernel
theorem dX12_numberHere_34 : decode cX12_numberHere 34 = .ok (.aload_n 0, 1) := by decide +kernel
theorem dX12_numberHere_35 : decode cX12_numberHere 35 = .ok (.aload_n 0, 1) := by decide +kernel
theorem dX12_numberHere_36 : decode cX12_numberHere 36 = .ok (.getfield 99, 3) := by decide +kernel
theorem dX12_numberHere_39 : decode cX12_numberHere 39 = .ok (.invokevirtual 117, 3) := by decide +kernel
theorem dX12_numberHere_42 : decode cX12_numberHere 42 = .ok (.ifCond .eq 46, 3) := by decide +kernel
theorem dX12_numberHere_45 : decode cX12_numberHere 45 = .ok (.aload_n 0, 1) := by decide +kernel
theorem dX12_numberHere_46 : decode cX12_numberHere 46 = .ok (.getfield 99, 3) := by decide +kernel
theorem dX12_numberHere_49 : decode cX12_numberHere 49 = .ok (.iload_n 3, 1) := by decide +kernel
theorem dX12_numberHere_50 : decode cX12_numberHere 50 = .ok (.isub, 1) := by decide +kernel
theorem dX12_numberHere_51 : decode cX12_numberHere 51 = .ok (.iconst 5, 1) := by decide +kernel
theorem dX12_numberHere_52 : decode cX12_numberHere 52 = .ok (.if_icmp .ge 23, 3) := by decide +kernel
theorem dX12_numberHere_55 : decode cX12_numberHere 55 = .ok (.bipush 10, 2) := by decide +kernel
theorem dX12_numberHere_57 : decode cX12_numberHere 57 = .ok (.iload 4, 2) := by decide +kernel
theorem dX12_numberHere_59 : decode cX12_numberHere 59 = .ok (.imul, 1) := by decide +kernel
theorem dX12_numberHere_60 : decode cX12_numberHere 60 = .ok (.aload_n 0, 1) := by decide +kernel
theorem dX12_numberHere_61 : decode cX12_numberHere 61 = .ok (.getfield 7, 3) := by decide +kernel
theorem dX12_numberHere_64 : decode cX12_numberHere 64 = .ok (.aload_n 0, 1) := by decide +kernel
theorem dX12_numberHere_65 : decode cX12_numberHere 65 = .ok (.getfield 99, 3) := by decide +kernel
theorem dX12_numberHere_68 : decode cX12_numberHere 68 = .ok (.baload, 1) := by decide +kernel
theorem dX12_numberHere_69 : decode cX12_numberHere 69 = .ok (.iadd, 1) := by decide +kernel
theorem dX12_numberHere_70 : decode cX12_numberHere 70 = .ok (.bipush 48, 2) := by decide +kernel
theorem dX12_numberHere_72 : decode cX12_numberHere 72 = .ok (.isub, 1) := by decide +kernel
theorem dX12_numberHere_73 : decode cX12_numberHere 73 = .ok (.istore 4, 2) := by decide +kernel
theorem dX12_numberHere_75 : decode cX12_numberHere 75 = .ok (.aload_n 0, 1) := by decide +kernel
theorem dX12_numberHere_76 : decode cX12_numberHere 76 = .ok (.dup, 1) := by decide +kernel
theorem dX12_numberHere_77 : decode cX12_numberHere 77 = .ok (.getfield 99, 3) := by decide +kernel
theorem dX12_numberHere_80 : decode cX12_numberHere 80 = .ok (.iconst 1, 1) := by decide +kernel
theorem dX12_numberHere_81 : decode cX12_numberHere 81 = .ok (.iadd, 1) := by decide +kernel
theorem dX12_numberHere_82 : decode cX12_numberHere 82 = .ok (.putfield 99, 3) := by decide +kernel
theorem dX12_numberHere_85 : decode cX12_numberHere 85 = .ok (.goto (-51), 3) := by decide +kernel
theorem dX12_numberHere_88 : decode cX12_numberHere 88 = .ok (.aload_n 0, 1) := by decide +kernel
theorem dX12_numberHere_89 : decode cX12_numberHere 89 = .ok (.iload 4, 2) := by decide +kernel
theorem dX12_numberHere_91 : decode cX12_numberHere 91 = .ok (.putfield 124, 3) := by decide +kernel
theorem dX12_numberHere_94 : decode cX12_numberHere 94 = .ok (.aload_n 0, 1) := by decide +kernel
theorem dX12_numberHere_95 : decode cX12_numberHere 95 = .ok (.getfield 99, 3) := by decide +kernel
theorem dX12_numberHere_98 : decode cX12_numberHere 98 = .ok (.iload_n 3, 1) := by decide +kernel
theorem dX12_numberHere_99 : decode cX12_numberHere 99 = .ok (.isub, 1) := by decide +kernel
theorem dX12_numberHere_100 : decode cX12_numberHere 100 = .ok (.iconst 5, 1) := by decide +kernel
theorem dX12_numberHere_101 : decode cX12_numberHere 101 = .ok (.if_icmp .gt 16, 3) := by decide +kernel
theorem dX12_numberHere_104 : decode cX12_numberHere 104 = .ok (.iload 4, 2) := by decide +kernel
theorem dX12_numberHere_106 : decode cX12_numberHere 106 = .ok (.i2l, 1) := by decide +kernel
theorem dX12_numberHere_107 : decode cX12_numberHere 107 = .ok (.iload_n 1, 1) := by decide +kernel
theorem dX12_numberHere_108 : decode cX12_numberHere 108 = .ok (.i2l, 1) := by decide +kernel
theorem dX12_numberHere_109 : decode cX12_numberHere 109 = .ok (.iload_n 2, 1) := by decide +kernel
theorem dX12_numberHere_110 : decode cX12_numberHere 110 = .ok (.i2l, 1) := by decide +kernel
theorem dX12_numberHere_111 : decode cX12_numberHere 111 = .ok (.invokestatic 127, 3) := by decide +kernel
theorem dX12_numberHere_114 : decode cX12_numberHere 114 = .ok (.ifCond .ne 12, 3) := by decide +kernel
theorem dX12_numberHere_117 : decode cX12_numberHere 117 = .ok (.aload_n 0, 1) := by decide +kernel
theorem dX12_numberHere_118 : decode cX12_numberHere 118 = .ok (.iconst 1, 1) := by decide +kernel
theorem dX12_numberHere_119 : decode cX12_numberHere 119 = .ok (.iload_n 3, 1) := by decide +kernel
theorem dX12_numberHere_120 : decode cX12_numberHere 120 = .ok (.invokevirtual 120, 3) := by decide +kernel
theorem dX12_numberHere_123 : decode cX12_numberHere 123 = .ok (.ifCond .eq 7, 3) := by decide +kernel
theorem dX12_numberHere_126 : decode cX12_numberHere 126 = .ok (.iconst 1, 1) := by decide +kernel
theorem dX12_numberHere_127 : decode cX12_numberHere 127 = .ok (.goto 4, 3) := by decide +kernel
theorem dX12_numberHere_130 : decode cX12_numberHere 130 = .ok (.iconst 0, 1) := by decide +kernel
theorem dX12_numberHere_131 : decode cX12_numberHere 131 = .ok (.ireturn, 1) := by decide +kernel
theorem dX3_opensClause_0 : decode cX3_opensClause 0 = .ok (.iload_n 0, 1) := by decide +kernel
theorem dX3_opensClause_1 : decode cX3_opensClause 1 = .ok (.bipush 13, 2) := by decide +kernel
theorem dX3_opensClause_3 : decode cX3_opensClause 3 = .ok (.if_icmp .eq 18, 3) := by decide +kernel
theorem dX3_opensClause_6 : decode cX3_opensClause 6 = .ok (.iload_n 0, 1) := by decide +kernel
theorem dX3_opensClause_7 : decode cX3_opensClause 7 = .ok (.bipush 10, 2) := by decide +kernel
theorem dX3_opensClause_9 : decode cX3_opensClause 9 = .ok (.if_icmp .eq 12, 3) := by decide +kernel
theorem dX3_opensClause_12 : decode cX3_opensClause 12 = .ok (.iload_n 0, 1) := by decide +kernel
theorem dX3_opensClause_13 : decode cX3_opensClause 13 = .ok (.iconst 1, 1) := by decide +kernel
theorem dX3_opensClause_14 : decode cX3_opensClause 14 = .ok (.if_icmp .eq 7, 3) := by decide +kernel
theorem dX3_opensClause_17 : decode cX3_opensClause 17 = .ok (.iload_n 0, 1) := by decide +kernel
theorem dX3_opensClause_18 : decode cX3_opensClause 18 = .ok (.ifCond .ne 7, 3) := by decide +kernel
theorem dX3_opensClause_21 : decode cX3_opensClause 21 = .ok (.iconst 1, 1) := by decide +kernel
theorem dX3_opensClause_22 : decode cX3_opensClause 22 = .ok (.goto 4, 3) := by decide +kernel
theorem dX3_opensClause_25 : decode cX3_opensClause 25 = .ok (.iconst 0, 1) := by decide +kernel
theorem dX3_opensClause_26 : decode cX3_opensClause 26 = .ok (.ireturn, 1) := by decide +kernel
theorem dX3_readNumbers_0 : decode cX3_readNumbers 0 = .ok (.aload_n 0, 1) := by decide +kernel
theorem dX3_readNumbers_1 : decode cX3_readNumbers 1 = .ok (.getfield 12, 3) := by decide +kernel
theorem dX3_readNumbers_4 : decode cX3_readNumbers 4 = .ok (.getfield 69, 3) := by decide +kernel
theorem dX3_readNumbers_7 : decode cX3_readNumbers 7 = .ok (.astore_n 3, 1) := by decide +kernel
theorem dX3_readNumbers_8 : decode cX3_readNumbers 8 = .ok (.iload_n 2, 1) := by decide +kernel
theorem dX3_readNumbers_9 : decode cX3_readNumbers 9 = .ok (.bipush 13, 2) := by decide +kernel
theorem dX3_readNumbers_11 : decode cX3_readNumbers 11 = .ok (.if_icmp .ne 28, 3) := by decide +kernel
theorem dX3_readNumbers_14 : decode cX3_readNumbers 14 = .ok (.aload_n 3, 1) := by decide +kernel
theorem dX3_readNumbers_15 : decode cX3_readNumbers 15 = .ok (.iconst 0, 1) := by decide +kernel
theorem dX3_readNumbers_16 : decode cX3_readNumbers 16 = .ok (.aload_n 0, 1) := by decide +kernel
theorem dX3_readNumbers_17 : decode cX3_readNumbers 17 = .ok (.aload_n 1, 1) := by decide +kernel
theorem dX3_readNumbers_18 : decode cX3_readNumbers 18 = .ok (.iconst 3, 1) := by decide +kernel
theorem dX3_readNumbers_19 : decode cX3_readNumbers 19 = .ok (.bipush 20, 2) := by decide +kernel
theorem dX3_readNumbers_21 : decode cX3_readNumbers 21 = .ok (.invokevirtual 73, 3) := by decide +kernel
theorem dX3_readNumbers_24 : decode cX3_readNumbers 24 = .ok (.iastore, 1) := by decide +kernel
theorem dX3_readNumbers_25 : decode cX3_readNumbers 25 = .ok (.aload_n 3, 1) := by decide +kernel
theorem dX3_readNumbers_26 : decode cX3_readNumbers 26 = .ok (.iconst 1, 1) := by decide +kernel
theorem dX3_readNumbers_27 : decode cX3_readNumbers 27 = .ok (.aload_n 0, 1) := by decide +kernel
theorem dX3_readNumbers_28 : decode cX3_readNumbers 28 = .ok (.aload_n 1, 1) := by decide +kernel
theorem dX3_readNumbers_29 : decode cX3_readNumbers 29 = .ok (.iconst 0, 1) := by decide +kernel
theorem dX3_readNumbers_30 : decode cX3_readNumbers 30 = .ok (.bipush 20, 2) := by decide +kernel
theorem dX3_readNumbers_32 : decode cX3_readNumbers 32 = .ok (.invokevirtual 73, 3) := by decide +kernel
theorem dX3_readNumbers_35 : decode cX3_readNumbers 35 = .ok (.iastore, 1) := by decide +kernel
theorem dX3_readNumbers_36 : decode cX3_readNumbers 36 = .ok (.goto 157, 3) := by decide +kernel
theorem dX3_readNumbers_39 : decode cX3_readNumbers 39 = .ok (.iload_n 2, 1) := by decide +kernel
theorem dX3_readNumbers_40 : decode cX3_readNumbers 40 = .ok (.bipush 10, 2) := by decide +kernel
theorem dX3_readNumbers_42 : decode cX3_readNumbers 42 = .ok (.if_icmp .ne 29, 3) := by decide +kernel
theorem dX3_readNumbers_45 : decode cX3_readNumbers 45 = .ok (.aload_n 3, 1) := by decide +kernel
theorem dX3_readNumbers_46 : decode cX3_readNumbers 46 = .ok (.bipush 8, 2) := by decide +kernel
theorem dX3_readNumbers_48 : decode cX3_readNumbers 48 = .ok (.aload_n 3, 1) := by decide +kernel
theorem dX3_readNumbers_49 : decode cX3_readNumbers 49 = .ok (.iconst 2, 1) := by decide +kernel
theorem dX3_readNumbers_50 : decode cX3_readNumbers 50 = .ok (.iaload, 1) := by decide +kernel
theorem dX3_readNumbers_51 : decode cX3_readNumbers 51 = .ok (.iadd, 1) := by decide +kernel
theorem dX3_readNumbers_52 : decode cX3_readNumbers 52 = .ok (.aload_n 0, 1) := by decide +kernel
theorem dX3_readNumbers_53 : decode cX3_readNumbers 53 = .ok (.aload_n 1, 1) := by decide +kernel
theorem dX3_readNumbers_54 : decode cX3_readNumbers 54 = .ok (.iconst 0, 1) := by decide +kernel
theorem dX3_readNumbers_55 : decode cX3_readNumbers 55 = .ok (.bipush 8, 2) := by decide +kernel
theorem dX3_readNumbers_57 : decode cX3_readNumbers 57 = .ok (.invokevirtual 73, 3) := by decide +kernel
theorem dX3_readNumbers_60 : decode cX3_readNumbers 60 = .ok (.iastore, 1) := by decide +kernel
theorem dX3_readNumbers_61 : decode cX3_readNumbers 61 = .ok (.aload_n 3, 1) := by decide +kernel
theorem dX3_readNumbers_62 : decode cX3_readNumbers 62 = .ok (.iconst 2, 1) := by decide +kernel
theorem dX3_readNumbers_63 : decode cX3_readNumbers 63 = .ok (.dup2, 1) := by decide +kernel
theorem dX3_readNumbers_64 : decode cX3_readNumbers 64 = .ok (.iaload, 1) := by decide +kernel
theorem dX3_readNumbers_65 : decode cX3_readNumbers 65 = .ok (.iconst 1, 1) := by decide +kernel
theorem dX3_readNumbers_66 : decode cX3_readNumbers 66 = .ok (.iadd, 1) := by decide +kernel
theorem dX3_readNumbers_67 : decode cX3_readNumbers 67 = .ok (.iastore, 1) := by decide +kernel
theorem dX3_readNumbers_68 : decode cX3_readNumbers 68 = .ok (.goto 125, 3) := by decide +kernel
theorem dX3_readNumbers_71 : decode cX3_readNumbers 71 = .ok (.iload_n 2, 1) := by decide +kernel
theorem dX3_readNumbers_72 : decode cX3_readNumbers 72 = .ok (.iconst 1, 1) := by decide +kernel
theorem dX3_readNumbers_73 : decode cX3_readNumbers 73 = .ok (.if_icmp .ne 45, 3) := by decide +kernel
theorem dX3_readNumbers_76 : decode cX3_readNumbers 76 = .ok (.aload_n 3, 1) := by decide +kernel
theorem dX3_readNumbers_77 : decode cX3_readNumbers 77 = .ok (.iconst 3, 1) := by decide +kernel
theorem dX3_readNumbers_78 : decode cX3_readNumbers 78 = .ok (.iaload, 1) := by decide +kernel
theorem dX3_readNumbers_79 : decode cX3_readNumbers 79 = .ok (.istore 4, 2) := by decide +kernel
theorem dX3_readNumbers_81 : decode cX3_readNumbers 81 = .ok (.aload_n 3, 1) := by decide +kernel
theorem dX3_readNumbers_82 : decode cX3_readNumbers 82 = .ok (.bipush 20, 2) := by decide +kernel
theorem dX3_readNumbers_84 : decode cX3_readNumbers 84 = .ok (.iload 4, 2) := by decide +kernel
theorem dX3_readNumbers_86 : decode cX3_readNumbers 86 = .ok (.iadd, 1) := by decide +kernel
theorem dX3_readNumbers_87 : decode cX3_readNumbers 87 = .ok (.aload_n 0, 1) := by decide +kernel
theorem dX3_readNumbers_88 : decode cX3_readNumbers 88 = .ok (.aload_n 1, 1) := by decide +kernel
theorem dX3_readNumbers_89 : decode cX3_readNumbers 89 = .ok (.invokevirtual 77, 3) := by decide +kernel
theorem dX3_readNumbers_92 : decode cX3_readNumbers 92 = .ok (.iastore, 1) := by decide +kernel
theorem dX3_readNumbers_93 : decode cX3_readNumbers 93 = .ok (.aload_n 3, 1) := by decide +kernel
theorem dX3_readNumbers_94 : decode cX3_readNumbers 94 = .ok (.bipush 26, 2) := by decide +kernel
theorem dX3_readNumbers_96 : decode cX3_readNumbers 96 = .ok (.iload 4, 2) := by decide +kernel
theorem dX3_readNumbers_98 : decode cX3_readNumbers 98 = .ok (.iadd, 1) := by decide +kernel
theorem dX3_readNumbers_99 : decode cX3_readNumbers 99 = .ok (.aload_n 0, 1) := by decide +kernel
theorem dX3_readNumbers_100 : decode cX3_readNumbers 100 = .ok (.aload_n 1, 1) := by decide +kernel
theorem dX3_readNumbers_101 : decode cX3_readNumbers 101 = .ok (.iconst 1, 1) := by decide +kernel
theorem dX3_readNumbers_102 : decode cX3_readNumbers 102 = .ok (.bipush 9, 2) := by decide +kernel
theorem dX3_readNumbers_104 : decode cX3_readNumbers 104 = .ok (.invokevirtual 73, 3) := by decide +kernel
theorem dX3_readNumbers_107 : decode cX3_readNumbers 107 = .ok (.iastore, 1) := by decide +kernel
theorem dX3_readNumbers_108 : decode cX3_readNumbers 108 = .ok (.aload_n 3, 1) := by decide +kernel
theorem dX3_readNumbers_109 : decode cX3_readNumbers 109 = .ok (.iconst 3, 1) := by decide +kernel
theorem dX3_readNumbers_110 : decode cX3_readNumbers 110 = .ok (.dup2, 1) := by decide +kernel
theorem dX3_readNumbers_111 : decode cX3_readNumbers 111 = .ok (.iaload, 1) := by decide +kernel
theorem dX3_readNumbers_112 : decode cX3_readNumbers 112 = .ok (.iconst 1, 1) := by decide +kernel
theorem dX3_readNumbers_113 : decode cX3_readNumbers 113 = .ok (.iadd, 1) := by decide +kernel
theorem dX3_readNumbers_114 : decode cX3_readNumbers 114 = .ok (.iastore, 1) := by decide +kernel
theorem dX3_readNumbers_115 : decode cX3_readNumbers 115 = .ok (.goto 78, 3) := by decide +kernel
theorem dX3_readNumbers_118 : decode cX3_readNumbers 118 = .ok (.aload_n 3, 1) := by decide +kernel
theorem dX3_readNumbers_119 : decode cX3_readNumbers 119 = .ok (.iconst 4, 1) := by decide +kernel
theorem dX3_readNumbers_120 : decode cX3_readNumbers 120 = .ok (.iaload, 1) := by decide +kernel
theorem dX3_readNumbers_121 : decode cX3_readNumbers 121 = .ok (.istore 4, 2) := by decide +kernel
theorem dX3_readNumbers_123 : decode cX3_readNumbers 123 = .ok (.aload_n 3, 1) := by decide +kernel
theorem dX3_readNumbers_124 : decode cX3_readNumbers 124 = .ok (.bipush 38, 2) := by decide +kernel
theorem dX3_readNumbers_126 : decode cX3_readNumbers 126 = .ok (.iload 4, 2) := by decide +kernel
theorem dX3_readNumbers_128 : decode cX3_readNumbers 128 = .ok (.iadd, 1) := by decide +kernel
theorem dX3_readNumbers_129 : decode cX3_readNumbers 129 = .ok (.aload_n 0, 1) := by decide +kernel
theorem dX3_readNumbers_130 : decode cX3_readNumbers 130 = .ok (.aload_n 1, 1) := by decide +kernel
theorem dX3_readNumbers_131 : decode cX3_readNumbers 131 = .ok (.iconst 0, 1) := by decide +kernel
theorem dX3_readNumbers_132 : decode cX3_readNumbers 132 = .ok (.aload_n 3, 1) := by decide +kernel
theorem dX3_readNumbers_133 : decode cX3_readNumbers 133 = .ok (.iconst 3, 1) := by decide +kernel
theorem dX3_readNumbers_134 : decode cX3_readNumbers 134 = .ok (.iaload, 1) := by decide +kernel
theorem dX3_readNumbers_135 : decode cX3_readNumbers 135 = .ok (.iconst 1, 1) := by decide +kernel
theorem dX3_readNumbers_136 : decode cX3_readNumbers 136 = .ok (.isub, 1) := by decide +kernel
theorem dX3_readNumbers_137 : decode cX3_readNumbers 137 = .ok (.invokevirtual 73, 3) := by decide +kernel
theorem dX3_readNumbers_140 : decode cX3_readNumbers 140 = .ok (.iastore, 1) := by decide +kernel
theorem dX3_readNumbers_141 : decode cX3_readNumbers 141 = .ok (.aload_n 3, 1) := by decide +kernel
theorem dX3_readNumbers_142 : decode cX3_readNumbers 142 = .ok (.bipush 43, 2) := by decide +kernel
theorem dX3_readNumbers_144 : decode cX3_readNumbers 144 = .ok (.iload 4, 2) := by decide +kernel
theorem dX3_readNumbers_146 : decode cX3_readNumbers 146 = .ok (.iadd, 1) := by decide +kernel
theorem dX3_readNumbers_147 : decode cX3_readNumbers 147 = .ok (.aload_n 0, 1) := by decide +kernel
theorem dX3_readNumbers_148 : decode cX3_readNumbers 148 = .ok (.aload_n 1, 1) := by decide +kernel
theorem dX3_readNumbers_149 : decode cX3_readNumbers 149 = .ok (.iconst 1, 1) := by decide +kernel
theorem dX3_readNumbers_150 : decode cX3_readNumbers 150 = .ok (.bipush 9, 2) := by decide +kernel
theorem dX3_readNumbers_152 : decode cX3_readNumbers 152 = .ok (.invokevirtual 73, 3) := by decide +kernel
theorem dX3_readNumbers_155 : decode cX3_readNumbers 155 = .ok (.iastore, 1) := by decide +kernel
theorem dX3_readNumbers_156 : decode cX3_readNumbers 156 = .ok (.aload_n 3, 1) := by decide +kernel
theorem dX3_readNumbers_157 : decode cX3_readNumbers 157 = .ok (.bipush 48, 2) := by decide +kernel
theorem dX3_readNumbers_159 : decode cX3_readNumbers 159 = .ok (.iload 4, 2) := by decide +kernel
theorem dX3_readNumbers_161 : decode cX3_readNumbers 161 = .ok (.iadd, 1) := by decide +kernel
theorem dX3_readNumbers_162 : decode cX3_readNumbers 162 = .ok (.aload_n 0, 1) := by decide +kernel
theorem dX3_readNumbers_163 : decode cX3_readNumbers 163 = .ok (.aload_n 1, 1) := by decide +kernel
theorem dX3_readNumbers_164 : decode cX3_readNumbers 164 = .ok (.iconst 1, 1) := by decide +kernel
theorem dX3_readNumbers_165 : decode cX3_readNumbers 165 = .ok (.bipush 9, 2) := by decide +kernel
theorem dX3_readNumbers_167 : decode cX3_readNumbers 167 = .ok (.invokevirtual 73, 3) := by decide +kernel
theorem dX3_readNumbers_170 : decode cX3_readNumbers 170 = .ok (.iastore, 1) := by decide +kernel
theorem dX3_readNumbers_171 : decode cX3_readNumbers 171 = .ok (.aload_n 3, 1) := by decide +kernel
theorem dX3_readNumbers_172 : decode cX3_readNumbers 172 = .ok (.bipush 53, 2) := by decide +kernel
theorem dX3_readNumbers_174 : decode cX3_readNumbers 174 = .ok (.iload 4, 2) := by decide +kernel
theorem dX3_readNumbers_176 : decode cX3_readNumbers 176 = .ok (.iadd, 1) := by decide +kernel
theorem dX3_readNumbers_177 : decode cX3_readNumbers 177 = .ok (.aload_n 0, 1) := by decide +kernel
theorem dX3_readNumbers_178 : decode cX3_readNumbers 178 = .ok (.aload_n 1, 1) := by decide +kernel
theorem dX3_readNumbers_179 : decode cX3_readNumbers 179 = .ok (.iconst 0, 1) := by decide +kernel
theorem dX3_readNumbers_180 : decode cX3_readNumbers 180 = .ok (.bipush 30, 2) := by decide +kernel
theorem dX3_readNumbers_182 : decode cX3_readNumbers 182 = .ok (.invokevirtual 73, 3) := by decide +kernel
theorem dX3_readNumbers_185 : decode cX3_readNumbers 185 = .ok (.iastore, 1) := by decide +kernel
theorem dX3_readNumbers_186 : decode cX3_readNumbers 186 = .ok (.aload_n 3, 1) := by decide +kernel
theorem dX3_readNumbers_187 : decode cX3_readNumbers 187 = .ok (.iconst 4, 1) := by decide +kernel
theorem dX3_readNumbers_188 : decode cX3_readNumbers 188 = .ok (.dup2, 1) := by decide +kernel
theorem dX3_readNumbers_189 : decode cX3_readNumbers 189 = .ok (.iaload, 1) := by decide +kernel
theorem dX3_readNumbers_190 : decode cX3_readNumbers 190 = .ok (.iconst 1, 1) := by decide +kernel
theorem dX3_readNumbers_191 : decode cX3_readNumbers 191 = .ok (.iadd, 1) := by decide +kernel
theorem dX3_readNumbers_192 : decode cX3_readNumbers 192 = .ok (.iastore, 1) := by decide +kernel
theorem dX3_readNumbers_193 : decode cX3_readNumbers 193 = .ok (.return_, 1) := by decide +kernel
theorem dX8_reckoningOf_0 : decode cX8_reckoningOf 0 = .ok (.aload_n 0, 1) := by decide +kernel
theorem dX8_reckoningOf_1 : decode cX8_reckoningOf 1 = .ok (.getfield 86, 3) := by decide +kernel
theorem dX8_reckoningOf_4 : decode cX8_reckoningOf 4 = .ok (.iconst 4, 1) := by decide +kernel
theorem dX8_reckoningOf_5 : decode cX8_reckoningOf 5 = .ok (.if_icmp .eq 5, 3) := by decide +kernel
theorem dX8_reckoningOf_8 : decode cX8_reckoningOf 8 = .ok (.iconst (-1), 1) := by decide +kernel
theorem dX8_reckoningOf_9 : decode cX8_reckoningOf 9 = .ok (.ireturn, 1) := by decide +kernel
theorem dX8_reckoningOf_10 : decode cX8_reckoningOf 10 = .ok (.aload_n 0, 1) := by decide +kernel
theorem dX8_reckoningOf_11 : decode cX8_reckoningOf 11 = .ok (.getfield 89, 3) := by decide +kernel
theorem dX8_reckoningOf_14 : decode cX8_reckoningOf 14 = .ok (.tableswitch 72 37 47 #[69, 72, 72, 72, 72, 63, 58, 72, 60, 72, 66], 58) := by decide +kernel
theorem dX8_reckoningOf_72 : decode cX8_reckoningOf 72 = .ok (.iconst 5, 1) := by decide +kernel
theorem dX8_reckoningOf_73 : decode cX8_reckoningOf 73 = .ok (.ireturn, 1) := by decide +kernel
theorem dX8_reckoningOf_74 : decode cX8_reckoningOf 74 = .ok (.bipush 6, 2) := by decide +kernel
theorem dX8_reckoningOf_76 : decode cX8_reckoningOf 76 = .ok (.ireturn, 1) := by decide +kernel
theorem dX8_reckoningOf_77 : decode cX8_reckoningOf 77 = .ok (.bipush 7, 2) := by decide +kernel
theorem dX8_reckoningOf_79 : decode cX8_reckoningOf 79 = .ok (.ireturn, 1) := by decide +kernel
theorem dX8_reckoningOf_80 : decode cX8_reckoningOf 80 = .ok (.bipush 8, 2) := by decide +kernel
theorem dX8_reckoningOf_82 : decode cX8_reckoningOf 82 = .ok (.ireturn, 1) := by decide +kernel
theorem dX8_reckoningOf_83 : decode cX8_reckoningOf 83 = .ok (.bipush 9, 2) := by decide +kernel
theorem dX8_reckoningOf_85 : decode cX8_reckoningOf 85 = .ok (.ireturn, 1) := by decide +kernel
theorem dX8_reckoningOf_86 : decode cX8_reckoningOf 86 = .ok (.iconst (-1), 1) := by decide +kernel
theorem dX8_reckoningOf_87 : decode cX8_reckoningOf 87 = .ok (.ireturn, 1) := by decide +kernel
theorem dJ0_charAt_5068e_0 : decode cJ0_charAt_5068e 0 = .ok (.aload_n 0, 1) := by decide +kernel
theorem dJ0_charAt_5068e_1 : decode cJ0_charAt_5068e 1 = .ok (.invokevirtual 492, 3) := by decide +kernel
theorem dJ0_charAt_5068e_4 : decode cJ0_charAt_5068e 4 = .ok (.ifCond .eq 12, 3) := by decide +kernel
theorem dJ0_charAt_5068e_7 : decode cJ0_charAt_5068e 7 = .ok (.aload_n 0, 1) := by decide +kernel
theorem dJ0_charAt_5068e_8 : decode cJ0_charAt_5068e 8 = .ok (.getfield 9, 3) := by decide +kernel
theorem dJ0_charAt_5068e_11 : decode cJ0_charAt_5068e 11 = .ok (.iload_n 1, 1) := by decide +kernel
theorem dJ0_charAt_5068e_12 : decode cJ0_charAt_5068e 12 = .ok (.invokestatic 495, 3) := by decide +kernel
theorem dJ0_charAt_5068e_15 : decode cJ0_charAt_5068e 15 = .ok (.ireturn, 1) := by decide +kernel
theorem dJ0_charAt_5068e_16 : decode cJ0_charAt_5068e 16 = .ok (.aload_n 0, 1) := by decide +kernel
theorem dJ0_charAt_5068e_17 : decode cJ0_charAt_5068e 17 = .ok (.getfield 9, 3) := by decide +kernel
theorem dJ0_charAt_5068e_20 : decode cJ0_charAt_5068e 20 = .ok (.iload_n 1, 1) := by decide +kernel
theorem dJ0_charAt_5068e_21 : decode cJ0_charAt_5068e 21 = .ok (.invokestatic 498, 3) := by decide +kernel
theorem dJ0_charAt_5068e_24 : decode cJ0_charAt_5068e 24 = .ok (.ireturn, 1) := by decide +kernel
theorem dJ0_length_8abf5_0 : decode cJ0_length_8abf5 0 = .ok (.aload_n 0, 1) := by decide +kernel
theorem dJ0_length_8abf5_1 : decode cJ0_length_8abf5 1 = .ok (.getfield 9, 3) := by decide +kernel
theorem dJ0_length_8abf5_4 : decode cJ0_length_8abf5 4 = .ok (.arraylength, 1) := by decide +kernel
theorem dJ0_length_8abf5_5 : decode cJ0_length_8abf5 5 = .ok (.aload_n 0, 1) := by decide +kernel
theorem dJ0_length_8abf5_6 : decode cJ0_length_8abf5 6 = .ok (.invokevirtual 335, 3) := by decide +kernel
theorem dJ0_length_8abf5_9 : decode cJ0_length_8abf5 9 = .ok (.ishr, 1) := by decide +kernel
theorem dJ0_length_8abf5_10 : decode cJ0_length_8abf5 10 = .ok (.ireturn, 1) := by decide +kernel
theorem dJ1_charAt_3b067_0 : decode cJ1_charAt_3b067 0 = .ok (.iload_n 1, 1) := by decide +kernel
theorem dJ1_charAt_3b067_1 : decode cJ1_charAt_3b067 1 = .ok (.aload_n 0, 1) := by decide +kernel
theorem dJ1_charAt_3b067_2 : decode cJ1_charAt_3b067 2 = .ok (.arraylength, 1) := by decide +kernel
theorem dJ1_charAt_3b067_3 : decode cJ1_charAt_3b067 3 = .ok (.invokestatic 9, 3) := by decide +kernel
theorem dJ1_charAt_3b067_6 : decode cJ1_charAt_3b067 6 = .ok (.aload_n 0, 1) := by decide +kernel
theorem dJ1_charAt_3b067_7 : decode cJ1_charAt_3b067 7 = .ok (.iload_n 1, 1) := by decide +kernel
theorem dJ1_charAt_3b067_8 : decode cJ1_charAt_3b067 8 = .ok (.baload, 1) := by decide +kernel
theorem dJ1_charAt_3b067_9 : decode cJ1_charAt_3b067 9 = .ok (.sipush 255, 3) := by decide +kernel
theorem dJ1_charAt_3b067_12 : decode cJ1_charAt_3b067 12 = .ok (.iand, 1) := by decide +kernel
theorem dJ1_charAt_3b067_13 : decode cJ1_charAt_3b067 13 = .ok (.i2c, 1) := by decide +kernel
theorem dJ1_charAt_3b067_14 : decode cJ1_charAt_3b067 14 = .ok (.ireturn, 1) := by decide +kernel
theorem dJ2_charAt_3b067_0 : decode cJ2_charAt_3b067 0 = .ok (.iload_n 1, 1) := by decide +kernel
theorem dJ2_charAt_3b067_1 : decode cJ2_charAt_3b067 1 = .ok (.aload_n 0, 1) := by decide +kernel
theorem dJ2_charAt_3b067_2 : decode cJ2_charAt_3b067 2 = .ok (.invokestatic 67, 3) := by decide +kernel
theorem dJ2_charAt_3b067_5 : decode cJ2_charAt_3b067 5 = .ok (.aload_n 0, 1) := by decide +kernel
theorem dJ2_charAt_3b067_6 : decode cJ2_charAt_3b067 6 = .ok (.iload_n 1, 1) := by decide +kernel
theorem dJ2_charAt_3b067_7 : decode cJ2_charAt_3b067 7 = .ok (.invokestatic 71, 3) := by decide +kernel
theorem dJ2_charAt_3b067_10 : decode cJ2_charAt_3b067 10 = .ok (.ireturn, 1) := by decide +kernel
theorem dJ2_length_9d52b_0 : decode cJ2_length_9d52b 0 = .ok (.aload_n 0, 1) := by decide +kernel
theorem dJ2_length_9d52b_1 : decode cJ2_length_9d52b 1 = .ok (.arraylength, 1) := by decide +kernel
theorem dJ2_length_9d52b_2 : decode cJ2_length_9d52b 2 = .ok (.iconst 1, 1) := by decide +kernel
theorem dJ2_length_9d52b_3 : decode cJ2_length_9d52b 3 = .ok (.ishr, 1) := by decide +kernel
theorem dJ2_length_9d52b_4 : decode cJ2_length_9d52b 4 = .ok (.ireturn, 1) := by decide +kernel
theorem dJ7_copyOf_59c91_0 : decode cJ7_copyOf_59c91 0 = .ok (.iload_n 1, 1) := by decide +kernel
theorem dJ7_copyOf_59c91_1 : decode cJ7_copyOf_59c91 1 = .ok (.aload_n 0, 1) := by decide +kernel
theorem dJ7_copyOf_59c91_2 : decode cJ7_copyOf_59c91 2 = .ok (.arraylength, 1) := by decide +kernel
theorem dJ7_copyOf_59c91_3 : decode cJ7_copyOf_59c91 3 = .ok (.if_icmp .ne 11, 3) := by decide +kernel
theorem dJ7_copyOf_59c91_6 : decode cJ7_copyOf_59c91 6 = .ok (.aload_n 0, 1) := by decide +kernel
theorem dJ7_copyOf_59c91_7 : decode cJ7_copyOf_59c91 7 = .ok (.invokevirtual 316, 3) := by decide +kernel
theorem dJ7_copyOf_59c91_10 : decode cJ7_copyOf_59c91 10 = .ok (.checkcast 317, 3) := by decide +kernel
theorem dJ7_copyOf_59c91_13 : decode cJ7_copyOf_59c91 13 = .ok (.areturn, 1) := by decide +kernel
theorem dJ7_copyOf_59c91_14 : decode cJ7_copyOf_59c91 14 = .ok (.iload_n 1, 1) := by decide +kernel
theorem dJ7_copyOf_59c91_15 : decode cJ7_copyOf_59c91 15 = .ok (.newarray .int, 2) := by decide +kernel
theorem dJ7_copyOf_59c91_17 : decode cJ7_copyOf_59c91 17 = .ok (.astore_n 2, 1) := by decide +kernel
theorem dJ7_copyOf_59c91_18 : decode cJ7_copyOf_59c91 18 = .ok (.aload_n 0, 1) := by decide +kernel
theorem dJ7_copyOf_59c91_19 : decode cJ7_copyOf_59c91 19 = .ok (.iconst 0, 1) := by decide +kernel
theorem dJ7_copyOf_59c91_20 : decode cJ7_copyOf_59c91 20 = .ok (.aload_n 2, 1) := by decide +kernel
theorem dJ7_copyOf_59c91_21 : decode cJ7_copyOf_59c91 21 = .ok (.iconst 0, 1) := by decide +kernel
theorem dJ7_copyOf_59c91_22 : decode cJ7_copyOf_59c91 22 = .ok (.aload_n 0, 1) := by decide +kernel
theorem dJ7_copyOf_59c91_23 : decode cJ7_copyOf_59c91 23 = .ok (.arraylength, 1) := by decide +kernel
theorem dJ7_copyOf_59c91_24 : decode cJ7_copyOf_59c91 24 = .ok (.iload_n 1, 1) := by decide +kernel
theorem dJ7_copyOf_59c91_25 : decode cJ7_copyOf_59c91 25 = .ok (.invokestatic 304, 3) := by decide +kernel
theorem dJ7_copyOf_59c91_28 : decode cJ7_copyOf_59c91 28 = .ok (.invokestatic 150, 3) := by decide +kernel
theorem dJ7_copyOf_59c91_31 : decode cJ7_copyOf_59c91 31 = .ok (.aload_n 2, 1) := by decide +kernel
theorem dJ7_copyOf_59c91_32 : decode cJ7_copyOf_59c91 32 = .ok (.areturn, 1) := by decide +kernel
theorem dX11_ruleInForce_0 : decode cX11_ruleInForce 0 = .ok (.aload_n 0, 1) := by decide +kernel
theorem dX11_ruleInForce_1 : decode cX11_ruleInForce 1 = .ok (.getfield 43, 3) := by decide +kernel
theorem dX11_ruleInForce_4 : decode cX11_ruleInForce 4 = .ok (.getfield 133, 3) := by decide +kernel
theorem dX11_ruleInForce_7 : decode cX11_ruleInForce 7 = .ok (.iconst 0, 1) := by decide +kernel
theorem dX11_ruleInForce_8 : decode cX11_ruleInForce 8 = .ok (.iconst 5, 1) := by decide +kernel
theorem dX11_ruleInForce_9 : decode cX11_ruleInForce 9 = .ok (.invokestatic 90, 3) := by decide +kernel
theorem dX11_ruleInForce_12 : decode cX11_ruleInForce 12 = .ok (.ifCond .eq 18, 3) := by decide +kernel
theorem dX11_ruleInForce_15 : decode cX11_ruleInForce 15 = .ok (.aload_n 0, 1) := by decide +kernel
theorem dX11_ruleInForce_16 : decode cX11_ruleInForce 16 = .ok (.getfield 32, 3) := by decide +kernel
theorem dX11_ruleInForce_19 : decode cX11_ruleInForce 19 = .ok (.aload_n 0, 1) := by decide +kernel
theorem dX11_ruleInForce_20 : decode cX11_ruleInForce 20 = .ok (.getfield 43, 3) := by decide +kernel
theorem dX11_ruleInForce_23 : decode cX11_ruleInForce 23 = .ok (.getfield 133, 3) := by decide +kernel
theorem dX11_ruleInForce_26 : decode cX11_ruleInForce 26 = .ok (.aaload, 1) := by decide +kernel
theorem dX11_ruleInForce_27 : decode cX11_ruleInForce 27 = .ok (.goto 4, 3) := by decide +kernel
theorem dX11_ruleInForce_30 : decode cX11_ruleInForce 30 = .ok (.aconst_null, 1) := by decide +kernel
theorem dX11_ruleInForce_31 : decode cX11_ruleInForce 31 = .ok (.areturn, 1) := by decide +kernel
theorem dX12_comingRound_0 : decode cX12_comingRound 0 = .ok (.aload_n 0, 1) := by decide +kernel
theorem dX12_comingRound_1 : decode cX12_comingRound 1 = .ok (.invokevirtual 294, 3) := by decide +kernel
theorem dX12_comingRound_4 : decode cX12_comingRound 4 = .ok (.ifCond .ne 7, 3) := by decide +kernel
theorem dX12_comingRound_7 : decode cX12_comingRound 7 = .ok (.iconst 0, 1) := by decide +kernel
theorem dX12_comingRound_8 : decode cX12_comingRound 8 = .ok (.goto 22, 3) := by decide +kernel
theorem dX12_comingRound_11 : decode cX12_comingRound 11 = .ok (.aload_n 0, 1) := by decide +kernel
theorem dX12_comingRound_12 : decode cX12_comingRound 12 = .ok (.getfield 39, 3) := by decide +kernel
theorem dX12_comingRound_15 : decode cX12_comingRound 15 = .ok (.iconst 3, 1) := by decide +kernel
theorem dX12_comingRound_16 : decode cX12_comingRound 16 = .ok (.iaload, 1) := by decide +kernel
theorem dX12_comingRound_17 : decode cX12_comingRound 17 = .ok (.ifCond .ne 7, 3) := by decide +kernel
theorem dX12_comingRound_20 : decode cX12_comingRound 20 = .ok (.iconst 1, 1) := by decide +kernel
theorem dX12_comingRound_21 : decode cX12_comingRound 21 = .ok (.goto 9, 3) := by decide +kernel
theorem dX12_comingRound_24 : decode cX12_comingRound 24 = .ok (.aload_n 0, 1) := by decide +kernel
theorem dX12_comingRound_25 : decode cX12_comingRound 25 = .ok (.getfield 39, 3) := by decide +kernel
theorem dX12_comingRound_28 : decode cX12_comingRound 28 = .ok (.iconst 3, 1) := by decide +kernel
theorem dX12_comingRound_29 : decode cX12_comingRound 29 = .ok (.iaload, 1) := by decide +kernel
theorem dX12_comingRound_30 : decode cX12_comingRound 30 = .ok (.ireturn, 1) := by decide +kernel
theorem dX12_isGreenHere_0 : decode cX12_isGreenHere 0 = .ok (.aload_n 0, 1) := by decide +kernel
theorem dX12_isGreenHere_1 : decode cX12_isGreenHere 1 = .ok (.getfield 26, 3) := by decide +kernel
theorem dX12_isGreenHere_4 : decode cX12_isGreenHere 4 = .ok (.iconst 0, 1) := by decide +kernel
theorem dX12_isGreenHere_5 : decode cX12_isGreenHere 5 = .ok (.iaload, 1) := by decide +kernel
theorem dX12_isGreenHere_6 : decode cX12_isGreenHere 6 = .ok (.ifCond .le 10, 3) := by decide +kernel
theorem dX12_isGreenHere_9 : decode cX12_isGreenHere 9 = .ok (.aload_n 0, 1) := by decide +kernel
theorem dX12_isGreenHere_10 : decode cX12_isGreenHere 10 = .ok (.iconst 4, 1) := by decide +kernel
theorem dX12_isGreenHere_11 : decode cX12_isGreenHere 11 = .ok (.iload_n 1, 1) := by decide +kernel
theorem dX12_isGreenHere_12 : decode cX12_isGreenHere 12 = .ok (.invokevirtual 120, 3) := by decide +kernel
theorem dX12_isGreenHere_15 : decode cX12_isGreenHere 15 = .ok (.ireturn, 1) := by decide +kernel
theorem dX12_isGreenHere_16 : decode cX12_isGreenHere 16 = .ok (.aload_n 0, 1) := by decide +kernel
theorem dX12_isGreenHere_17 : decode cX12_isGreenHere 17 = .ok (.invokevirtual 114, 3) := by decide +kernel
theorem dX12_isGreenHere_20 : decode cX12_isGreenHere 20 = .ok (.aload_n 0, 1) := by decide +kernel
theorem dX12_isGreenHere_21 : decode cX12_isGreenHere 21 = .ok (.iconst 1, 1) := by decide +kernel
theorem dX12_isGreenHere_22 : decode cX12_isGreenHere 22 = .ok (.iconst 3, 1) := by decide +kernel
theorem dX12_isGreenHere_23 : decode cX12_isGreenHere 23 = .ok (.bipush 20, 2) := by decide +kernel
theorem dX12_isGreenHere_25 : decode cX12_isGreenHere 25 = .ok (.invokevirtual 229, 3) := by decide +kernel
theorem dX12_isGreenHere_28 : decode cX12_isGreenHere 28 = .ok (.ifCond .eq 14, 3) := by decide +kernel
theorem dX12_isGreenHere_31 : decode cX12_isGreenHere 31 = .ok (.aload_n 0, 1) := by decide +kernel
theorem dX12_isGreenHere_32 : decode cX12_isGreenHere 32 = .ok (.iconst 2, 1) := by decide +kernel
theorem dX12_isGreenHere_33 : decode cX12_isGreenHere 33 = .ok (.iconst 0, 1) := by decide +kernel
theorem dX12_isGreenHere_34 : decode cX12_isGreenHere 34 = .ok (.bipush 20, 2) := by decide +kernel
theorem dX12_isGreenHere_36 : decode cX12_isGreenHere 36 = .ok (.invokevirtual 229, 3) := by decide +kernel
theorem dX12_isGreenHere_39 : decode cX12_isGreenHere 39 = .ok (.ifCond .ne 5, 3) := by decide +kernel
theorem dX12_isGreenHere_42 : decode cX12_isGreenHere 42 = .ok (.iconst 0, 1) := by decide +kernel
theorem dX12_isGreenHere_43 : decode cX12_isGreenHere 43 = .ok (.ireturn, 1) := by decide +kernel
theorem dX12_isGreenHere_44 : decode cX12_isGreenHere 44 = .ok (.aload_n 0, 1) := by decide +kernel
theorem dX12_isGreenHere_45 : decode cX12_isGreenHere 45 = .ok (.getfield 26, 3) := by decide +kernel
theorem dX12_isGreenHere_48 : decode cX12_isGreenHere 48 = .ok (.iconst 0, 1) := by decide +kernel
theorem dX12_isGreenHere_49 : decode cX12_isGreenHere 49 = .ok (.iconst 1, 1) := by decide +kernel
theorem dX12_isGreenHere_50 : decode cX12_isGreenHere 50 = .ok (.iastore, 1) := by decide +kernel
theorem dX12_isGreenHere_51 : decode cX12_isGreenHere 51 = .ok (.iconst 1, 1) := by decide +kernel
theorem dX12_isGreenHere_52 : decode cX12_isGreenHere 52 = .ok (.ireturn, 1) := by decide +kernel
theorem dX12_isGreenWord_0 : decode cX12_isGreenWord 0 = .ok (.aload_n 0, 1) := by decide +kernel
theorem dX12_isGreenWord_1 : decode cX12_isGreenWord 1 = .ok (.ldc2_w 236, 3) := by decide +kernel
theorem dX12_isGreenWord_4 : decode cX12_isGreenWord 4 = .ok (.invokevirtual 110, 3) := by decide +kernel
theorem dX12_isGreenWord_7 : decode cX12_isGreenWord 7 = .ok (.ifCond .ne 33, 3) := by decide +kernel
theorem dX12_isGreenWord_10 : decode cX12_isGreenWord 10 = .ok (.aload_n 0, 1) := by decide +kernel
theorem dX12_isGreenWord_11 : decode cX12_isGreenWord 11 = .ok (.ldc2_w 151, 3) := by decide +kernel
theorem dX12_isGreenWord_14 : decode cX12_isGreenWord 14 = .ok (.invokevirtual 110, 3) := by decide +kernel
theorem dX12_isGreenWord_17 : decode cX12_isGreenWord 17 = .ok (.ifCond .ne 23, 3) := by decide +kernel
theorem dX12_isGreenWord_20 : decode cX12_isGreenWord 20 = .ok (.aload_n 0, 1) := by decide +kernel
theorem dX12_isGreenWord_21 : decode cX12_isGreenWord 21 = .ok (.ldc2_w 133, 3) := by decide +kernel
theorem dX12_isGreenWord_24 : decode cX12_isGreenWord 24 = .ok (.invokevirtual 110, 3) := by decide +kernel
theorem dX12_isGreenWord_27 : decode cX12_isGreenWord 27 = .ok (.ifCond .ne 13, 3) := by decide +kernel
theorem dX12_isGreenWord_30 : decode cX12_isGreenWord 30 = .ok (.aload_n 0, 1) := by decide +kernel
theorem dX12_isGreenWord_31 : decode cX12_isGreenWord 31 = .ok (.ldc2_w 131, 3) := by decide +kernel
theorem dX12_isGreenWord_34 : decode cX12_isGreenWord 34 = .ok (.invokevirtual 110, 3) := by decide +kernel
theorem dX12_isGreenWord_37 : decode cX12_isGreenWord 37 = .ok (.ifCond .eq 7, 3) := by decide +kernel
theorem dX12_isGreenWord_40 : decode cX12_isGreenWord 40 = .ok (.iconst 1, 1) := by decide +kernel
theorem dX12_isGreenWord_41 : decode cX12_isGreenWord 41 = .ok (.goto 4, 3) := by decide +kernel
theorem dX12_isGreenWord_44 : decode cX12_isGreenWord 44 = .ok (.iconst 0, 1) := by decide +kernel
theorem dX12_isGreenWord_45 : decode cX12_isGreenWord 45 = .ok (.ireturn, 1) := by decide +kernel
theorem dX1_sumOfArchers_0 : decode cX1_sumOfArchers 0 = .ok (.iconst 0, 1) := by decide +kernel
theorem dX1_sumOfArchers_1 : decode cX1_sumOfArchers 1 = .ok (.istore_n 2, 1) := by decide +kernel
theorem dX1_sumOfArchers_2 : decode cX1_sumOfArchers 2 = .ok (.iconst 0, 1) := by decide +kernel
theorem dX1_sumOfArchers_3 : decode cX1_sumOfArchers 3 = .ok (.istore_n 3, 1) := by decide +kernel
theorem dX1_sumOfArchers_4 : decode cX1_sumOfArchers 4 = .ok (.iload_n 3, 1) := by decide +kernel
theorem dX1_sumOfArchers_5 : decode cX1_sumOfArchers 5 = .ok (.aload_n 0, 1) := by decide +kernel
theorem dX1_sumOfArchers_6 : decode cX1_sumOfArchers 6 = .ok (.getfield 11, 3) := by decide +kernel
theorem dX1_sumOfArchers_9 : decode cX1_sumOfArchers 9 = .ok (.iconst 4, 1) := by decide +kernel
theorem dX1_sumOfArchers_10 : decode cX1_sumOfArchers 10 = .ok (.iaload, 1) := by decide +kernel
theorem dX1_sumOfArchers_11 : decode cX1_sumOfArchers 11 = .ok (.if_icmp .ge 20, 3) := by decide +kernel
theorem dX1_sumOfArchers_14 : decode cX1_sumOfArchers 14 = .ok (.iload_n 2, 1) := by decide +kernel
theorem dX1_sumOfArchers_15 : decode cX1_sumOfArchers 15 = .ok (.aload_n 0, 1) := by decide +kernel
theorem dX1_sumOfArchers_16 : decode cX1_sumOfArchers 16 = .ok (.getfield 11, 3) := by decide +kernel
theorem dX1_sumOfArchers_19 : decode cX1_sumOfArchers 19 = .ok (.iload_n 1, 1) := by decide +kernel
theorem dX1_sumOfArchers_20 : decode cX1_sumOfArchers 20 = .ok (.iload_n 3, 1) := by decide +kernel
theorem dX1_sumOfArchers_21 : decode cX1_sumOfArchers 21 = .ok (.iadd, 1) := by decide +kernel
theorem dX1_sumOfArchers_22 : decode cX1_sumOfArchers 22 = .ok (.iaload, 1) := by decide +kernel
theorem dX1_sumOfArchers_23 : decode cX1_sumOfArchers 23 = .ok (.iadd, 1) := by decide +kernel
theorem dX1_sumOfArchers_24 : decode cX1_sumOfArchers 24 = .ok (.istore_n 2, 1) := by decide +kernel
theorem dX1_sumOfArchers_25 : decode cX1_sumOfArchers 25 = .ok (.iinc 3 1, 3) := by decide +kernel
theorem dX1_sumOfArchers_28 : decode cX1_sumOfArchers 28 = .ok (.goto (-24), 3) := by decide +kernel
theorem dX1_sumOfArchers_31 : decode cX1_sumOfArchers 31 = .ok (.iload_n 2, 1) := by decide +kernel
theorem dX1_sumOfArchers_32 : decode cX1_sumOfArchers 32 = .ok (.ireturn, 1) := by decide +kernel
theorem dX8_comparisonOf_0 : decode cX8_comparisonOf 0 = .ok (.aload_n 0, 1) := by decide +kernel
theorem dX8_comparisonOf_1 : decode cX8_comparisonOf 1 = .ok (.getfield 86, 3) := by decide +kernel
theorem dX8_comparisonOf_4 : decode cX8_comparisonOf 4 = .ok (.iconst 4, 1) := by decide +kernel
theorem dX8_comparisonOf_5 : decode cX8_comparisonOf 5 = .ok (.if_icmp .eq 5, 3) := by decide +kernel
theorem dX8_comparisonOf_8 : decode cX8_comparisonOf 8 = .ok (.iconst (-1), 1) := by decide +kernel
theorem dX8_comparisonOf_9 : decode cX8_comparisonOf 9 = .ok (.ireturn, 1) := by decide +kernel
theorem dX8_comparisonOf_10 : decode cX8_comparisonOf 10 = .ok (.aload_n 0, 1) := by decide +kernel
theorem dX8_comparisonOf_11 : decode cX8_comparisonOf 11 = .ok (.getfield 89, 3) := by decide +kernel
theorem dX8_comparisonOf_14 : decode cX8_comparisonOf 14 = .ok (.lookupswitch 65 #[(60, 50), (61, 56), (62, 62), (316, 53), (318, 59)], 50) := by decide +kernel
theorem dX8_comparisonOf_64 : decode cX8_comparisonOf 64 = .ok (.bipush 10, 2) := by decide +kernel
theorem dX8_comparisonOf_66 : decode cX8_comparisonOf 66 = .ok (.ireturn, 1) := by decide +kernel
theorem dX8_comparisonOf_67 : decode cX8_comparisonOf 67 = .ok (.bipush 11, 2) := by decide +kernel
theorem dX8_comparisonOf_69 : decode cX8_comparisonOf 69 = .ok (.ireturn, 1) := by decide +kernel
theorem dX8_comparisonOf_70 : decode cX8_comparisonOf 70 = .ok (.bipush 12, 2) := by decide +kernel
theorem dX8_comparisonOf_72 : decode cX8_comparisonOf 72 = .ok (.ireturn, 1) := by decide +kernel
theorem dX8_comparisonOf_73 : decode cX8_comparisonOf 73 = .ok (.bipush 13, 2) := by decide +kernel
theorem dX8_comparisonOf_75 : decode cX8_comparisonOf 75 = .ok (.ireturn, 1) := by decide +kernel
theorem dX8_comparisonOf_76 : decode cX8_comparisonOf 76 = .ok (.bipush 14, 2) := by decide +kernel
theorem dX8_comparisonOf_78 : decode cX8_comparisonOf 78 = .ok (.ireturn, 1) := by decide +kernel
theorem dX8_comparisonOf_79 : decode cX8_comparisonOf 79 = .ok (.iconst (-1), 1) := by decide +kernel
theorem dX8_comparisonOf_80 : decode cX8_comparisonOf 80 = .ok (.ireturn, 1) := by decide +kernel
theorem dJ2_getChar_3b067_0 : decode cJ2_getChar_3b067 0 = .ok (.getstatic 44, 3) := by decide +kernel
theorem dJ2_getChar_3b067_3 : decode cJ2_getChar_3b067 3 = .ok (.ifCond .ne 25, 3) := by decide +kernel
theorem dJ2_getChar_3b067_6 : decode cJ2_getChar_3b067 6 = .ok (.iload_n 1, 1) := by decide +kernel
theorem dJ2_getChar_3b067_7 : decode cJ2_getChar_3b067 7 = .ok (.ifCond .lt 11, 3) := by decide +kernel
theorem dJ2_getChar_3b067_10 : decode cJ2_getChar_3b067 10 = .ok (.iload_n 1, 1) := by decide +kernel
theorem dJ2_getChar_3b067_11 : decode cJ2_getChar_3b067 11 = .ok (.aload_n 0, 1) := by decide +kernel
theorem dJ2_getChar_3b067_12 : decode cJ2_getChar_3b067 12 = .ok (.invokestatic 48, 3) := by decide +kernel
theorem dJ2_getChar_3b067_15 : decode cJ2_getChar_3b067 15 = .ok (.if_icmp .lt 13, 3) := by decide +kernel
theorem dJ2_getChar_3b067_18 : decode cJ2_getChar_3b067 18 = .ok (.new 52, 3) := by decide +kernel
theorem dJ2_getChar_3b067_21 : decode cJ2_getChar_3b067 21 = .ok (.dup, 1) := by decide +kernel
theorem dJ2_getChar_3b067_22 : decode cJ2_getChar_3b067 22 = .ok (.ldc 54, 2) := by decide +kernel
theorem dJ2_getChar_3b067_24 : decode cJ2_getChar_3b067 24 = .ok (.invokespecial 56, 3) := by decide +kernel
theorem dJ2_getChar_3b067_27 : decode cJ2_getChar_3b067 27 = .ok (.athrow, 1) := by decide +kernel
theorem dJ2_getChar_3b067_28 : decode cJ2_getChar_3b067 28 = .ok (.iload_n 1, 1) := by decide +kernel
theorem dJ2_getChar_3b067_29 : decode cJ2_getChar_3b067 29 = .ok (.iconst 1, 1) := by decide +kernel
theorem dJ2_getChar_3b067_30 : decode cJ2_getChar_3b067 30 = .ok (.ishl, 1) := by decide +kernel
theorem dJ2_getChar_3b067_31 : decode cJ2_getChar_3b067 31 = .ok (.istore_n 1, 1) := by decide +kernel
theorem dJ2_getChar_3b067_32 : decode cJ2_getChar_3b067 32 = .ok (.aload_n 0, 1) := by decide +kernel
theorem dJ2_getChar_3b067_33 : decode cJ2_getChar_3b067 33 = .ok (.iload_n 1, 1) := by decide +kernel
theorem dJ2_getChar_3b067_34 : decode cJ2_getChar_3b067 34 = .ok (.iinc 1 1, 3) := by decide +kernel
theorem dJ2_getChar_3b067_37 : decode cJ2_getChar_3b067 37 = .ok (.baload, 1) := by decide +kernel
theorem dJ2_getChar_3b067_38 : decode cJ2_getChar_3b067 38 = .ok (.sipush 255, 3) := by decide +kernel
theorem dJ2_getChar_3b067_41 : decode cJ2_getChar_3b067 41 = .ok (.iand, 1) := by decide +kernel
theorem dJ2_getChar_3b067_42 : decode cJ2_getChar_3b067 42 = .ok (.getstatic 59, 3) := by decide +kernel
theorem dJ2_getChar_3b067_45 : decode cJ2_getChar_3b067 45 = .ok (.ishl, 1) := by decide +kernel
theorem dJ2_getChar_3b067_46 : decode cJ2_getChar_3b067 46 = .ok (.aload_n 0, 1) := by decide +kernel
theorem dJ2_getChar_3b067_47 : decode cJ2_getChar_3b067 47 = .ok (.iload_n 1, 1) := by decide +kernel
theorem dJ2_getChar_3b067_48 : decode cJ2_getChar_3b067 48 = .ok (.baload, 1) := by decide +kernel
theorem dJ2_getChar_3b067_49 : decode cJ2_getChar_3b067 49 = .ok (.sipush 255, 3) := by decide +kernel
theorem dJ2_getChar_3b067_52 : decode cJ2_getChar_3b067 52 = .ok (.iand, 1) := by decide +kernel
theorem dJ2_getChar_3b067_53 : decode cJ2_getChar_3b067 53 = .ok (.getstatic 63, 3) := by decide +kernel
theorem dJ2_getChar_3b067_56 : decode cJ2_getChar_3b067 56 = .ok (.ishl, 1) := by decide +kernel
theorem dJ2_getChar_3b067_57 : decode cJ2_getChar_3b067 57 = .ok (.ior, 1) := by decide +kernel
theorem dJ2_getChar_3b067_58 : decode cJ2_getChar_3b067 58 = .ok (.i2c, 1) := by decide +kernel
theorem dJ2_getChar_3b067_59 : decode cJ2_getChar_3b067 59 = .ok (.ireturn, 1) := by decide +kernel
theorem dX11_placeOrHedge_0 : decode cX11_placeOrHedge 0 = .ok (.iload_n 0, 1) := by decide +kernel
theorem dX11_placeOrHedge_1 : decode cX11_placeOrHedge 1 = .ok (.iconst (-1), 1) := by decide +kernel
theorem dX11_placeOrHedge_2 : decode cX11_placeOrHedge 2 = .ok (.if_icmp .ne 8, 3) := by decide +kernel
theorem dX11_placeOrHedge_5 : decode cX11_placeOrHedge 5 = .ok (.bipush (-2), 2) := by decide +kernel
theorem dX11_placeOrHedge_7 : decode cX11_placeOrHedge 7 = .ok (.goto 4, 3) := by decide +kernel
theorem dX11_placeOrHedge_10 : decode cX11_placeOrHedge 10 = .ok (.iload_n 0, 1) := by decide +kernel
theorem dX11_placeOrHedge_11 : decode cX11_placeOrHedge 11 = .ok (.ireturn, 1) := by decide +kernel
theorem dX12_isArcherHere_0 : decode cX12_isArcherHere 0 = .ok (.aload_n 0, 1) := by decide +kernel
theorem dX12_isArcherHere_1 : decode cX12_isArcherHere 1 = .ok (.getfield 26, 3) := by decide +kernel
theorem dX12_isArcherHere_4 : decode cX12_isArcherHere 4 = .ok (.iconst 5, 1) := by decide +kernel
theorem dX12_isArcherHere_5 : decode cX12_isArcherHere 5 = .ok (.iaload, 1) := by decide +kernel
theorem dX12_isArcherHere_6 : decode cX12_isArcherHere 6 = .ok (.iconst 5, 1) := by decide +kernel
theorem dX12_isArcherHere_7 : decode cX12_isArcherHere 7 = .ok (.if_icmp .ne 10, 3) := by decide +kernel
theorem dX12_isArcherHere_10 : decode cX12_isArcherHere 10 = .ok (.aload_n 0, 1) := by decide +kernel
theorem dX12_isArcherHere_11 : decode cX12_isArcherHere 11 = .ok (.iconst 4, 1) := by decide +kernel
theorem dX12_isArcherHere_12 : decode cX12_isArcherHere 12 = .ok (.iload_n 1, 1) := by decide +kernel
theorem dX12_isArcherHere_13 : decode cX12_isArcherHere 13 = .ok (.invokevirtual 120, 3) := by decide +kernel
theorem dX12_isArcherHere_16 : decode cX12_isArcherHere 16 = .ok (.ireturn, 1) := by decide +kernel
theorem dX12_isArcherHere_17 : decode cX12_isArcherHere 17 = .ok (.aload_n 0, 1) := by decide +kernel
theorem dX12_isArcherHere_18 : decode cX12_isArcherHere 18 = .ok (.invokevirtual 114, 3) := by decide +kernel
theorem dX12_isArcherHere_21 : decode cX12_isArcherHere 21 = .ok (.aload_n 0, 1) := by decide +kernel
theorem dX12_isArcherHere_22 : decode cX12_isArcherHere 22 = .ok (.getfield 26, 3) := by decide +kernel
theorem dX12_isArcherHere_25 : decode cX12_isArcherHere 25 = .ok (.iconst 5, 1) := by decide +kernel
theorem dX12_isArcherHere_26 : decode cX12_isArcherHere 26 = .ok (.iaload, 1) := by decide +kernel
theorem dX12_isArcherHere_27 : decode cX12_isArcherHere 27 = .ok (.istore_n 2, 1) := by decide +kernel
theorem dX12_isArcherHere_28 : decode cX12_isArcherHere 28 = .ok (.aload_n 0, 1) := by decide +kernel
theorem dX12_isArcherHere_29 : decode cX12_isArcherHere 29 = .ok (.bipush 46, 2) := by decide +kernel
theorem dX12_isArcherHere_31 : decode cX12_isArcherHere 31 = .ok (.iload_n 2, 1) := by decide +kernel
theorem dX12_isArcherHere_32 : decode cX12_isArcherHere 32 = .ok (.iadd, 1) := by decide +kernel
theorem dX12_isArcherHere_33 : decode cX12_isArcherHere 33 = .ok (.iconst 0, 1) := by decide +kernel
theorem dX12_isArcherHere_34 : decode cX12_isArcherHere 34 = .ok (.aload_n 0, 1) := by decide +kernel
theorem dX12_isArcherHere_35 : decode cX12_isArcherHere 35 = .ok (.getfield 26, 3) := by decide +kernel
theorem dX12_isArcherHere_38 : decode cX12_isArcherHere 38 = .ok (.iconst 4, 1) := by decide +kernel
theorem dX12_isArcherHere_39 : decode cX12_isArcherHere 39 = .ok (.iaload, 1) := by decide +kernel
theorem dX12_isArcherHere_40 : decode cX12_isArcherHere 40 = .ok (.iconst 1, 1) := by decide +kernel
theorem dX12_isArcherHere_41 : decode cX12_isArcherHere 41 = .ok (.isub, 1) := by decide +kernel
theorem dX12_isArcherHere_42 : decode cX12_isArcherHere 42 = .ok (.invokevirtual 229, 3) := by decide +kernel
theorem dX12_isArcherHere_45 : decode cX12_isArcherHere 45 = .ok (.ifCond .eq 19, 3) := by decide +kernel
theorem dX12_isArcherHere_48 : decode cX12_isArcherHere 48 = .ok (.aload_n 0, 1) := by decide +kernel
theorem dX12_isArcherHere_49 : decode cX12_isArcherHere 49 = .ok (.bipush 74, 2) := by decide +kernel
theorem dX12_isArcherHere_51 : decode cX12_isArcherHere 51 = .ok (.iconst 2, 1) := by decide +kernel
theorem dX12_isArcherHere_52 : decode cX12_isArcherHere 52 = .ok (.iload_n 2, 1) := by decide +kernel
theorem dX12_isArcherHere_53 : decode cX12_isArcherHere 53 = .ok (.imul, 1) := by decide +kernel
theorem dX12_isArcherHere_54 : decode cX12_isArcherHere 54 = .ok (.iadd, 1) := by decide +kernel
theorem dX12_isArcherHere_55 : decode cX12_isArcherHere 55 = .ok (.iconst 1, 1) := by decide +kernel
theorem dX12_isArcherHere_56 : decode cX12_isArcherHere 56 = .ok (.bipush 9, 2) := by decide +kernel
theorem dX12_isArcherHere_58 : decode cX12_isArcherHere 58 = .ok (.invokevirtual 229, 3) := by decide +kernel
theorem dX12_isArcherHere_61 : decode cX12_isArcherHere 61 = .ok (.ifCond .ne 5, 3) := by decide +kernel
theorem dX12_isArcherHere_64 : decode cX12_isArcherHere 64 = .ok (.iconst 0, 1) := by decide +kernel
theorem dX12_isArcherHere_65 : decode cX12_isArcherHere 65 = .ok (.ireturn, 1) := by decide +kernel
theorem dX12_isArcherHere_66 : decode cX12_isArcherHere 66 = .ok (.aload_n 0, 1) := by decide +kernel
theorem dX12_isArcherHere_67 : decode cX12_isArcherHere 67 = .ok (.bipush 51, 2) := by decide +kernel
theorem dX12_isArcherHere_69 : decode cX12_isArcherHere 69 = .ok (.iload_n 2, 1) := by decide +kernel
theorem dX12_isArcherHere_70 : decode cX12_isArcherHere 70 = .ok (.iadd, 1) := by decide +kernel
theorem dX12_isArcherHere_71 : decode cX12_isArcherHere 71 = .ok (.iconst 1, 1) := by decide +kernel
theorem dX12_isArcherHere_72 : decode cX12_isArcherHere 72 = .ok (.bipush 9, 2) := by decide +kernel
theorem dX12_isArcherHere_74 : decode cX12_isArcherHere 74 = .ok (.invokevirtual 229, 3) := by decide +kernel
theorem dX12_isArcherHere_77 : decode cX12_isArcherHere 77 = .ok (.ifCond .eq 21, 3) := by decide +kernel
theorem dX12_isArcherHere_80 : decode cX12_isArcherHere 80 = .ok (.aload_n 0, 1) := by decide +kernel
theorem dX12_isArcherHere_81 : decode cX12_isArcherHere 81 = .ok (.bipush 74, 2) := by decide +kernel
theorem dX12_isArcherHere_83 : decode cX12_isArcherHere 83 = .ok (.iconst 2, 1) := by decide +kernel
theorem dX12_isArcherHere_84 : decode cX12_isArcherHere 84 = .ok (.iload_n 2, 1) := by decide +kernel
theorem dX12_isArcherHere_85 : decode cX12_isArcherHere 85 = .ok (.imul, 1) := by decide +kernel
theorem dX12_isArcherHere_86 : decode cX12_isArcherHere 86 = .ok (.iadd, 1) := by decide +kernel
theorem dX12_isArcherHere_87 : decode cX12_isArcherHere 87 = .ok (.iconst 1, 1) := by decide +kernel
theorem dX12_isArcherHere_88 : decode cX12_isArcherHere 88 = .ok (.iadd, 1) := by decide +kernel
theorem dX12_isArcherHere_89 : decode cX12_isArcherHere 89 = .ok (.iconst 0, 1) := by decide +kernel
theorem dX12_isArcherHere_90 : decode cX12_isArcherHere 90 = .ok (.bipush 30, 2) := by decide +kernel
theorem dX12_isArcherHere_92 : decode cX12_isArcherHere 92 = .ok (.invokevirtual 229, 3) := by decide +kernel
theorem dX12_isArcherHere_95 : decode cX12_isArcherHere 95 = .ok (.ifCond .ne 5, 3) := by decide +kernel
theorem dX12_isArcherHere_98 : decode cX12_isArcherHere 98 = .ok (.iconst 0, 1) := by decide +kernel
theorem dX12_isArcherHere_99 : decode cX12_isArcherHere 99 = .ok (.ireturn, 1) := by decide +kernel
theorem dX12_isArcherHere_100 : decode cX12_isArcherHere 100 = .ok (.aload_n 0, 1) := by decide +kernel
theorem dX12_isArcherHere_101 : decode cX12_isArcherHere 101 = .ok (.getfield 26, 3) := by decide +kernel
theorem dX12_isArcherHere_104 : decode cX12_isArcherHere 104 = .ok (.iconst 5, 1) := by decide +kernel
theorem dX12_isArcherHere_105 : decode cX12_isArcherHere 105 = .ok (.dup2, 1) := by decide +kernel
theorem dX12_isArcherHere_106 : decode cX12_isArcherHere 106 = .ok (.iaload, 1) := by decide +kernel
theorem dX12_isArcherHere_107 : decode cX12_isArcherHere 107 = .ok (.iconst 1, 1) := by decide +kernel
theorem dX12_isArcherHere_108 : decode cX12_isArcherHere 108 = .ok (.iadd, 1) := by decide +kernel
theorem dX12_isArcherHere_109 : decode cX12_isArcherHere 109 = .ok (.iastore, 1) := by decide +kernel
theorem dX12_isArcherHere_110 : decode cX12_isArcherHere 110 = .ok (.iconst 1, 1) := by decide +kernel
theorem dX12_isArcherHere_111 : decode cX12_isArcherHere 111 = .ok (.ireturn, 1) := by decide +kernel
theorem dX3_readFreePlace_0 : decode cX3_readFreePlace 0 = .ok (.aload_n 1, 1) := by decide +kernel
theorem dX3_readFreePlace_1 : decode cX3_readFreePlace 1 = .ok (.getfield 51, 3) := by decide +kernel
theorem dX3_readFreePlace_4 : decode cX3_readFreePlace 4 = .ok (.istore_n 2, 1) := by decide +kernel
theorem dX3_readFreePlace_5 : decode cX3_readFreePlace 5 = .ok (.aload_n 0, 1) := by decide +kernel
theorem dX3_readFreePlace_6 : decode cX3_readFreePlace 6 = .ok (.aload_n 1, 1) := by decide +kernel
theorem dX3_readFreePlace_7 : decode cX3_readFreePlace 7 = .ok (.iconst 0, 1) := by decide +kernel
theorem dX3_readFreePlace_8 : decode cX3_readFreePlace 8 = .ok (.aload_n 0, 1) := by decide +kernel
theorem dX3_readFreePlace_9 : decode cX3_readFreePlace 9 = .ok (.getfield 12, 3) := by decide +kernel
theorem dX3_readFreePlace_12 : decode cX3_readFreePlace 12 = .ok (.getfield 69, 3) := by decide +kernel
theorem dX3_readFreePlace_15 : decode cX3_readFreePlace 15 = .ok (.iconst 0, 1) := by decide +kernel
theorem dX3_readFreePlace_16 : decode cX3_readFreePlace 16 = .ok (.iaload, 1) := by decide +kernel
theorem dX3_readFreePlace_17 : decode cX3_readFreePlace 17 = .ok (.iconst 1, 1) := by decide +kernel
theorem dX3_readFreePlace_18 : decode cX3_readFreePlace 18 = .ok (.isub, 1) := by decide +kernel
theorem dX3_readFreePlace_19 : decode cX3_readFreePlace 19 = .ok (.invokevirtual 73, 3) := by decide +kernel
theorem dX3_readFreePlace_22 : decode cX3_readFreePlace 22 = .ok (.istore_n 3, 1) := by decide +kernel
theorem dX3_readFreePlace_23 : decode cX3_readFreePlace 23 = .ok (.aload_n 0, 1) := by decide +kernel
theorem dX3_readFreePlace_24 : decode cX3_readFreePlace 24 = .ok (.getfield 12, 3) := by decide +kernel
theorem dX3_readFreePlace_27 : decode cX3_readFreePlace 27 = .ok (.iload_n 3, 1) := by decide +kernel
theorem dX3_readFreePlace_28 : decode cX3_readFreePlace 28 = .ok (.invokevirtual 81, 3) := by decide +kernel
theorem dX3_readFreePlace_31 : decode cX3_readFreePlace 31 = .ok (.iconst (-1), 1) := by decide +kernel
theorem dX3_readFreePlace_32 : decode cX3_readFreePlace 32 = .ok (.if_icmp .eq 9, 3) := by decide +kernel
theorem dX3_readFreePlace_35 : decode cX3_readFreePlace 35 = .ok (.aload_n 1, 1) := by decide +kernel
theorem dX3_readFreePlace_36 : decode cX3_readFreePlace 36 = .ok (.iload_n 2, 1) := by decide +kernel
theorem dX3_readFreePlace_37 : decode cX3_readFreePlace 37 = .ok (.iconst 1, 1) := by decide +kernel
theorem dX3_readFreePlace_38 : decode cX3_readFreePlace 38 = .ok (.invokevirtual 54, 3) := by decide +kernel
theorem dX3_readFreePlace_41 : decode cX3_readFreePlace 41 = .ok (.iload_n 3, 1) := by decide +kernel
theorem dX3_readFreePlace_42 : decode cX3_readFreePlace 42 = .ok (.ireturn, 1) := by decide +kernel
theorem dJ0_isLatin1_aae02_0 : decode cJ0_isLatin1_aae02 0 = .ok (.getstatic 38, 3) := by decide +kernel
theorem dJ0_isLatin1_aae02_3 : decode cJ0_isLatin1_aae02 3 = .ok (.ifCond .eq 14, 3) := by decide +kernel
theorem dJ0_isLatin1_aae02_6 : decode cJ0_isLatin1_aae02 6 = .ok (.aload_n 0, 1) := by decide +kernel
theorem dJ0_isLatin1_aae02_7 : decode cJ0_isLatin1_aae02 7 = .ok (.getfield 15, 3) := by decide +kernel
theorem dJ0_isLatin1_aae02_10 : decode cJ0_isLatin1_aae02 10 = .ok (.ifCond .ne 7, 3) := by decide +kernel
theorem dJ0_isLatin1_aae02_13 : decode cJ0_isLatin1_aae02 13 = .ok (.iconst 1, 1) := by decide +kernel
theorem dJ0_isLatin1_aae02_14 : decode cJ0_isLatin1_aae02 14 = .ok (.goto 4, 3) := by decide +kernel
theorem dJ0_isLatin1_aae02_17 : decode cJ0_isLatin1_aae02 17 = .ok (.iconst 0, 1) := by decide +kernel
theorem dJ0_isLatin1_aae02_18 : decode cJ0_isLatin1_aae02 18 = .ok (.ireturn, 1) := by decide +kernel
theorem dX10_hasNextClause_0 : decode cX10_hasNextClause 0 = .ok (.aload_n 0, 1) := by decide +kernel
theorem dX10_hasNextClause_1 : decode cX10_hasNextClause 1 = .ok (.bipush 59, 2) := by decide +kernel
theorem dX10_hasNextClause_3 : decode cX10_hasNextClause 3 = .ok (.invokevirtual 57, 3) := by decide +kernel
theorem dX10_hasNextClause_6 : decode cX10_hasNextClause 6 = .ok (.istore_n 1, 1) := by decide +kernel
theorem dX10_hasNextClause_7 : decode cX10_hasNextClause 7 = .ok (.iload_n 1, 1) := by decide +kernel
theorem dX10_hasNextClause_8 : decode cX10_hasNextClause 8 = .ok (.ifCond .eq 10, 3) := by decide +kernel
theorem dX10_hasNextClause_11 : decode cX10_hasNextClause 11 = .ok (.aload_n 0, 1) := by decide +kernel
theorem dX10_hasNextClause_12 : decode cX10_hasNextClause 12 = .ok (.invokevirtual 54, 3) := by decide +kernel
theorem dX10_hasNextClause_15 : decode cX10_hasNextClause 15 = .ok (.goto 19, 3) := by decide +kernel
theorem dX10_hasNextClause_18 : decode cX10_hasNextClause 18 = .ok (.aload_n 0, 1) := by decide +kernel
theorem dX10_hasNextClause_19 : decode cX10_hasNextClause 19 = .ok (.getfield 34, 3) := by decide +kernel
theorem dX10_hasNextClause_22 : decode cX10_hasNextClause 22 = .ok (.ifCond .eq 12, 3) := by decide +kernel
theorem dX10_hasNextClause_25 : decode cX10_hasNextClause 25 = .ok (.aload_n 0, 1) := by decide +kernel
theorem dX10_hasNextClause_26 : decode cX10_hasNextClause 26 = .ok (.aload_n 0, 1) := by decide +kernel
theorem dX10_hasNextClause_27 : decode cX10_hasNextClause 27 = .ok (.getfield 40, 3) := by decide +kernel
theorem dX10_hasNextClause_30 : decode cX10_hasNextClause 30 = .ok (.iconst 0, 1) := by decide +kernel
theorem dX10_hasNextClause_31 : decode cX10_hasNextClause 31 = .ok (.invokevirtual 61, 3) := by decide +kernel
theorem dX10_hasNextClause_34 : decode cX10_hasNextClause 34 = .ok (.iload_n 1, 1) := by decide +kernel
theorem dX10_hasNextClause_35 : decode cX10_hasNextClause 35 = .ok (.ifCond .eq 14, 3) := by decide +kernel
theorem dX10_hasNextClause_38 : decode cX10_hasNextClause 38 = .ok (.aload_n 0, 1) := by decide +kernel
theorem dX10_hasNextClause_39 : decode cX10_hasNextClause 39 = .ok (.getfield 43, 3) := by decide +kernel
theorem dX10_hasNextClause_42 : decode cX10_hasNextClause 42 = .ok (.ifCond .ne 7, 3) := by decide +kernel
theorem dX10_hasNextClause_45 : decode cX10_hasNextClause 45 = .ok (.iconst 1, 1) := by decide +kernel
theorem dX10_hasNextClause_46 : decode cX10_hasNextClause 46 = .ok (.goto 4, 3) := by decide +kernel
theorem dX10_hasNextClause_49 : decode cX10_hasNextClause 49 = .ok (.iconst 0, 1) := by decide +kernel
theorem dX10_hasNextClause_50 : decode cX10_hasNextClause 50 = .ok (.ireturn, 1) := by decide +kernel
theorem dX12_greenLineHere_0 : decode cX12_greenLineHere 0 = .ok (.aload_n 0, 1) := by decide +kernel
theorem dX12_greenLineHere_1 : decode cX12_greenLineHere 1 = .ok (.ldc2_w 236, 3) := by decide +kernel
theorem dX12_greenLineHere_4 : decode cX12_greenLineHere 4 = .ok (.invokevirtual 110, 3) := by decide +kernel
theorem dX12_greenLineHere_7 : decode cX12_greenLineHere 7 = .ok (.ifCond .eq 9, 3) := by decide +kernel
theorem dX12_greenLineHere_10 : decode cX12_greenLineHere 10 = .ok (.aload_n 0, 1) := by decide +kernel
theorem dX12_greenLineHere_11 : decode cX12_greenLineHere 11 = .ok (.iload_n 1, 1) := by decide +kernel
theorem dX12_greenLineHere_12 : decode cX12_greenLineHere 12 = .ok (.invokevirtual 238, 3) := by decide +kernel
theorem dX12_greenLineHere_15 : decode cX12_greenLineHere 15 = .ok (.ireturn, 1) := by decide +kernel
theorem dX12_greenLineHere_16 : decode cX12_greenLineHere 16 = .ok (.aload_n 0, 1) := by decide +kernel
theorem dX12_greenLineHere_17 : decode cX12_greenLineHere 17 = .ok (.getfield 26, 3) := by decide +kernel
theorem dX12_greenLineHere_20 : decode cX12_greenLineHere 20 = .ok (.iconst 0, 1) := by decide +kernel
theorem dX12_greenLineHere_21 : decode cX12_greenLineHere 21 = .ok (.iaload, 1) := by decide +kernel
theorem dX12_greenLineHere_22 : decode cX12_greenLineHere 22 = .ok (.ifCond .ne 10, 3) := by decide +kernel
theorem dX12_greenLineHere_25 : decode cX12_greenLineHere 25 = .ok (.aload_n 0, 1) := by decide +kernel
theorem dX12_greenLineHere_26 : decode cX12_greenLineHere 26 = .ok (.iconst 4, 1) := by decide +kernel
theorem dX12_greenLineHere_27 : decode cX12_greenLineHere 27 = .ok (.iload_n 1, 1) := by decide +kernel
theorem dX12_greenLineHere_28 : decode cX12_greenLineHere 28 = .ok (.invokevirtual 120, 3) := by decide +kernel
theorem dX12_greenLineHere_31 : decode cX12_greenLineHere 31 = .ok (.ireturn, 1) := by decide +kernel
theorem dX12_greenLineHere_32 : decode cX12_greenLineHere 32 = .ok (.aload_n 0, 1) := by decide +kernel
theorem dX12_greenLineHere_33 : decode cX12_greenLineHere 33 = .ok (.ldc2_w 151, 3) := by decide +kernel
theorem dX12_greenLineHere_36 : decode cX12_greenLineHere 36 = .ok (.invokevirtual 110, 3) := by decide +kernel
theorem dX12_greenLineHere_39 : decode cX12_greenLineHere 39 = .ok (.ifCond .eq 9, 3) := by decide +kernel
theorem dX12_greenLineHere_42 : decode cX12_greenLineHere 42 = .ok (.aload_n 0, 1) := by decide +kernel
theorem dX12_greenLineHere_43 : decode cX12_greenLineHere 43 = .ok (.iload_n 1, 1) := by decide +kernel
theorem dX12_greenLineHere_44 : decode cX12_greenLineHere 44 = .ok (.invokevirtual 241, 3) := by decide +kernel
theorem dX12_greenLineHere_47 : decode cX12_greenLineHere 47 = .ok (.ireturn, 1) := by decide +kernel
theorem dX12_greenLineHere_48 : decode cX12_greenLineHere 48 = .ok (.aload_n 0, 1) := by decide +kernel
theorem dX12_greenLineHere_49 : decode cX12_greenLineHere 49 = .ok (.ldc2_w 133, 3) := by decide +kernel
theorem dX12_greenLineHere_52 : decode cX12_greenLineHere 52 = .ok (.invokevirtual 110, 3) := by decide +kernel
theorem dX12_greenLineHere_55 : decode cX12_greenLineHere 55 = .ok (.ifCond .eq 11, 3) := by decide +kernel
theorem dX12_greenLineHere_58 : decode cX12_greenLineHere 58 = .ok (.aload_n 0, 1) := by decide +kernel
theorem dX12_greenLineHere_59 : decode cX12_greenLineHere 59 = .ok (.iload_n 1, 1) := by decide +kernel
theorem dX12_greenLineHere_60 : decode cX12_greenLineHere 60 = .ok (.invokevirtual 244, 3) := by decide +kernel
theorem dX12_greenLineHere_63 : decode cX12_greenLineHere 63 = .ok (.goto 8, 3) := by decide +kernel
theorem dX12_greenLineHere_66 : decode cX12_greenLineHere 66 = .ok (.aload_n 0, 1) := by decide +kernel
theorem dX12_greenLineHere_67 : decode cX12_greenLineHere 67 = .ok (.iload_n 1, 1) := by decide +kernel
theorem dX12_greenLineHere_68 : decode cX12_greenLineHere 68 = .ok (.invokevirtual 247, 3) := by decide +kernel
theorem dX12_greenLineHere_71 : decode cX12_greenLineHere 71 = .ok (.ireturn, 1) := by decide +kernel
theorem dX8_readComparison_0 : decode cX8_readComparison 0 = .ok (.aload_n 1, 1) := by decide +kernel
theorem dX8_readComparison_1 : decode cX8_readComparison 1 = .ok (.invokestatic 83, 3) := by decide +kernel
theorem dX8_readComparison_4 : decode cX8_readComparison 4 = .ok (.istore_n 2, 1) := by decide +kernel
theorem dX8_readComparison_5 : decode cX8_readComparison 5 = .ok (.iload_n 2, 1) := by decide +kernel
theorem dX8_readComparison_6 : decode cX8_readComparison 6 = .ok (.iconst (-1), 1) := by decide +kernel
theorem dX8_readComparison_7 : decode cX8_readComparison 7 = .ok (.if_icmp .ne 15, 3) := by decide +kernel
theorem dX8_readComparison_10 : decode cX8_readComparison 10 = .ok (.aload_n 1, 1) := by decide +kernel
theorem dX8_readComparison_11 : decode cX8_readComparison 11 = .ok (.aload_n 1, 1) := by decide +kernel
theorem dX8_readComparison_12 : decode cX8_readComparison 12 = .ok (.getfield 53, 3) := by decide +kernel
theorem dX8_readComparison_15 : decode cX8_readComparison 15 = .ok (.iconst 0, 1) := by decide +kernel
theorem dX8_readComparison_16 : decode cX8_readComparison 16 = .ok (.invokevirtual 56, 3) := by decide +kernel
theorem dX8_readComparison_19 : decode cX8_readComparison 19 = .ok (.goto 21, 3) := by decide +kernel
theorem dX8_readComparison_22 : decode cX8_readComparison 22 = .ok (.aload_n 0, 1) := by decide +kernel
theorem dX8_readComparison_23 : decode cX8_readComparison 23 = .ok (.getfield 21, 3) := by decide +kernel
theorem dX8_readComparison_26 : decode cX8_readComparison 26 = .ok (.bipush 60, 2) := by decide +kernel
theorem dX8_readComparison_28 : decode cX8_readComparison 28 = .ok (.if_icmp .lt 12, 3) := by decide +kernel
theorem dX8_readComparison_31 : decode cX8_readComparison 31 = .ok (.aload_n 1, 1) := by decide +kernel
theorem dX8_readComparison_32 : decode cX8_readComparison 32 = .ok (.aload_n 1, 1) := by decide +kernel
theorem dX8_readComparison_33 : decode cX8_readComparison 33 = .ok (.getfield 53, 3) := by decide +kernel
theorem dX8_readComparison_36 : decode cX8_readComparison 36 = .ok (.iconst 3, 1) := by decide +kernel
theorem dX8_readComparison_37 : decode cX8_readComparison 37 = .ok (.invokevirtual 56, 3) := by decide +kernel
theorem dX8_readComparison_40 : decode cX8_readComparison 40 = .ok (.aload_n 0, 1) := by decide +kernel
theorem dX8_readComparison_41 : decode cX8_readComparison 41 = .ok (.dup, 1) := by decide +kernel
theorem dX8_readComparison_42 : decode cX8_readComparison 42 = .ok (.getfield 21, 3) := by decide +kernel
theorem dX8_readComparison_45 : decode cX8_readComparison 45 = .ok (.iconst 1, 1) := by decide +kernel
theorem dX8_readComparison_46 : decode cX8_readComparison 46 = .ok (.iadd, 1) := by decide +kernel
theorem dX8_readComparison_47 : decode cX8_readComparison 47 = .ok (.putfield 21, 3) := by decide +kernel
theorem dX8_readComparison_50 : decode cX8_readComparison 50 = .ok (.aload_n 1, 1) := by decide +kernel
theorem dX8_readComparison_51 : decode cX8_readComparison 51 = .ok (.invokevirtual 60, 3) := by decide +kernel
theorem dX8_readComparison_54 : decode cX8_readComparison 54 = .ok (.iload_n 2, 1) := by decide +kernel
theorem dX8_readComparison_55 : decode cX8_readComparison 55 = .ok (.ireturn, 1) := by decide +kernel
theorem dX9_numbersThatFit_0 : decode cX9_numbersThatFit 0 = .ok (.iconst 0, 1) := by decide +kernel
theorem dX9_numbersThatFit_1 : decode cX9_numbersThatFit 1 = .ok (.istore 7, 2) := by decide +kernel
theorem dX9_numbersThatFit_3 : decode cX9_numbersThatFit 3 = .ok (.iload 5, 2) := by decide +kernel
theorem dX9_numbersThatFit_5 : decode cX9_numbersThatFit 5 = .ok (.istore 8, 2) := by decide +kernel
theorem dX9_numbersThatFit_7 : decode cX9_numbersThatFit 7 = .ok (.iload 8, 2) := by decide +kernel
theorem dX9_numbersThatFit_9 : decode cX9_numbersThatFit 9 = .ok (.iload 6, 2) := by decide +kernel
theorem dX9_numbersThatFit_11 : decode cX9_numbersThatFit 11 = .ok (.if_icmp .gt 57, 3) := by decide +kernel
theorem dX9_numbersThatFit_14 : decode cX9_numbersThatFit 14 = .ok (.aload_n 1, 1) := by decide +kernel
theorem dX9_numbersThatFit_15 : decode cX9_numbersThatFit 15 = .ok (.aload_n 2, 1) := by decide +kernel
theorem dX9_numbersThatFit_16 : decode cX9_numbersThatFit 16 = .ok (.getfield 23, 3) := by decide +kernel
theorem dX9_numbersThatFit_19 : decode cX9_numbersThatFit 19 = .ok (.aload_n 3, 1) := by decide +kernel
theorem dX9_numbersThatFit_20 : decode cX9_numbersThatFit 20 = .ok (.invokevirtual 29, 3) := by decide +kernel
theorem dX9_numbersThatFit_23 : decode cX9_numbersThatFit 23 = .ok (.aload_n 1, 1) := by decide +kernel
theorem dX9_numbersThatFit_24 : decode cX9_numbersThatFit 24 = .ok (.getfield 35, 3) := by decide +kernel
theorem dX9_numbersThatFit_27 : decode cX9_numbersThatFit 27 = .ok (.getfield 38, 3) := by decide +kernel
theorem dX9_numbersThatFit_30 : decode cX9_numbersThatFit 30 = .ok (.iload 4, 2) := by decide +kernel
theorem dX9_numbersThatFit_32 : decode cX9_numbersThatFit 32 = .ok (.iload 8, 2) := by decide +kernel
theorem dX9_numbersThatFit_34 : decode cX9_numbersThatFit 34 = .ok (.iastore, 1) := by decide +kernel
theorem dX9_numbersThatFit_35 : decode cX9_numbersThatFit 35 = .ok (.aload_n 1, 1) := by decide +kernel
theorem dX9_numbersThatFit_36 : decode cX9_numbersThatFit 36 = .ok (.aload_n 2, 1) := by decide +kernel
theorem dX9_numbersThatFit_37 : decode cX9_numbersThatFit 37 = .ok (.getfield 44, 3) := by decide +kernel
theorem dX9_numbersThatFit_40 : decode cX9_numbersThatFit 40 = .ok (.iconst (-1), 1) := by decide +kernel
theorem dX9_numbersThatFit_41 : decode cX9_numbersThatFit 41 = .ok (.aload_n 0, 1) := by decide +kernel
theorem dX9_numbersThatFit_42 : decode cX9_numbersThatFit 42 = .ok (.getfield 20, 3) := by decide +kernel
theorem dX9_numbersThatFit_45 : decode cX9_numbersThatFit 45 = .ok (.iconst 0, 1) := by decide +kernel
theorem dX9_numbersThatFit_46 : decode cX9_numbersThatFit 46 = .ok (.aaload, 1) := by decide +kernel
theorem dX9_numbersThatFit_47 : decode cX9_numbersThatFit 47 = .ok (.invokestatic 48, 3) := by decide +kernel
theorem dX9_numbersThatFit_50 : decode cX9_numbersThatFit 50 = .ok (.ifCond .eq 12, 3) := by decide +kernel
theorem dX9_numbersThatFit_53 : decode cX9_numbersThatFit 53 = .ok (.iload 7, 2) := by decide +kernel
theorem dX9_numbersThatFit_55 : decode cX9_numbersThatFit 55 = .ok (.iconst 1, 1) := by decide +kernel
theorem dX9_numbersThatFit_56 : decode cX9_numbersThatFit 56 = .ok (.iload 8, 2) := by decide +kernel
theorem dX9_numbersThatFit_58 : decode cX9_numbersThatFit 58 = .ok (.ishl, 1) := by decide +kernel
theorem dX9_numbersThatFit_59 : decode cX9_numbersThatFit 59 = .ok (.ior, 1) := by decide +kernel
theorem dX9_numbersThatFit_60 : decode cX9_numbersThatFit 60 = .ok (.istore 7, 2) := by decide +kernel
theorem dX9_numbersThatFit_62 : decode cX9_numbersThatFit 62 = .ok (.iinc 8 1, 3) := by decide +kernel
theorem dX9_numbersThatFit_65 : decode cX9_numbersThatFit 65 = .ok (.goto (-58), 3) := by decide +kernel
theorem dX9_numbersThatFit_68 : decode cX9_numbersThatFit 68 = .ok (.iload 7, 2) := by decide +kernel
theorem dX9_numbersThatFit_70 : decode cX9_numbersThatFit 70 = .ok (.ireturn, 1) := by decide +kernel
theorem dX1_ringThatHitsOwn_0 : decode cX1_ringThatHitsOwn 0 = .ok (.aload_n 0, 1) := by decide +kernel
theorem dX1_ringThatHitsOwn_1 : decode cX1_ringThatHitsOwn 1 = .ok (.getfield 11, 3) := by decide +kernel
theorem dX1_ringThatHitsOwn_4 : decode cX1_ringThatHitsOwn 4 = .ok (.bipush 38, 2) := by decide +kernel
theorem dX1_ringThatHitsOwn_6 : decode cX1_ringThatHitsOwn 6 = .ok (.iload_n 1, 1) := by decide +kernel
theorem dX1_ringThatHitsOwn_7 : decode cX1_ringThatHitsOwn 7 = .ok (.iadd, 1) := by decide +kernel
theorem dX1_ringThatHitsOwn_8 : decode cX1_ringThatHitsOwn 8 = .ok (.iaload, 1) := by decide +kernel
theorem dX1_ringThatHitsOwn_9 : decode cX1_ringThatHitsOwn 9 = .ok (.istore_n 3, 1) := by decide +kernel
theorem dX1_ringThatHitsOwn_10 : decode cX1_ringThatHitsOwn 10 = .ok (.aload_n 0, 1) := by decide +kernel
theorem dX1_ringThatHitsOwn_11 : decode cX1_ringThatHitsOwn 11 = .ok (.aload_n 0, 1) := by decide +kernel
theorem dX1_ringThatHitsOwn_12 : decode cX1_ringThatHitsOwn 12 = .ok (.getfield 11, 3) := by decide +kernel
theorem dX1_ringThatHitsOwn_15 : decode cX1_ringThatHitsOwn 15 = .ok (.bipush 20, 2) := by decide +kernel
theorem dX1_ringThatHitsOwn_17 : decode cX1_ringThatHitsOwn 17 = .ok (.iload_n 3, 1) := by decide +kernel
theorem dX1_ringThatHitsOwn_18 : decode cX1_ringThatHitsOwn 18 = .ok (.iadd, 1) := by decide +kernel
theorem dX1_ringThatHitsOwn_19 : decode cX1_ringThatHitsOwn 19 = .ok (.iaload, 1) := by decide +kernel
theorem dX1_ringThatHitsOwn_20 : decode cX1_ringThatHitsOwn 20 = .ok (.aload_n 0, 1) := by decide +kernel
theorem dX1_ringThatHitsOwn_21 : decode cX1_ringThatHitsOwn 21 = .ok (.iload_n 1, 1) := by decide +kernel
theorem dX1_ringThatHitsOwn_22 : decode cX1_ringThatHitsOwn 22 = .ok (.aload_n 0, 1) := by decide +kernel
theorem dX1_ringThatHitsOwn_23 : decode cX1_ringThatHitsOwn 23 = .ok (.iload_n 2, 1) := by decide +kernel
theorem dX1_ringThatHitsOwn_24 : decode cX1_ringThatHitsOwn 24 = .ok (.invokevirtual 35, 3) := by decide +kernel
theorem dX1_ringThatHitsOwn_27 : decode cX1_ringThatHitsOwn 27 = .ok (.invokevirtual 31, 3) := by decide +kernel
theorem dX1_ringThatHitsOwn_30 : decode cX1_ringThatHitsOwn 30 = .ok (.isub, 1) := by decide +kernel
theorem dX1_ringThatHitsOwn_31 : decode cX1_ringThatHitsOwn 31 = .ok (.invokevirtual 39, 3) := by decide +kernel
theorem dX1_ringThatHitsOwn_34 : decode cX1_ringThatHitsOwn 34 = .ok (.ireturn, 1) := by decide +kernel
theorem dJ0_checkIndex_df160_0 : decode cJ0_checkIndex_df160 0 = .ok (.iload_n 0, 1) := by decide +kernel
theorem dJ0_checkIndex_df160_1 : decode cJ0_checkIndex_df160 1 = .ok (.iload_n 1, 1) := by decide +kernel
theorem dJ0_checkIndex_df160_2 : decode cJ0_checkIndex_df160 2 = .ok (.getstatic 1053, 3) := by decide +kernel
theorem dJ0_checkIndex_df160_5 : decode cJ0_checkIndex_df160 5 = .ok (.invokestatic 1059, 3) := by decide +kernel
theorem dJ0_checkIndex_df160_8 : decode cJ0_checkIndex_df160 8 = .ok (.pop, 1) := by decide +kernel
theorem dJ0_checkIndex_df160_9 : decode cJ0_checkIndex_df160 9 = .ok (.return_, 1) := by decide +kernel
theorem dJ2_checkIndex_2214a_0 : decode cJ2_checkIndex_2214a 0 = .ok (.iload_n 0, 1) := by decide +kernel
theorem dJ2_checkIndex_2214a_1 : decode cJ2_checkIndex_2214a 1 = .ok (.aload_n 1, 1) := by decide +kernel
theorem dJ2_checkIndex_2214a_2 : decode cJ2_checkIndex_2214a 2 = .ok (.invokestatic 48, 3) := by decide +kernel
theorem dJ2_checkIndex_2214a_5 : decode cJ2_checkIndex_2214a 5 = .ok (.invokestatic 414, 3) := by decide +kernel
theorem dJ2_checkIndex_2214a_8 : decode cJ2_checkIndex_2214a 8 = .ok (.return_, 1) := by decide +kernel
theorem dJ3_checkIndex_8e157_0 : decode cJ3_checkIndex_8e157 0 = .ok (.iload_n 0, 1) := by decide +kernel
theorem dJ3_checkIndex_8e157_1 : decode cJ3_checkIndex_8e157 1 = .ok (.ifCond .lt 8, 3) := by decide +kernel
theorem dJ3_checkIndex_8e157_4 : decode cJ3_checkIndex_8e157 4 = .ok (.iload_n 0, 1) := by decide +kernel
theorem dJ3_checkIndex_8e157_5 : decode cJ3_checkIndex_8e157 5 = .ok (.iload_n 1, 1) := by decide +kernel
theorem dJ3_checkIndex_8e157_6 : decode cJ3_checkIndex_8e157 6 = .ok (.if_icmp .lt 10, 3) := by decide +kernel
theorem dJ3_checkIndex_8e157_9 : decode cJ3_checkIndex_8e157 9 = .ok (.aload_n 2, 1) := by decide +kernel
theorem dJ3_checkIndex_8e157_10 : decode cJ3_checkIndex_8e157 10 = .ok (.iload_n 0, 1) := by decide +kernel
theorem dJ3_checkIndex_8e157_11 : decode cJ3_checkIndex_8e157 11 = .ok (.iload_n 1, 1) := by decide +kernel
theorem dJ3_checkIndex_8e157_12 : decode cJ3_checkIndex_8e157 12 = .ok (.invokestatic 95, 3) := by decide +kernel
theorem dJ3_checkIndex_8e157_15 : decode cJ3_checkIndex_8e157 15 = .ok (.athrow, 1) := by decide +kernel
theorem dJ3_checkIndex_8e157_16 : decode cJ3_checkIndex_8e157 16 = .ok (.iload_n 0, 1) := by decide +kernel
theorem dJ3_checkIndex_8e157_17 : decode cJ3_checkIndex_8e157 17 = .ok (.ireturn, 1) := by decide +kernel
