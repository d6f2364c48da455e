theorem dX12_findsRow_0 : decode cX12_findsRow 0 = .ok (.iconst (-1), 1) := by decide +kernel
theorem dX12_findsRow_1 : decode cX12_findsRow 1 = .ok (.istore_n 3, 1) := by decide +kernel
theorem dX12_findsRow_2 : decode cX12_findsRow 2 = .ok (.iconst 0, 1) := by decide +kernel
theorem dX12_findsRow_3 : decode cX12_findsRow 3 = .ok (.istore 4, 2) := by decide +kernel
theorem dX12_findsRow_5 : decode cX12_findsRow 5 = .ok (.aload_n 0, 1) := by decide +kernel
theorem dX12_findsRow_6 : decode cX12_findsRow 6 = .ok (.invokevirtual 372, 3) := by decide +kernel
theorem dX12_findsRow_9 : decode cX12_findsRow 9 = .ok (.iconst 0, 1) := by decide +kernel
theorem dX12_findsRow_10 : decode cX12_findsRow 10 = .ok (.istore 5, 2) := by decide +kernel
theorem dX12_findsRow_12 : decode cX12_findsRow 12 = .ok (.iload 5, 2) := by decide +kernel
theorem dX12_findsRow_14 : decode cX12_findsRow 14 = .ok (.iconst 5, 1) := by decide +kernel
theorem dX12_findsRow_15 : decode cX12_findsRow 15 = .ok (.if_icmp .ge 17, 3) := by decide +kernel
theorem dX12_findsRow_18 : decode cX12_findsRow 18 = .ok (.aload_n 0, 1) := by decide +kernel
theorem dX12_findsRow_19 : decode cX12_findsRow 19 = .ok (.getfield 61, 3) := by decide +kernel
theorem dX12_findsRow_22 : decode cX12_findsRow 22 = .ok (.iload 5, 2) := by decide +kernel
theorem dX12_findsRow_24 : decode cX12_findsRow 24 = .ok (.iconst (-1), 1) := by decide +kernel
theorem dX12_findsRow_25 : decode cX12_findsRow 25 = .ok (.iastore, 1) := by decide +kernel
theorem dX12_findsRow_26 : decode cX12_findsRow 26 = .ok (.iinc 5 1, 3) := by decide +kernel
theorem dX12_findsRow_29 : decode cX12_findsRow 29 = .ok (.goto (-17), 3) := by decide +kernel
theorem dX12_findsRow_32 : decode cX12_findsRow 32 = .ok (.aload_n 0, 1) := by decide +kernel
theorem dX12_findsRow_33 : decode cX12_findsRow 33 = .ok (.iload_n 2, 1) := by decide +kernel
theorem dX12_findsRow_34 : decode cX12_findsRow 34 = .ok (.invokevirtual 390, 3) := by decide +kernel
theorem dX12_findsRow_37 : decode cX12_findsRow 37 = .ok (.istore 5, 2) := by decide +kernel
theorem dX12_findsRow_39 : decode cX12_findsRow 39 = .ok (.iload 5, 2) := by decide +kernel
theorem dX12_findsRow_41 : decode cX12_findsRow 41 = .ok (.aload_n 0, 1) := by decide +kernel
theorem dX12_findsRow_42 : decode cX12_findsRow 42 = .ok (.iload_n 1, 1) := by decide +kernel
theorem dX12_findsRow_43 : decode cX12_findsRow 43 = .ok (.invokevirtual 320, 3) := by decide +kernel
theorem dX12_findsRow_46 : decode cX12_findsRow 46 = .ok (.if_icmp .le 6, 3) := by decide +kernel
theorem dX12_findsRow_49 : decode cX12_findsRow 49 = .ok (.goto 69, 3) := by decide +kernel
theorem dX12_findsRow_52 : decode cX12_findsRow 52 = .ok (.aload_n 0, 1) := by decide +kernel
theorem dX12_findsRow_53 : decode cX12_findsRow 53 = .ok (.iload_n 1, 1) := by decide +kernel
theorem dX12_findsRow_54 : decode cX12_findsRow 54 = .ok (.iload_n 2, 1) := by decide +kernel
theorem dX12_findsRow_55 : decode cX12_findsRow 55 = .ok (.invokevirtual 393, 3) := by decide +kernel
theorem dX12_findsRow_58 : decode cX12_findsRow 58 = .ok (.istore 6, 2) := by decide +kernel
theorem dX12_findsRow_60 : decode cX12_findsRow 60 = .ok (.iload 6, 2) := by decide +kernel
theorem dX12_findsRow_62 : decode cX12_findsRow 62 = .ok (.iload_n 3, 1) := by decide +kernel
theorem dX12_findsRow_63 : decode cX12_findsRow 63 = .ok (.if_icmp .lt 55, 3) := by decide +kernel
theorem dX12_findsRow_66 : decode cX12_findsRow 66 = .ok (.iload 6, 2) := by decide +kernel
theorem dX12_findsRow_68 : decode cX12_findsRow 68 = .ok (.iload_n 3, 1) := by decide +kernel
theorem dX12_findsRow_69 : decode cX12_findsRow 69 = .ok (.if_icmp .ne 13, 3) := by decide +kernel
theorem dX12_findsRow_72 : decode cX12_findsRow 72 = .ok (.iload 5, 2) := by decide +kernel
theorem dX12_findsRow_74 : decode cX12_findsRow 74 = .ok (.iload 4, 2) := by decide +kernel
theorem dX12_findsRow_76 : decode cX12_findsRow 76 = .ok (.if_icmp .lt 6, 3) := by decide +kernel
theorem dX12_findsRow_79 : decode cX12_findsRow 79 = .ok (.goto 39, 3) := by decide +kernel
theorem dX12_findsRow_82 : decode cX12_findsRow 82 = .ok (.iload 6, 2) := by decide +kernel
theorem dX12_findsRow_84 : decode cX12_findsRow 84 = .ok (.istore_n 3, 1) := by decide +kernel
theorem dX12_findsRow_85 : decode cX12_findsRow 85 = .ok (.iload 5, 2) := by decide +kernel
theorem dX12_findsRow_87 : decode cX12_findsRow 87 = .ok (.istore 4, 2) := by decide +kernel
theorem dX12_findsRow_89 : decode cX12_findsRow 89 = .ok (.iconst 0, 1) := by decide +kernel
theorem dX12_findsRow_90 : decode cX12_findsRow 90 = .ok (.istore 7, 2) := by decide +kernel
theorem dX12_findsRow_92 : decode cX12_findsRow 92 = .ok (.iload 7, 2) := by decide +kernel
theorem dX12_findsRow_94 : decode cX12_findsRow 94 = .ok (.iconst 5, 1) := by decide +kernel
theorem dX12_findsRow_95 : decode cX12_findsRow 95 = .ok (.if_icmp .ge 23, 3) := by decide +kernel
theorem dX12_findsRow_98 : decode cX12_findsRow 98 = .ok (.aload_n 0, 1) := by decide +kernel
theorem dX12_findsRow_99 : decode cX12_findsRow 99 = .ok (.getfield 64, 3) := by decide +kernel
theorem dX12_findsRow_102 : decode cX12_findsRow 102 = .ok (.iload 7, 2) := by decide +kernel
theorem dX12_findsRow_104 : decode cX12_findsRow 104 = .ok (.aload_n 0, 1) := by decide +kernel
theorem dX12_findsRow_105 : decode cX12_findsRow 105 = .ok (.getfield 61, 3) := by decide +kernel
theorem dX12_findsRow_108 : decode cX12_findsRow 108 = .ok (.iload 7, 2) := by decide +kernel
theorem dX12_findsRow_110 : decode cX12_findsRow 110 = .ok (.iaload, 1) := by decide +kernel
theorem dX12_findsRow_111 : decode cX12_findsRow 111 = .ok (.iastore, 1) := by decide +kernel
theorem dX12_findsRow_112 : decode cX12_findsRow 112 = .ok (.iinc 7 1, 3) := by decide +kernel
theorem dX12_findsRow_115 : decode cX12_findsRow 115 = .ok (.goto (-23), 3) := by decide +kernel
theorem dX12_findsRow_118 : decode cX12_findsRow 118 = .ok (.aload_n 0, 1) := by decide +kernel
theorem dX12_findsRow_119 : decode cX12_findsRow 119 = .ok (.iload_n 2, 1) := by decide +kernel
theorem dX12_findsRow_120 : decode cX12_findsRow 120 = .ok (.invokevirtual 396, 3) := by decide +kernel
theorem dX12_findsRow_123 : decode cX12_findsRow 123 = .ok (.ifCond .ne (-91), 3) := by decide +kernel
theorem dX12_findsRow_126 : decode cX12_findsRow 126 = .ok (.iload_n 3, 1) := by decide +kernel
theorem dX12_findsRow_127 : decode cX12_findsRow 127 = .ok (.ireturn, 1) := by decide +kernel
theorem dX12_givesAll_0 : decode cX12_givesAll 0 = .ok (.aload_n 0, 1) := by decide +kernel
theorem dX12_givesAll_1 : decode cX12_givesAll 1 = .ok (.iconst 2, 1) := by decide +kernel
theorem dX12_givesAll_2 : decode cX12_givesAll 2 = .ok (.invokevirtual 381, 3) := by decide +kernel
theorem dX12_givesAll_5 : decode cX12_givesAll 5 = .ok (.istore_n 2, 1) := by decide +kernel
theorem dX12_givesAll_6 : decode cX12_givesAll 6 = .ok (.iconst 0, 1) := by decide +kernel
theorem dX12_givesAll_7 : decode cX12_givesAll 7 = .ok (.istore_n 3, 1) := by decide +kernel
theorem dX12_givesAll_8 : decode cX12_givesAll 8 = .ok (.iload_n 3, 1) := by decide +kernel
theorem dX12_givesAll_9 : decode cX12_givesAll 9 = .ok (.aload_n 0, 1) := by decide +kernel
theorem dX12_givesAll_10 : decode cX12_givesAll 10 = .ok (.getfield 39, 3) := by decide +kernel
theorem dX12_givesAll_13 : decode cX12_givesAll 13 = .ok (.iconst 5, 1) := by decide +kernel
theorem dX12_givesAll_14 : decode cX12_givesAll 14 = .ok (.iaload, 1) := by decide +kernel
theorem dX12_givesAll_15 : decode cX12_givesAll 15 = .ok (.if_icmp .ge 43, 3) := by decide +kernel
theorem dX12_givesAll_18 : decode cX12_givesAll 18 = .ok (.aload_n 0, 1) := by decide +kernel
theorem dX12_givesAll_19 : decode cX12_givesAll 19 = .ok (.getfield 39, 3) := by decide +kernel
theorem dX12_givesAll_22 : decode cX12_givesAll 22 = .ok (.bipush 25, 2) := by decide +kernel
theorem dX12_givesAll_24 : decode cX12_givesAll 24 = .ok (.iconst 3, 1) := by decide +kernel
theorem dX12_givesAll_25 : decode cX12_givesAll 25 = .ok (.iload_n 3, 1) := by decide +kernel
theorem dX12_givesAll_26 : decode cX12_givesAll 26 = .ok (.imul, 1) := by decide +kernel
theorem dX12_givesAll_27 : decode cX12_givesAll 27 = .ok (.iadd, 1) := by decide +kernel
theorem dX12_givesAll_28 : decode cX12_givesAll 28 = .ok (.iconst 2, 1) := by decide +kernel
theorem dX12_givesAll_29 : decode cX12_givesAll 29 = .ok (.iadd, 1) := by decide +kernel
theorem dX12_givesAll_30 : decode cX12_givesAll 30 = .ok (.iload_n 3, 1) := by decide +kernel
theorem dX12_givesAll_31 : decode cX12_givesAll 31 = .ok (.iload_n 1, 1) := by decide +kernel
theorem dX12_givesAll_32 : decode cX12_givesAll 32 = .ok (.if_icmp .eq 7, 3) := by decide +kernel
theorem dX12_givesAll_35 : decode cX12_givesAll 35 = .ok (.iconst 0, 1) := by decide +kernel
theorem dX12_givesAll_36 : decode cX12_givesAll 36 = .ok (.goto 15, 3) := by decide +kernel
theorem dX12_givesAll_39 : decode cX12_givesAll 39 = .ok (.iload_n 2, 1) := by decide +kernel
theorem dX12_givesAll_40 : decode cX12_givesAll 40 = .ok (.bipush 99, 2) := by decide +kernel
theorem dX12_givesAll_42 : decode cX12_givesAll 42 = .ok (.if_icmp .le 8, 3) := by decide +kernel
theorem dX12_givesAll_45 : decode cX12_givesAll 45 = .ok (.bipush 99, 2) := by decide +kernel
theorem dX12_givesAll_47 : decode cX12_givesAll 47 = .ok (.goto 4, 3) := by decide +kernel
theorem dX12_givesAll_50 : decode cX12_givesAll 50 = .ok (.iload_n 2, 1) := by decide +kernel
theorem dX12_givesAll_51 : decode cX12_givesAll 51 = .ok (.iastore, 1) := by decide +kernel
theorem dX12_givesAll_52 : decode cX12_givesAll 52 = .ok (.iinc 3 1, 3) := by decide +kernel
theorem dX12_givesAll_55 : decode cX12_givesAll 55 = .ok (.goto (-47), 3) := by decide +kernel
theorem dX12_givesAll_58 : decode cX12_givesAll 58 = .ok (.return_, 1) := by decide +kernel
theorem dX12_isArcher_0 : decode cX12_isArcher 0 = .ok (.iload_n 1, 1) := by decide +kernel
theorem dX12_isArcher_1 : decode cX12_isArcher 1 = .ok (.ifCond .lt 17, 3) := by decide +kernel
theorem dX12_isArcher_4 : decode cX12_isArcher 4 = .ok (.iload_n 1, 1) := by decide +kernel
theorem dX12_isArcher_5 : decode cX12_isArcher 5 = .ok (.aload_n 0, 1) := by decide +kernel
theorem dX12_isArcher_6 : decode cX12_isArcher 6 = .ok (.getfield 39, 3) := by decide +kernel
theorem dX12_isArcher_9 : decode cX12_isArcher 9 = .ok (.iconst 5, 1) := by decide +kernel
theorem dX12_isArcher_10 : decode cX12_isArcher 10 = .ok (.iaload, 1) := by decide +kernel
theorem dX12_isArcher_11 : decode cX12_isArcher 11 = .ok (.if_icmp .ge 7, 3) := by decide +kernel
theorem dX12_isArcher_14 : decode cX12_isArcher 14 = .ok (.iconst 1, 1) := by decide +kernel
theorem dX12_isArcher_15 : decode cX12_isArcher 15 = .ok (.goto 4, 3) := by decide +kernel
theorem dX12_isArcher_18 : decode cX12_isArcher 18 = .ok (.iconst 0, 1) := by decide +kernel
theorem dX12_isArcher_19 : decode cX12_isArcher 19 = .ok (.ireturn, 1) := by decide +kernel
theorem dX12_isInside_0 : decode cX12_isInside 0 = .ok (.iconst 0, 1) := by decide +kernel
theorem dX12_isInside_1 : decode cX12_isInside 1 = .ok (.istore_n 1, 1) := by decide +kernel
theorem dX12_isInside_2 : decode cX12_isInside 2 = .ok (.iload_n 1, 1) := by decide +kernel
theorem dX12_isInside_3 : decode cX12_isInside 3 = .ok (.aload_n 0, 1) := by decide +kernel
theorem dX12_isInside_4 : decode cX12_isInside 4 = .ok (.getfield 166, 3) := by decide +kernel
theorem dX12_isInside_7 : decode cX12_isInside 7 = .ok (.if_icmp .ge 22, 3) := by decide +kernel
theorem dX12_isInside_10 : decode cX12_isInside 10 = .ok (.aload_n 0, 1) := by decide +kernel
theorem dX12_isInside_11 : decode cX12_isInside 11 = .ok (.getfield 29, 3) := by decide +kernel
theorem dX12_isInside_14 : decode cX12_isInside 14 = .ok (.iload_n 1, 1) := by decide +kernel
theorem dX12_isInside_15 : decode cX12_isInside 15 = .ok (.iaload, 1) := by decide +kernel
theorem dX12_isInside_16 : decode cX12_isInside 16 = .ok (.bipush 91, 2) := by decide +kernel
theorem dX12_isInside_18 : decode cX12_isInside 18 = .ok (.if_icmp .ne 5, 3) := by decide +kernel
theorem dX12_isInside_21 : decode cX12_isInside 21 = .ok (.iconst 1, 1) := by decide +kernel
theorem dX12_isInside_22 : decode cX12_isInside 22 = .ok (.ireturn, 1) := by decide +kernel
theorem dX12_isInside_23 : decode cX12_isInside 23 = .ok (.iinc 1 1, 3) := by decide +kernel
theorem dX12_isInside_26 : decode cX12_isInside 26 = .ok (.goto (-24), 3) := by decide +kernel
theorem dX12_isInside_29 : decode cX12_isInside 29 = .ok (.iconst 0, 1) := by decide +kernel
theorem dX12_isInside_30 : decode cX12_isInside 30 = .ok (.ireturn, 1) := by decide +kernel
theorem dX12_isLetter_0 : decode cX12_isLetter 0 = .ok (.iload_n 1, 1) := by decide +kernel
theorem dX12_isLetter_1 : decode cX12_isLetter 1 = .ok (.aload_n 0, 1) := by decide +kernel
theorem dX12_isLetter_2 : decode cX12_isLetter 2 = .ok (.getfield 89, 3) := by decide +kernel
theorem dX12_isLetter_5 : decode cX12_isLetter 5 = .ok (.if_icmp .ge 29, 3) := by decide +kernel
theorem dX12_isLetter_8 : decode cX12_isLetter 8 = .ok (.aload_n 0, 1) := by decide +kernel
theorem dX12_isLetter_9 : decode cX12_isLetter 9 = .ok (.getfield 7, 3) := by decide +kernel
theorem dX12_isLetter_12 : decode cX12_isLetter 12 = .ok (.iload_n 1, 1) := by decide +kernel
theorem dX12_isLetter_13 : decode cX12_isLetter 13 = .ok (.baload, 1) := by decide +kernel
theorem dX12_isLetter_14 : decode cX12_isLetter 14 = .ok (.bipush 97, 2) := by decide +kernel
theorem dX12_isLetter_16 : decode cX12_isLetter 16 = .ok (.if_icmp .lt 18, 3) := by decide +kernel
theorem dX12_isLetter_19 : decode cX12_isLetter 19 = .ok (.aload_n 0, 1) := by decide +kernel
theorem dX12_isLetter_20 : decode cX12_isLetter 20 = .ok (.getfield 7, 3) := by decide +kernel
theorem dX12_isLetter_23 : decode cX12_isLetter 23 = .ok (.iload_n 1, 1) := by decide +kernel
theorem dX12_isLetter_24 : decode cX12_isLetter 24 = .ok (.baload, 1) := by decide +kernel
theorem dX12_isLetter_25 : decode cX12_isLetter 25 = .ok (.bipush 122, 2) := by decide +kernel
theorem dX12_isLetter_27 : decode cX12_isLetter 27 = .ok (.if_icmp .gt 7, 3) := by decide +kernel
theorem dX12_isLetter_30 : decode cX12_isLetter 30 = .ok (.iconst 1, 1) := by decide +kernel
theorem dX12_isLetter_31 : decode cX12_isLetter 31 = .ok (.goto 4, 3) := by decide +kernel
theorem dX12_isLetter_34 : decode cX12_isLetter 34 = .ok (.iconst 0, 1) := by decide +kernel
theorem dX12_isLetter_35 : decode cX12_isLetter 35 = .ok (.ireturn, 1) := by decide +kernel
theorem dX12_keepsAct_0 : decode cX12_keepsAct 0 = .ok (.aload_n 0, 1) := by decide +kernel
theorem dX12_keepsAct_1 : decode cX12_keepsAct 1 = .ok (.getfield 276, 3) := by decide +kernel
theorem dX12_keepsAct_4 : decode cX12_keepsAct 4 = .ok (.bipush 20, 2) := by decide +kernel
theorem dX12_keepsAct_6 : decode cX12_keepsAct 6 = .ok (.if_icmp .ne 44, 3) := by decide +kernel
theorem dX12_keepsAct_9 : decode cX12_keepsAct 9 = .ok (.bipush 30, 2) := by decide +kernel
theorem dX12_keepsAct_11 : decode cX12_keepsAct 11 = .ok (.istore_n 1, 1) := by decide +kernel
theorem dX12_keepsAct_12 : decode cX12_keepsAct 12 = .ok (.iload_n 1, 1) := by decide +kernel
theorem dX12_keepsAct_13 : decode cX12_keepsAct 13 = .ok (.sipush 600, 3) := by decide +kernel
theorem dX12_keepsAct_16 : decode cX12_keepsAct 16 = .ok (.if_icmp .ge 24, 3) := by decide +kernel
theorem dX12_keepsAct_19 : decode cX12_keepsAct 19 = .ok (.aload_n 0, 1) := by decide +kernel
theorem dX12_keepsAct_20 : decode cX12_keepsAct 20 = .ok (.getfield 55, 3) := by decide +kernel
theorem dX12_keepsAct_23 : decode cX12_keepsAct 23 = .ok (.iload_n 1, 1) := by decide +kernel
theorem dX12_keepsAct_24 : decode cX12_keepsAct 24 = .ok (.bipush 30, 2) := by decide +kernel
theorem dX12_keepsAct_26 : decode cX12_keepsAct 26 = .ok (.isub, 1) := by decide +kernel
theorem dX12_keepsAct_27 : decode cX12_keepsAct 27 = .ok (.aload_n 0, 1) := by decide +kernel
theorem dX12_keepsAct_28 : decode cX12_keepsAct 28 = .ok (.getfield 55, 3) := by decide +kernel
theorem dX12_keepsAct_31 : decode cX12_keepsAct 31 = .ok (.iload_n 1, 1) := by decide +kernel
theorem dX12_keepsAct_32 : decode cX12_keepsAct 32 = .ok (.iaload, 1) := by decide +kernel
theorem dX12_keepsAct_33 : decode cX12_keepsAct 33 = .ok (.iastore, 1) := by decide +kernel
theorem dX12_keepsAct_34 : decode cX12_keepsAct 34 = .ok (.iinc 1 1, 3) := by decide +kernel
theorem dX12_keepsAct_37 : decode cX12_keepsAct 37 = .ok (.goto (-25), 3) := by decide +kernel
theorem dX12_keepsAct_40 : decode cX12_keepsAct 40 = .ok (.aload_n 0, 1) := by decide +kernel
theorem dX12_keepsAct_41 : decode cX12_keepsAct 41 = .ok (.dup, 1) := by decide +kernel
theorem dX12_keepsAct_42 : decode cX12_keepsAct 42 = .ok (.getfield 276, 3) := by decide +kernel
theorem dX12_keepsAct_45 : decode cX12_keepsAct 45 = .ok (.iconst 1, 1) := by decide +kernel
theorem dX12_keepsAct_46 : decode cX12_keepsAct 46 = .ok (.isub, 1) := by decide +kernel
theorem dX12_keepsAct_47 : decode cX12_keepsAct 47 = .ok (.putfield 276, 3) := by decide +kernel
theorem dX12_keepsAct_50 : decode cX12_keepsAct 50 = .ok (.iconst 0, 1) := by decide +kernel
theorem dX12_keepsAct_51 : decode cX12_keepsAct 51 = .ok (.istore_n 1, 1) := by decide +kernel
theorem dX12_keepsAct_52 : decode cX12_keepsAct 52 = .ok (.iload_n 1, 1) := by decide +kernel
theorem dX12_keepsAct_53 : decode cX12_keepsAct 53 = .ok (.bipush 30, 2) := by decide +kernel
theorem dX12_keepsAct_55 : decode cX12_keepsAct 55 = .ok (.if_icmp .ge 32, 3) := by decide +kernel
theorem dX12_keepsAct_58 : decode cX12_keepsAct 58 = .ok (.aload_n 0, 1) := by decide +kernel
theorem dX12_keepsAct_59 : decode cX12_keepsAct 59 = .ok (.getfield 55, 3) := by decide +kernel
theorem dX12_keepsAct_62 : decode cX12_keepsAct 62 = .ok (.bipush 30, 2) := by decide +kernel
theorem dX12_keepsAct_64 : decode cX12_keepsAct 64 = .ok (.aload_n 0, 1) := by decide +kernel
theorem dX12_keepsAct_65 : decode cX12_keepsAct 65 = .ok (.getfield 276, 3) := by decide +kernel
theorem dX12_keepsAct_68 : decode cX12_keepsAct 68 = .ok (.imul, 1) := by decide +kernel
theorem dX12_keepsAct_69 : decode cX12_keepsAct 69 = .ok (.iload_n 1, 1) := by decide +kernel
theorem dX12_keepsAct_70 : decode cX12_keepsAct 70 = .ok (.iadd, 1) := by decide +kernel
theorem dX12_keepsAct_71 : decode cX12_keepsAct 71 = .ok (.aload_n 0, 1) := by decide +kernel
theorem dX12_keepsAct_72 : decode cX12_keepsAct 72 = .ok (.getfield 39, 3) := by decide +kernel
theorem dX12_keepsAct_75 : decode cX12_keepsAct 75 = .ok (.bipush 10, 2) := by decide +kernel
theorem dX12_keepsAct_77 : decode cX12_keepsAct 77 = .ok (.iload_n 1, 1) := by decide +kernel
theorem dX12_keepsAct_78 : decode cX12_keepsAct 78 = .ok (.iadd, 1) := by decide +kernel
theorem dX12_keepsAct_79 : decode cX12_keepsAct 79 = .ok (.iaload, 1) := by decide +kernel
theorem dX12_keepsAct_80 : decode cX12_keepsAct 80 = .ok (.iastore, 1) := by decide +kernel
theorem dX12_keepsAct_81 : decode cX12_keepsAct 81 = .ok (.iinc 1 1, 3) := by decide +kernel
theorem dX12_keepsAct_84 : decode cX12_keepsAct 84 = .ok (.goto (-32), 3) := by decide +kernel
theorem dX12_keepsAct_87 : decode cX12_keepsAct 87 = .ok (.aload_n 0, 1) := by decide +kernel
theorem dX12_keepsAct_88 : decode cX12_keepsAct 88 = .ok (.dup, 1) := by decide +kernel
theorem dX12_keepsAct_89 : decode cX12_keepsAct 89 = .ok (.getfield 276, 3) := by decide +kernel
theorem dX12_keepsAct_92 : decode cX12_keepsAct 92 = .ok (.iconst 1, 1) := by decide +kernel
theorem dX12_keepsAct_93 : decode cX12_keepsAct 93 = .ok (.iadd, 1) := by decide +kernel
theorem dX12_keepsAct_94 : decode cX12_keepsAct 94 = .ok (.putfield 276, 3) := by decide +kernel
theorem dX12_keepsAct_97 : decode cX12_keepsAct 97 = .ok (.return_, 1) := by decide +kernel
theorem dX12_laysBack_0 : decode cX12_laysBack 0 = .ok (.iconst 0, 1) := by decide +kernel
theorem dX12_laysBack_1 : decode cX12_laysBack 1 = .ok (.istore_n 1, 1) := by decide +kernel
theorem dX12_laysBack_2 : decode cX12_laysBack 2 = .ok (.iload_n 1, 1) := by decide +kernel
theorem dX12_laysBack_3 : decode cX12_laysBack 3 = .ok (.bipush 30, 2) := by decide +kernel
theorem dX12_laysBack_5 : decode cX12_laysBack 5 = .ok (.if_icmp .ge 24, 3) := by decide +kernel
theorem dX12_laysBack_8 : decode cX12_laysBack 8 = .ok (.aload_n 0, 1) := by decide +kernel
theorem dX12_laysBack_9 : decode cX12_laysBack 9 = .ok (.getfield 39, 3) := by decide +kernel
theorem dX12_laysBack_12 : decode cX12_laysBack 12 = .ok (.bipush 10, 2) := by decide +kernel
theorem dX12_laysBack_14 : decode cX12_laysBack 14 = .ok (.iload_n 1, 1) := by decide +kernel
theorem dX12_laysBack_15 : decode cX12_laysBack 15 = .ok (.iadd, 1) := by decide +kernel
theorem dX12_laysBack_16 : decode cX12_laysBack 16 = .ok (.aload_n 0, 1) := by decide +kernel
theorem dX12_laysBack_17 : decode cX12_laysBack 17 = .ok (.getfield 58, 3) := by decide +kernel
theorem dX12_laysBack_20 : decode cX12_laysBack 20 = .ok (.iload_n 1, 1) := by decide +kernel
theorem dX12_laysBack_21 : decode cX12_laysBack 21 = .ok (.iaload, 1) := by decide +kernel
theorem dX12_laysBack_22 : decode cX12_laysBack 22 = .ok (.iastore, 1) := by decide +kernel
theorem dX12_laysBack_23 : decode cX12_laysBack 23 = .ok (.iinc 1 1, 3) := by decide +kernel
theorem dX12_laysBack_26 : decode cX12_laysBack 26 = .ok (.goto (-24), 3) := by decide +kernel
theorem dX12_laysBack_29 : decode cX12_laysBack 29 = .ok (.return_, 1) := by decide +kernel
theorem dX12_passWord_0 : decode cX12_passWord 0 = .ok (.aload_n 0, 1) := by decide +kernel
theorem dX12_passWord_1 : decode cX12_passWord 1 = .ok (.aload_n 0, 1) := by decide +kernel
theorem dX12_passWord_2 : decode cX12_passWord 2 = .ok (.getfield 99, 3) := by decide +kernel
theorem dX12_passWord_5 : decode cX12_passWord 5 = .ok (.invokevirtual 106, 3) := by decide +kernel
theorem dX12_passWord_8 : decode cX12_passWord 8 = .ok (.ifCond .eq 16, 3) := by decide +kernel
theorem dX12_passWord_11 : decode cX12_passWord 11 = .ok (.aload_n 0, 1) := by decide +kernel
theorem dX12_passWord_12 : decode cX12_passWord 12 = .ok (.dup, 1) := by decide +kernel
theorem dX12_passWord_13 : decode cX12_passWord 13 = .ok (.getfield 99, 3) := by decide +kernel
theorem dX12_passWord_16 : decode cX12_passWord 16 = .ok (.iconst 1, 1) := by decide +kernel
theorem dX12_passWord_17 : decode cX12_passWord 17 = .ok (.iadd, 1) := by decide +kernel
theorem dX12_passWord_18 : decode cX12_passWord 18 = .ok (.putfield 99, 3) := by decide +kernel
theorem dX12_passWord_21 : decode cX12_passWord 21 = .ok (.goto (-21), 3) := by decide +kernel
theorem dX12_passWord_24 : decode cX12_passWord 24 = .ok (.return_, 1) := by decide +kernel
theorem dX12_readsAll_0 : decode cX12_readsAll 0 = .ok (.aload_n 0, 1) := by decide +kernel
theorem dX12_readsAll_1 : decode cX12_readsAll 1 = .ok (.getfield 17, 3) := by decide +kernel
theorem dX12_readsAll_4 : decode cX12_readsAll 4 = .ok (.aload_n 0, 1) := by decide +kernel
theorem dX12_readsAll_5 : decode cX12_readsAll 5 = .ok (.getfield 157, 3) := by decide +kernel
theorem dX12_readsAll_8 : decode cX12_readsAll 8 = .ok (.iconst 0, 1) := by decide +kernel
theorem dX12_readsAll_9 : decode cX12_readsAll 9 = .ok (.iastore, 1) := by decide +kernel
theorem dX12_readsAll_10 : decode cX12_readsAll 10 = .ok (.aload_n 0, 1) := by decide +kernel
theorem dX12_readsAll_11 : decode cX12_readsAll 11 = .ok (.iconst 0, 1) := by decide +kernel
theorem dX12_readsAll_12 : decode cX12_readsAll 12 = .ok (.putfield 255, 3) := by decide +kernel
theorem dX12_readsAll_15 : decode cX12_readsAll 15 = .ok (.aload_n 0, 1) := by decide +kernel
theorem dX12_readsAll_16 : decode cX12_readsAll 16 = .ok (.iconst 0, 1) := by decide +kernel
theorem dX12_readsAll_17 : decode cX12_readsAll 17 = .ok (.putfield 99, 3) := by decide +kernel
theorem dX12_readsAll_20 : decode cX12_readsAll 20 = .ok (.aload_n 0, 1) := by decide +kernel
theorem dX12_readsAll_21 : decode cX12_readsAll 21 = .ok (.iconst 0, 1) := by decide +kernel
theorem dX12_readsAll_22 : decode cX12_readsAll 22 = .ok (.putfield 96, 3) := by decide +kernel
theorem dX12_readsAll_25 : decode cX12_readsAll 25 = .ok (.aload_n 0, 1) := by decide +kernel
theorem dX12_readsAll_26 : decode cX12_readsAll 26 = .ok (.iconst 0, 1) := by decide +kernel
theorem dX12_readsAll_27 : decode cX12_readsAll 27 = .ok (.putfield 160, 3) := by decide +kernel
theorem dX12_readsAll_30 : decode cX12_readsAll 30 = .ok (.aload_n 0, 1) := by decide +kernel
theorem dX12_readsAll_31 : decode cX12_readsAll 31 = .ok (.invokevirtual 264, 3) := by decide +kernel
theorem dX12_readsAll_34 : decode cX12_readsAll 34 = .ok (.istore_n 1, 1) := by decide +kernel
theorem dX12_readsAll_35 : decode cX12_readsAll 35 = .ok (.iload_n 1, 1) := by decide +kernel
theorem dX12_readsAll_36 : decode cX12_readsAll 36 = .ok (.ifCond .eq 30, 3) := by decide +kernel
theorem dX12_readsAll_39 : decode cX12_readsAll 39 = .ok (.aload_n 0, 1) := by decide +kernel
theorem dX12_readsAll_40 : decode cX12_readsAll 40 = .ok (.invokevirtual 102, 3) := by decide +kernel
theorem dX12_readsAll_43 : decode cX12_readsAll 43 = .ok (.bipush 59, 2) := by decide +kernel
theorem dX12_readsAll_45 : decode cX12_readsAll 45 = .ok (.if_icmp .ne 21, 3) := by decide +kernel
theorem dX12_readsAll_48 : decode cX12_readsAll 48 = .ok (.aload_n 0, 1) := by decide +kernel
theorem dX12_readsAll_49 : decode cX12_readsAll 49 = .ok (.dup, 1) := by decide +kernel
theorem dX12_readsAll_50 : decode cX12_readsAll 50 = .ok (.getfield 99, 3) := by decide +kernel
theorem dX12_readsAll_53 : decode cX12_readsAll 53 = .ok (.iconst 1, 1) := by decide +kernel
theorem dX12_readsAll_54 : decode cX12_readsAll 54 = .ok (.iadd, 1) := by decide +kernel
theorem dX12_readsAll_55 : decode cX12_readsAll 55 = .ok (.putfield 99, 3) := by decide +kernel
theorem dX12_readsAll_58 : decode cX12_readsAll 58 = .ok (.aload_n 0, 1) := by decide +kernel
theorem dX12_readsAll_59 : decode cX12_readsAll 59 = .ok (.invokevirtual 264, 3) := by decide +kernel
theorem dX12_readsAll_62 : decode cX12_readsAll 62 = .ok (.istore_n 1, 1) := by decide +kernel
theorem dX12_readsAll_63 : decode cX12_readsAll 63 = .ok (.goto (-28), 3) := by decide +kernel
theorem dX12_readsAll_66 : decode cX12_readsAll 66 = .ok (.iload_n 1, 1) := by decide +kernel
theorem dX12_readsAll_67 : decode cX12_readsAll 67 = .ok (.ifCond .eq 21, 3) := by decide +kernel
theorem dX12_readsAll_70 : decode cX12_readsAll 70 = .ok (.aload_n 0, 1) := by decide +kernel
theorem dX12_readsAll_71 : decode cX12_readsAll 71 = .ok (.invokevirtual 102, 3) := by decide +kernel
theorem dX12_readsAll_74 : decode cX12_readsAll 74 = .ok (.iconst (-1), 1) := by decide +kernel
theorem dX12_readsAll_75 : decode cX12_readsAll 75 = .ok (.if_icmp .eq 13, 3) := by decide +kernel
theorem dX12_readsAll_78 : decode cX12_readsAll 78 = .ok (.aload_n 0, 1) := by decide +kernel
theorem dX12_readsAll_79 : decode cX12_readsAll 79 = .ok (.iconst 0, 1) := by decide +kernel
theorem dX12_readsAll_80 : decode cX12_readsAll 80 = .ok (.aload_n 0, 1) := by decide +kernel
theorem dX12_readsAll_81 : decode cX12_readsAll 81 = .ok (.getfield 99, 3) := by decide +kernel
theorem dX12_readsAll_84 : decode cX12_readsAll 84 = .ok (.invokevirtual 120, 3) := by decide +kernel
theorem dX12_readsAll_87 : decode cX12_readsAll 87 = .ok (.pop, 1) := by decide +kernel
theorem dX12_readsAll_88 : decode cX12_readsAll 88 = .ok (.aload_n 0, 1) := by decide +kernel
theorem dX12_readsAll_89 : decode cX12_readsAll 89 = .ok (.iconst 0, 1) := by decide +kernel
theorem dX12_readsAll_90 : decode cX12_readsAll 90 = .ok (.putfield 89, 3) := by decide +kernel
theorem dX12_readsAll_93 : decode cX12_readsAll 93 = .ok (.aload_n 0, 1) := by decide +kernel
theorem dX12_readsAll_94 : decode cX12_readsAll 94 = .ok (.getfield 96, 3) := by decide +kernel
theorem dX12_readsAll_97 : decode cX12_readsAll 97 = .ok (.ifCond .ne 7, 3) := by decide +kernel
theorem dX12_readsAll_100 : decode cX12_readsAll 100 = .ok (.iconst 1, 1) := by decide +kernel
theorem dX12_readsAll_101 : decode cX12_readsAll 101 = .ok (.goto 4, 3) := by decide +kernel
theorem dX12_readsAll_104 : decode cX12_readsAll 104 = .ok (.iconst 0, 1) := by decide +kernel
theorem dX12_readsAll_105 : decode cX12_readsAll 105 = .ok (.ireturn, 1) := by decide +kernel
theorem dX12_strength_0 : decode cX12_strength 0 = .ok (.iload_n 0, 1) := by decide +kernel
theorem dX12_strength_1 : decode cX12_strength 1 = .ok (.bipush 13, 2) := by decide +kernel
theorem dX12_strength_3 : decode cX12_strength 3 = .ok (.if_icmp .ne 7, 3) := by decide +kernel
theorem dX12_strength_6 : decode cX12_strength 6 = .ok (.iconst 1, 1) := by decide +kernel
theorem dX12_strength_7 : decode cX12_strength 7 = .ok (.goto 24, 3) := by decide +kernel
theorem dX12_strength_10 : decode cX12_strength 10 = .ok (.iload_n 0, 1) := by decide +kernel
theorem dX12_strength_11 : decode cX12_strength 11 = .ok (.bipush 12, 2) := by decide +kernel
theorem dX12_strength_13 : decode cX12_strength 13 = .ok (.if_icmp .ne 7, 3) := by decide +kernel
theorem dX12_strength_16 : decode cX12_strength 16 = .ok (.iconst 2, 1) := by decide +kernel
theorem dX12_strength_17 : decode cX12_strength 17 = .ok (.goto 14, 3) := by decide +kernel
theorem dX12_strength_20 : decode cX12_strength 20 = .ok (.iload_n 0, 1) := by decide +kernel
theorem dX12_strength_21 : decode cX12_strength 21 = .ok (.bipush 11, 2) := by decide +kernel
theorem dX12_strength_23 : decode cX12_strength 23 = .ok (.if_icmp .ne 7, 3) := by decide +kernel
theorem dX12_strength_26 : decode cX12_strength 26 = .ok (.iconst 3, 1) := by decide +kernel
theorem dX12_strength_27 : decode cX12_strength 27 = .ok (.goto 4, 3) := by decide +kernel
theorem dX12_strength_30 : decode cX12_strength 30 = .ok (.iconst 0, 1) := by decide +kernel
theorem dX12_strength_31 : decode cX12_strength 31 = .ok (.ireturn, 1) := by decide +kernel
theorem dX12_summedBy_0 : decode cX12_summedBy 0 = .ok (.iconst 0, 1) := by decide +kernel
theorem dX12_summedBy_1 : decode cX12_summedBy 1 = .ok (.istore_n 2, 1) := by decide +kernel
theorem dX12_summedBy_2 : decode cX12_summedBy 2 = .ok (.iload_n 2, 1) := by decide +kernel
theorem dX12_summedBy_3 : decode cX12_summedBy 3 = .ok (.aload_n 0, 1) := by decide +kernel
theorem dX12_summedBy_4 : decode cX12_summedBy 4 = .ok (.getfield 23, 3) := by decide +kernel
theorem dX12_summedBy_7 : decode cX12_summedBy 7 = .ok (.iload_n 1, 1) := by decide +kernel
theorem dX12_summedBy_8 : decode cX12_summedBy 8 = .ok (.iaload, 1) := by decide +kernel
theorem dX12_summedBy_9 : decode cX12_summedBy 9 = .ok (.if_icmp .ge 75, 3) := by decide +kernel
theorem dX12_summedBy_12 : decode cX12_summedBy 12 = .ok (.bipush 48, 2) := by decide +kernel
theorem dX12_summedBy_14 : decode cX12_summedBy 14 = .ok (.iload_n 1, 1) := by decide +kernel
theorem dX12_summedBy_15 : decode cX12_summedBy 15 = .ok (.imul, 1) := by decide +kernel
theorem dX12_summedBy_16 : decode cX12_summedBy 16 = .ok (.iconst 4, 1) := by decide +kernel
theorem dX12_summedBy_17 : decode cX12_summedBy 17 = .ok (.iload_n 2, 1) := by decide +kernel
theorem dX12_summedBy_18 : decode cX12_summedBy 18 = .ok (.imul, 1) := by decide +kernel
theorem dX12_summedBy_19 : decode cX12_summedBy 19 = .ok (.iadd, 1) := by decide +kernel
theorem dX12_summedBy_20 : decode cX12_summedBy 20 = .ok (.istore_n 3, 1) := by decide +kernel
theorem dX12_summedBy_21 : decode cX12_summedBy 21 = .ok (.aload_n 0, 1) := by decide +kernel
theorem dX12_summedBy_22 : decode cX12_summedBy 22 = .ok (.getfield 20, 3) := by decide +kernel
theorem dX12_summedBy_25 : decode cX12_summedBy 25 = .ok (.iload_n 3, 1) := by decide +kernel
theorem dX12_summedBy_26 : decode cX12_summedBy 26 = .ok (.iconst 2, 1) := by decide +kernel
theorem dX12_summedBy_27 : decode cX12_summedBy 27 = .ok (.iadd, 1) := by decide +kernel
theorem dX12_summedBy_28 : decode cX12_summedBy 28 = .ok (.iaload, 1) := by decide +kernel
theorem dX12_summedBy_29 : decode cX12_summedBy 29 = .ok (.ifCond .lt 29, 3) := by decide +kernel
theorem dX12_summedBy_32 : decode cX12_summedBy 32 = .ok (.aload_n 0, 1) := by decide +kernel
theorem dX12_summedBy_33 : decode cX12_summedBy 33 = .ok (.iload_n 1, 1) := by decide +kernel
theorem dX12_summedBy_34 : decode cX12_summedBy 34 = .ok (.aload_n 0, 1) := by decide +kernel
theorem dX12_summedBy_35 : decode cX12_summedBy 35 = .ok (.getfield 20, 3) := by decide +kernel
theorem dX12_summedBy_38 : decode cX12_summedBy 38 = .ok (.iload_n 3, 1) := by decide +kernel
theorem dX12_summedBy_39 : decode cX12_summedBy 39 = .ok (.iconst 2, 1) := by decide +kernel
theorem dX12_summedBy_40 : decode cX12_summedBy 40 = .ok (.iadd, 1) := by decide +kernel
theorem dX12_summedBy_41 : decode cX12_summedBy 41 = .ok (.iaload, 1) := by decide +kernel
theorem dX12_summedBy_42 : decode cX12_summedBy 42 = .ok (.aload_n 0, 1) := by decide +kernel
theorem dX12_summedBy_43 : decode cX12_summedBy 43 = .ok (.getfield 20, 3) := by decide +kernel
theorem dX12_summedBy_46 : decode cX12_summedBy 46 = .ok (.iload_n 3, 1) := by decide +kernel
theorem dX12_summedBy_47 : decode cX12_summedBy 47 = .ok (.iconst 3, 1) := by decide +kernel
theorem dX12_summedBy_48 : decode cX12_summedBy 48 = .ok (.iadd, 1) := by decide +kernel
theorem dX12_summedBy_49 : decode cX12_summedBy 49 = .ok (.iaload, 1) := by decide +kernel
theorem dX12_summedBy_50 : decode cX12_summedBy 50 = .ok (.invokevirtual 326, 3) := by decide +kernel
theorem dX12_summedBy_53 : decode cX12_summedBy 53 = .ok (.lconst 1, 1) := by decide +kernel
theorem dX12_summedBy_54 : decode cX12_summedBy 54 = .ok (.lcmp, 1) := by decide +kernel
theorem dX12_summedBy_55 : decode cX12_summedBy 55 = .ok (.ifCond .ne 23, 3) := by decide +kernel
theorem dX12_summedBy_58 : decode cX12_summedBy 58 = .ok (.aload_n 0, 1) := by decide +kernel
theorem dX12_summedBy_59 : decode cX12_summedBy 59 = .ok (.iload_n 1, 1) := by decide +kernel
theorem dX12_summedBy_60 : decode cX12_summedBy 60 = .ok (.aload_n 0, 1) := by decide +kernel
theorem dX12_summedBy_61 : decode cX12_summedBy 61 = .ok (.getfield 20, 3) := by decide +kernel
theorem dX12_summedBy_64 : decode cX12_summedBy 64 = .ok (.iload_n 3, 1) := by decide +kernel
theorem dX12_summedBy_65 : decode cX12_summedBy 65 = .ok (.iaload, 1) := by decide +kernel
theorem dX12_summedBy_66 : decode cX12_summedBy 66 = .ok (.aload_n 0, 1) := by decide +kernel
theorem dX12_summedBy_67 : decode cX12_summedBy 67 = .ok (.getfield 20, 3) := by decide +kernel
theorem dX12_summedBy_70 : decode cX12_summedBy 70 = .ok (.iload_n 3, 1) := by decide +kernel
theorem dX12_summedBy_71 : decode cX12_summedBy 71 = .ok (.iconst 1, 1) := by decide +kernel
theorem dX12_summedBy_72 : decode cX12_summedBy 72 = .ok (.iadd, 1) := by decide +kernel
theorem dX12_summedBy_73 : decode cX12_summedBy 73 = .ok (.iaload, 1) := by decide +kernel
theorem dX12_summedBy_74 : decode cX12_summedBy 74 = .ok (.invokevirtual 326, 3) := by decide +kernel
theorem dX12_summedBy_77 : decode cX12_summedBy 77 = .ok (.lreturn, 1) := by decide +kernel
theorem dX12_summedBy_78 : decode cX12_summedBy 78 = .ok (.iinc 2 1, 3) := by decide +kernel
theorem dX12_summedBy_81 : decode cX12_summedBy 81 = .ok (.goto (-79), 3) := by decide +kernel
theorem dX12_summedBy_84 : decode cX12_summedBy 84 = .ok (.lconst 0, 1) := by decide +kernel
theorem dX12_summedBy_85 : decode cX12_summedBy 85 = .ok (.lreturn, 1) := by decide +kernel
theorem dX12_wordHere_0 : decode cX12_wordHere 0 = .ok (.aload_n 0, 1) := by decide +kernel
theorem dX12_wordHere_1 : decode cX12_wordHere 1 = .ok (.ldc2_w 131, 3) := by decide +kernel
theorem dX12_wordHere_4 : decode cX12_wordHere 4 = .ok (.invokevirtual 110, 3) := by decide +kernel
theorem dX12_wordHere_7 : decode cX12_wordHere 7 = .ok (.ifCond .eq 5, 3) := by decide +kernel
theorem dX12_wordHere_10 : decode cX12_wordHere 10 = .ok (.iconst 0, 1) := by decide +kernel
theorem dX12_wordHere_11 : decode cX12_wordHere 11 = .ok (.ireturn, 1) := by decide +kernel
theorem dX12_wordHere_12 : decode cX12_wordHere 12 = .ok (.aload_n 0, 1) := by decide +kernel
theorem dX12_wordHere_13 : decode cX12_wordHere 13 = .ok (.ldc2_w 133, 3) := by decide +kernel
theorem dX12_wordHere_16 : decode cX12_wordHere 16 = .ok (.invokevirtual 110, 3) := by decide +kernel
theorem dX12_wordHere_19 : decode cX12_wordHere 19 = .ok (.ifCond .eq 5, 3) := by decide +kernel
theorem dX12_wordHere_22 : decode cX12_wordHere 22 = .ok (.iconst 1, 1) := by decide +kernel
theorem dX12_wordHere_23 : decode cX12_wordHere 23 = .ok (.ireturn, 1) := by decide +kernel
theorem dX12_wordHere_24 : decode cX12_wordHere 24 = .ok (.aload_n 0, 1) := by decide +kernel
theorem dX12_wordHere_25 : decode cX12_wordHere 25 = .ok (.ldc2_w 135, 3) := by decide +kernel
theorem dX12_wordHere_28 : decode cX12_wordHere 28 = .ok (.invokevirtual 110, 3) := by decide +kernel
theorem dX12_wordHere_31 : decode cX12_wordHere 31 = .ok (.ifCond .eq 5, 3) := by decide +kernel
theorem dX12_wordHere_34 : decode cX12_wordHere 34 = .ok (.iconst 2, 1) := by decide +kernel
theorem dX12_wordHere_35 : decode cX12_wordHere 35 = .ok (.ireturn, 1) := by decide +kernel
theorem dX12_wordHere_36 : decode cX12_wordHere 36 = .ok (.aload_n 0, 1) := by decide +kernel
theorem dX12_wordHere_37 : decode cX12_wordHere 37 = .ok (.ldc2_w 137, 3) := by decide +kernel
theorem dX12_wordHere_40 : decode cX12_wordHere 40 = .ok (.invokevirtual 110, 3) := by decide +kernel
theorem dX12_wordHere_43 : decode cX12_wordHere 43 = .ok (.ifCond .eq 5, 3) := by decide +kernel
theorem dX12_wordHere_46 : decode cX12_wordHere 46 = .ok (.iconst 3, 1) := by decide +kernel
theorem dX12_wordHere_47 : decode cX12_wordHere 47 = .ok (.ireturn, 1) := by decide +kernel
theorem dX12_wordHere_48 : decode cX12_wordHere 48 = .ok (.aload_n 0, 1) := by decide +kernel
theorem dX12_wordHere_49 : decode cX12_wordHere 49 = .ok (.ldc2_w 139, 3) := by decide +kernel
theorem dX12_wordHere_52 : decode cX12_wordHere 52 = .ok (.invokevirtual 110, 3) := by decide +kernel
theorem dX12_wordHere_55 : decode cX12_wordHere 55 = .ok (.ifCond .eq 5, 3) := by decide +kernel
theorem dX12_wordHere_58 : decode cX12_wordHere 58 = .ok (.iconst 4, 1) := by decide +kernel
theorem dX12_wordHere_59 : decode cX12_wordHere 59 = .ok (.ireturn, 1) := by decide +kernel
theorem dX12_wordHere_60 : decode cX12_wordHere 60 = .ok (.aload_n 0, 1) := by decide +kernel
theorem dX12_wordHere_61 : decode cX12_wordHere 61 = .ok (.ldc2_w 141, 3) := by decide +kernel
theorem dX12_wordHere_64 : decode cX12_wordHere 64 = .ok (.invokevirtual 110, 3) := by decide +kernel
theorem dX12_wordHere_67 : decode cX12_wordHere 67 = .ok (.ifCond .eq 5, 3) := by decide +kernel
theorem dX12_wordHere_70 : decode cX12_wordHere 70 = .ok (.iconst 5, 1) := by decide +kernel
theorem dX12_wordHere_71 : decode cX12_wordHere 71 = .ok (.ireturn, 1) := by decide +kernel
theorem dX12_wordHere_72 : decode cX12_wordHere 72 = .ok (.aload_n 0, 1) := by decide +kernel
theorem dX12_wordHere_73 : decode cX12_wordHere 73 = .ok (.ldc2_w 143, 3) := by decide +kernel
theorem dX12_wordHere_76 : decode cX12_wordHere 76 = .ok (.invokevirtual 110, 3) := by decide +kernel
theorem dX12_wordHere_79 : decode cX12_wordHere 79 = .ok (.ifCond .eq 6, 3) := by decide +kernel
theorem dX12_wordHere_82 : decode cX12_wordHere 82 = .ok (.bipush 6, 2) := by decide +kernel
theorem dX12_wordHere_84 : decode cX12_wordHere 84 = .ok (.ireturn, 1) := by decide +kernel
theorem dX12_wordHere_85 : decode cX12_wordHere 85 = .ok (.aload_n 0, 1) := by decide +kernel
theorem dX12_wordHere_86 : decode cX12_wordHere 86 = .ok (.ldc2_w 145, 3) := by decide +kernel
theorem dX12_wordHere_89 : decode cX12_wordHere 89 = .ok (.invokevirtual 110, 3) := by decide +kernel
theorem dX12_wordHere_92 : decode cX12_wordHere 92 = .ok (.ifCond .eq 6, 3) := by decide +kernel
theorem dX12_wordHere_95 : decode cX12_wordHere 95 = .ok (.bipush 7, 2) := by decide +kernel
theorem dX12_wordHere_97 : decode cX12_wordHere 97 = .ok (.ireturn, 1) := by decide +kernel
theorem dX12_wordHere_98 : decode cX12_wordHere 98 = .ok (.aload_n 0, 1) := by decide +kernel
theorem dX12_wordHere_99 : decode cX12_wordHere 99 = .ok (.ldc2_w 147, 3) := by decide +kernel
theorem dX12_wordHere_102 : decode cX12_wordHere 102 = .ok (.invokevirtual 110, 3) := by decide +kernel
theorem dX12_wordHere_105 : decode cX12_wordHere 105 = .ok (.ifCond .eq 6, 3) := by decide +kernel
theorem dX12_wordHere_108 : decode cX12_wordHere 108 = .ok (.bipush 8, 2) := by decide +kernel
theorem dX12_wordHere_110 : decode cX12_wordHere 110 = .ok (.ireturn, 1) := by decide +kernel
theorem dX12_wordHere_111 : decode cX12_wordHere 111 = .ok (.aload_n 0, 1) := by decide +kernel
theorem dX12_wordHere_112 : decode cX12_wordHere 112 = .ok (.ldc2_w 149, 3) := by decide +kernel
theorem dX12_wordHere_115 : decode cX12_wordHere 115 = .ok (.invokevirtual 110, 3) := by decide +kernel
theorem dX12_wordHere_118 : decode cX12_wordHere 118 = .ok (.ifCond .eq 6, 3) := by decide +kernel
theorem dX12_wordHere_121 : decode cX12_wordHere 121 = .ok (.bipush 9, 2) := by decide +kernel
theorem dX12_wordHere_123 : decode cX12_wordHere 123 = .ok (.ireturn, 1) := by decide +kernel
theorem dX12_wordHere_124 : decode cX12_wordHere 124 = .ok (.aload_n 0, 1) := by decide +kernel
theorem dX12_wordHere_125 : decode cX12_wordHere 125 = .ok (.ldc2_w 151, 3) := by decide +kernel
theorem dX12_wordHere_128 : decode cX12_wordHere 128 = .ok (.invokevirtual 110, 3) := by decide +kernel
theorem dX12_wordHere_131 : decode cX12_wordHere 131 = .ok (.ifCond .eq 6, 3) := by decide +kernel
theorem dX12_wordHere_134 : decode cX12_wordHere 134 = .ok (.bipush 10, 2) := by decide +kernel
theorem dX12_wordHere_136 : decode cX12_wordHere 136 = .ok (.ireturn, 1) := by decide +kernel
theorem dX12_wordHere_137 : decode cX12_wordHere 137 = .ok (.aload_n 0, 1) := by decide +kernel
theorem dX12_wordHere_138 : decode cX12_wordHere 138 = .ok (.ldc2_w 153, 3) := by decide +kernel
theorem dX12_wordHere_141 : decode cX12_wordHere 141 = .ok (.invokevirtual 110, 3) := by decide +kernel
theorem dX12_wordHere_144 : decode cX12_wordHere 144 = .ok (.ifCond .eq 8, 3) := by decide +kernel
theorem dX12_wordHere_147 : decode cX12_wordHere 147 = .ok (.bipush 11, 2) := by decide +kernel
theorem dX12_wordHere_149 : decode cX12_wordHere 149 = .ok (.goto 19, 3) := by decide +kernel
theorem dX12_wordHere_152 : decode cX12_wordHere 152 = .ok (.aload_n 0, 1) := by decide +kernel
theorem dX12_wordHere_153 : decode cX12_wordHere 153 = .ok (.ldc2_w 155, 3) := by decide +kernel
theorem dX12_wordHere_156 : decode cX12_wordHere 156 = .ok (.invokevirtual 110, 3) := by decide +kernel
theorem dX12_wordHere_159 : decode cX12_wordHere 159 = .ok (.ifCond .eq 8, 3) := by decide +kernel
theorem dX12_wordHere_162 : decode cX12_wordHere 162 = .ok (.bipush 12, 2) := by decide +kernel
theorem dX12_wordHere_164 : decode cX12_wordHere 164 = .ok (.goto 4, 3) := by decide +kernel
theorem dX12_wordHere_167 : decode cX12_wordHere 167 = .ok (.iconst (-1), 1) := by decide +kernel
theorem dX12_wordHere_168 : decode cX12_wordHere 168 = .ok (.ireturn, 1) := by decide +kernel
theorem dX1_hasArcher_0 : decode cX1_hasArcher 0 = .ok (.iload_n 1, 1) := by decide +kernel
theorem dX1_hasArcher_1 : decode cX1_hasArcher 1 = .ok (.iconst 0, 1) := by decide +kernel
theorem dX1_hasArcher_2 : decode cX1_hasArcher 2 = .ok (.aload_n 0, 1) := by decide +kernel
theorem dX1_hasArcher_3 : decode cX1_hasArcher 3 = .ok (.getfield 11, 3) := by decide +kernel
theorem dX1_hasArcher_6 : decode cX1_hasArcher 6 = .ok (.iconst 4, 1) := by decide +kernel
theorem dX1_hasArcher_7 : decode cX1_hasArcher 7 = .ok (.iaload, 1) := by decide +kernel
theorem dX1_hasArcher_8 : decode cX1_hasArcher 8 = .ok (.iconst 1, 1) := by decide +kernel
theorem dX1_hasArcher_9 : decode cX1_hasArcher 9 = .ok (.isub, 1) := by decide +kernel
theorem dX1_hasArcher_10 : decode cX1_hasArcher 10 = .ok (.invokestatic 27, 3) := by decide +kernel
theorem dX1_hasArcher_13 : decode cX1_hasArcher 13 = .ok (.ireturn, 1) := by decide +kernel
theorem dX2_findPlace_0 : decode cX2_findPlace 0 = .ok (.aload_n 0, 1) := by decide +kernel
theorem dX2_findPlace_1 : decode cX2_findPlace 1 = .ok (.aload_n 2, 1) := by decide +kernel
theorem dX2_findPlace_2 : decode cX2_findPlace 2 = .ok (.getfield 34, 3) := by decide +kernel
theorem dX2_findPlace_5 : decode cX2_findPlace 5 = .ok (.bipush 20, 2) := by decide +kernel
theorem dX2_findPlace_7 : decode cX2_findPlace 7 = .ok (.iload 4, 2) := by decide +kernel
theorem dX2_findPlace_9 : decode cX2_findPlace 9 = .ok (.iadd, 1) := by decide +kernel
theorem dX2_findPlace_10 : decode cX2_findPlace 10 = .ok (.iaload, 1) := by decide +kernel
theorem dX2_findPlace_11 : decode cX2_findPlace 11 = .ok (.putfield 9, 3) := by decide +kernel
theorem dX2_findPlace_14 : decode cX2_findPlace 14 = .ok (.aload_n 1, 1) := by decide +kernel
theorem dX2_findPlace_15 : decode cX2_findPlace 15 = .ok (.aload_n 2, 1) := by decide +kernel
theorem dX2_findPlace_16 : decode cX2_findPlace 16 = .ok (.aload_n 3, 1) := by decide +kernel
theorem dX2_findPlace_17 : decode cX2_findPlace 17 = .ok (.invokevirtual 60, 3) := by decide +kernel
theorem dX2_findPlace_20 : decode cX2_findPlace 20 = .ok (.aload_n 1, 1) := by decide +kernel
theorem dX2_findPlace_21 : decode cX2_findPlace 21 = .ok (.iload 5, 2) := by decide +kernel
theorem dX2_findPlace_23 : decode cX2_findPlace 23 = .ok (.invokevirtual 64, 3) := by decide +kernel
theorem dX2_findPlace_26 : decode cX2_findPlace 26 = .ok (.aload_n 0, 1) := by decide +kernel
theorem dX2_findPlace_27 : decode cX2_findPlace 27 = .ok (.aload_n 0, 1) := by decide +kernel
theorem dX2_findPlace_28 : decode cX2_findPlace 28 = .ok (.aload_n 2, 1) := by decide +kernel
theorem dX2_findPlace_29 : decode cX2_findPlace 29 = .ok (.aload_n 1, 1) := by decide +kernel
theorem dX2_findPlace_30 : decode cX2_findPlace 30 = .ok (.getfield 28, 3) := by decide +kernel
theorem dX2_findPlace_33 : decode cX2_findPlace 33 = .ok (.invokevirtual 68, 3) := by decide +kernel
theorem dX2_findPlace_36 : decode cX2_findPlace 36 = .ok (.putfield 15, 3) := by decide +kernel
theorem dX2_findPlace_39 : decode cX2_findPlace 39 = .ok (.iconst 0, 1) := by decide +kernel
theorem dX2_findPlace_40 : decode cX2_findPlace 40 = .ok (.istore 6, 2) := by decide +kernel
theorem dX2_findPlace_42 : decode cX2_findPlace 42 = .ok (.iload 6, 2) := by decide +kernel
theorem dX2_findPlace_44 : decode cX2_findPlace 44 = .ok (.aload_n 2, 1) := by decide +kernel
theorem dX2_findPlace_45 : decode cX2_findPlace 45 = .ok (.getfield 34, 3) := by decide +kernel
theorem dX2_findPlace_48 : decode cX2_findPlace 48 = .ok (.iconst 0, 1) := by decide +kernel
theorem dX2_findPlace_49 : decode cX2_findPlace 49 = .ok (.iaload, 1) := by decide +kernel
theorem dX2_findPlace_50 : decode cX2_findPlace 50 = .ok (.if_icmp .ge 61, 3) := by decide +kernel
theorem dX2_findPlace_53 : decode cX2_findPlace 53 = .ok (.aload_n 2, 1) := by decide +kernel
theorem dX2_findPlace_54 : decode cX2_findPlace 54 = .ok (.iload 6, 2) := by decide +kernel
theorem dX2_findPlace_56 : decode cX2_findPlace 56 = .ok (.invokevirtual 72, 3) := by decide +kernel
theorem dX2_findPlace_59 : decode cX2_findPlace 59 = .ok (.iconst (-1), 1) := by decide +kernel
theorem dX2_findPlace_60 : decode cX2_findPlace 60 = .ok (.if_icmp .ne 45, 3) := by decide +kernel
theorem dX2_findPlace_63 : decode cX2_findPlace 63 = .ok (.aload_n 1, 1) := by decide +kernel
theorem dX2_findPlace_64 : decode cX2_findPlace 64 = .ok (.aload_n 2, 1) := by decide +kernel
theorem dX2_findPlace_65 : decode cX2_findPlace 65 = .ok (.aload_n 3, 1) := by decide +kernel
theorem dX2_findPlace_66 : decode cX2_findPlace 66 = .ok (.invokevirtual 60, 3) := by decide +kernel
theorem dX2_findPlace_69 : decode cX2_findPlace 69 = .ok (.aload_n 1, 1) := by decide +kernel
theorem dX2_findPlace_70 : decode cX2_findPlace 70 = .ok (.getfield 28, 3) := by decide +kernel
theorem dX2_findPlace_73 : decode cX2_findPlace 73 = .ok (.getfield 34, 3) := by decide +kernel
theorem dX2_findPlace_76 : decode cX2_findPlace 76 = .ok (.bipush 20, 2) := by decide +kernel
theorem dX2_findPlace_78 : decode cX2_findPlace 78 = .ok (.iload 4, 2) := by decide +kernel
theorem dX2_findPlace_80 : decode cX2_findPlace 80 = .ok (.iadd, 1) := by decide +kernel
theorem dX2_findPlace_81 : decode cX2_findPlace 81 = .ok (.iload 6, 2) := by decide +kernel
theorem dX2_findPlace_83 : decode cX2_findPlace 83 = .ok (.iastore, 1) := by decide +kernel
theorem dX2_findPlace_84 : decode cX2_findPlace 84 = .ok (.aload_n 1, 1) := by decide +kernel
theorem dX2_findPlace_85 : decode cX2_findPlace 85 = .ok (.iload 5, 2) := by decide +kernel
theorem dX2_findPlace_87 : decode cX2_findPlace 87 = .ok (.invokevirtual 64, 3) := by decide +kernel
theorem dX2_findPlace_90 : decode cX2_findPlace 90 = .ok (.aload_n 0, 1) := by decide +kernel
theorem dX2_findPlace_91 : decode cX2_findPlace 91 = .ok (.iload 6, 2) := by decide +kernel
theorem dX2_findPlace_93 : decode cX2_findPlace 93 = .ok (.aload_n 0, 1) := by decide +kernel
theorem dX2_findPlace_94 : decode cX2_findPlace 94 = .ok (.aload_n 2, 1) := by decide +kernel
theorem dX2_findPlace_95 : decode cX2_findPlace 95 = .ok (.aload_n 1, 1) := by decide +kernel
theorem dX2_findPlace_96 : decode cX2_findPlace 96 = .ok (.getfield 28, 3) := by decide +kernel
theorem dX2_findPlace_99 : decode cX2_findPlace 99 = .ok (.invokevirtual 68, 3) := by decide +kernel
theorem dX2_findPlace_102 : decode cX2_findPlace 102 = .ok (.invokevirtual 76, 3) := by decide +kernel
theorem dX2_findPlace_105 : decode cX2_findPlace 105 = .ok (.iinc 6 1, 3) := by decide +kernel
theorem dX2_findPlace_108 : decode cX2_findPlace 108 = .ok (.goto (-66), 3) := by decide +kernel
theorem dX2_findPlace_111 : decode cX2_findPlace 111 = .ok (.return_, 1) := by decide +kernel
theorem dX2_firstWell_0 : decode cX2_firstWell 0 = .ok (.iconst 0, 1) := by decide +kernel
theorem dX2_firstWell_1 : decode cX2_firstWell 1 = .ok (.istore 4, 2) := by decide +kernel
theorem dX2_firstWell_3 : decode cX2_firstWell 3 = .ok (.iload 4, 2) := by decide +kernel
theorem dX2_firstWell_5 : decode cX2_firstWell 5 = .ok (.sipush 200, 3) := by decide +kernel
theorem dX2_firstWell_8 : decode cX2_firstWell 8 = .ok (.if_icmp .ge 50, 3) := by decide +kernel
theorem dX2_firstWell_11 : decode cX2_firstWell 11 = .ok (.aload_n 1, 1) := by decide +kernel
theorem dX2_firstWell_12 : decode cX2_firstWell 12 = .ok (.getfield 28, 3) := by decide +kernel
theorem dX2_firstWell_15 : decode cX2_firstWell 15 = .ok (.getfield 34, 3) := by decide +kernel
theorem dX2_firstWell_18 : decode cX2_firstWell 18 = .ok (.iconst 5, 1) := by decide +kernel
theorem dX2_firstWell_19 : decode cX2_firstWell 19 = .ok (.iaload, 1) := by decide +kernel
theorem dX2_firstWell_20 : decode cX2_firstWell 20 = .ok (.istore 5, 2) := by decide +kernel
theorem dX2_firstWell_22 : decode cX2_firstWell 22 = .ok (.aload_n 1, 1) := by decide +kernel
theorem dX2_firstWell_23 : decode cX2_firstWell 23 = .ok (.invokevirtual 39, 3) := by decide +kernel
theorem dX2_firstWell_26 : decode cX2_firstWell 26 = .ok (.pop, 1) := by decide +kernel
theorem dX2_firstWell_27 : decode cX2_firstWell 27 = .ok (.aload_n 1, 1) := by decide +kernel
theorem dX2_firstWell_28 : decode cX2_firstWell 28 = .ok (.getfield 28, 3) := by decide +kernel
theorem dX2_firstWell_31 : decode cX2_firstWell 31 = .ok (.iload_n 2, 1) := by decide +kernel
theorem dX2_firstWell_32 : decode cX2_firstWell 32 = .ok (.iload_n 3, 1) := by decide +kernel
theorem dX2_firstWell_33 : decode cX2_firstWell 33 = .ok (.invokestatic 43, 3) := by decide +kernel
theorem dX2_firstWell_36 : decode cX2_firstWell 36 = .ok (.ifCond .eq 6, 3) := by decide +kernel
theorem dX2_firstWell_39 : decode cX2_firstWell 39 = .ok (.iload 5, 2) := by decide +kernel
theorem dX2_firstWell_41 : decode cX2_firstWell 41 = .ok (.ireturn, 1) := by decide +kernel
theorem dX2_firstWell_42 : decode cX2_firstWell 42 = .ok (.aload_n 1, 1) := by decide +kernel
theorem dX2_firstWell_43 : decode cX2_firstWell 43 = .ok (.getfield 47, 3) := by decide +kernel
theorem dX2_firstWell_46 : decode cX2_firstWell 46 = .ok (.ifCond .eq 6, 3) := by decide +kernel
theorem dX2_firstWell_49 : decode cX2_firstWell 49 = .ok (.bipush (-2), 2) := by decide +kernel
theorem dX2_firstWell_51 : decode cX2_firstWell 51 = .ok (.ireturn, 1) := by decide +kernel
theorem dX2_firstWell_52 : decode cX2_firstWell 52 = .ok (.iinc 4 1, 3) := by decide +kernel
theorem dX2_firstWell_55 : decode cX2_firstWell 55 = .ok (.goto (-52), 3) := by decide +kernel
theorem dX2_firstWell_58 : decode cX2_firstWell 58 = .ok (.bipush (-2), 2) := by decide +kernel
theorem dX2_firstWell_60 : decode cX2_firstWell 60 = .ok (.ireturn, 1) := by decide +kernel
theorem dX5_lastRound_0 : decode cX5_lastRound 0 = .ok (.iconst (-1), 1) := by decide +kernel
theorem dX5_lastRound_1 : decode cX5_lastRound 1 = .ok (.istore_n 1, 1) := by decide +kernel
theorem dX5_lastRound_2 : decode cX5_lastRound 2 = .ok (.iconst 0, 1) := by decide +kernel
theorem dX5_lastRound_3 : decode cX5_lastRound 3 = .ok (.istore_n 2, 1) := by decide +kernel
theorem dX5_lastRound_4 : decode cX5_lastRound 4 = .ok (.iload_n 2, 1) := by decide +kernel
theorem dX5_lastRound_5 : decode cX5_lastRound 5 = .ok (.aload_n 0, 1) := by decide +kernel
theorem dX5_lastRound_6 : decode cX5_lastRound 6 = .ok (.getfield 21, 3) := by decide +kernel
theorem dX5_lastRound_9 : decode cX5_lastRound 9 = .ok (.if_icmp .ge 20, 3) := by decide +kernel
theorem dX5_lastRound_12 : decode cX5_lastRound 12 = .ok (.iload_n 1, 1) := by decide +kernel
theorem dX5_lastRound_13 : decode cX5_lastRound 13 = .ok (.aload_n 0, 1) := by decide +kernel
theorem dX5_lastRound_14 : decode cX5_lastRound 14 = .ok (.getfield 11, 3) := by decide +kernel
theorem dX5_lastRound_17 : decode cX5_lastRound 17 = .ok (.iload_n 2, 1) := by decide +kernel
theorem dX5_lastRound_18 : decode cX5_lastRound 18 = .ok (.iaload, 1) := by decide +kernel
theorem dX5_lastRound_19 : decode cX5_lastRound 19 = .ok (.invokestatic 35, 3) := by decide +kernel
theorem dX5_lastRound_22 : decode cX5_lastRound 22 = .ok (.istore_n 1, 1) := by decide +kernel
theorem dX5_lastRound_23 : decode cX5_lastRound 23 = .ok (.iinc 2 1, 3) := by decide +kernel
theorem dX5_lastRound_26 : decode cX5_lastRound 26 = .ok (.goto (-22), 3) := by decide +kernel
theorem dX5_lastRound_29 : decode cX5_lastRound 29 = .ok (.iload_n 1, 1) := by decide +kernel
theorem dX5_lastRound_30 : decode cX5_lastRound 30 = .ok (.ireturn, 1) := by decide +kernel
theorem dX6_playRound_0 : decode cX6_playRound 0 = .ok (.aload_n 0, 1) := by decide +kernel
theorem dX6_playRound_1 : decode cX6_playRound 1 = .ok (.getfield 12, 3) := by decide +kernel
theorem dX6_playRound_4 : decode cX6_playRound 4 = .ok (.getfield 56, 3) := by decide +kernel
theorem dX6_playRound_7 : decode cX6_playRound 7 = .ok (.astore_n 1, 1) := by decide +kernel
theorem dX6_playRound_8 : decode cX6_playRound 8 = .ok (.iconst 0, 1) := by decide +kernel
theorem dX6_playRound_9 : decode cX6_playRound 9 = .ok (.istore_n 2, 1) := by decide +kernel
theorem dX6_playRound_10 : decode cX6_playRound 10 = .ok (.aload_n 1, 1) := by decide +kernel
theorem dX6_playRound_11 : decode cX6_playRound 11 = .ok (.bipush 6, 2) := by decide +kernel
theorem dX6_playRound_13 : decode cX6_playRound 13 = .ok (.iaload, 1) := by decide +kernel
theorem dX6_playRound_14 : decode cX6_playRound 14 = .ok (.istore_n 3, 1) := by decide +kernel
theorem dX6_playRound_15 : decode cX6_playRound 15 = .ok (.iconst 0, 1) := by decide +kernel
theorem dX6_playRound_16 : decode cX6_playRound 16 = .ok (.istore 4, 2) := by decide +kernel
theorem dX6_playRound_18 : decode cX6_playRound 18 = .ok (.iload 4, 2) := by decide +kernel
theorem dX6_playRound_20 : decode cX6_playRound 20 = .ok (.aload_n 1, 1) := by decide +kernel
theorem dX6_playRound_21 : decode cX6_playRound 21 = .ok (.iconst 4, 1) := by decide +kernel
theorem dX6_playRound_22 : decode cX6_playRound 22 = .ok (.iaload, 1) := by decide +kernel
theorem dX6_playRound_23 : decode cX6_playRound 23 = .ok (.if_icmp .ge 66, 3) := by decide +kernel
theorem dX6_playRound_26 : decode cX6_playRound 26 = .ok (.aload_n 0, 1) := by decide +kernel
theorem dX6_playRound_27 : decode cX6_playRound 27 = .ok (.getfield 18, 3) := by decide +kernel
theorem dX6_playRound_30 : decode cX6_playRound 30 = .ok (.iload 4, 2) := by decide +kernel
theorem dX6_playRound_32 : decode cX6_playRound 32 = .ok (.aload_n 1, 1) := by decide +kernel
theorem dX6_playRound_33 : decode cX6_playRound 33 = .ok (.bipush 58, 2) := by decide +kernel
theorem dX6_playRound_35 : decode cX6_playRound 35 = .ok (.iload 4, 2) := by decide +kernel
theorem dX6_playRound_37 : decode cX6_playRound 37 = .ok (.iadd, 1) := by decide +kernel
theorem dX6_playRound_38 : decode cX6_playRound 38 = .ok (.iaload, 1) := by decide +kernel
theorem dX6_playRound_39 : decode cX6_playRound 39 = .ok (.ifCond .le 12, 3) := by decide +kernel
theorem dX6_playRound_42 : decode cX6_playRound 42 = .ok (.aload_n 0, 1) := by decide +kernel
theorem dX6_playRound_43 : decode cX6_playRound 43 = .ok (.iload 4, 2) := by decide +kernel
theorem dX6_playRound_45 : decode cX6_playRound 45 = .ok (.invokevirtual 59, 3) := by decide +kernel
theorem dX6_playRound_48 : decode cX6_playRound 48 = .ok (.goto 5, 3) := by decide +kernel
theorem dX6_playRound_51 : decode cX6_playRound 51 = .ok (.bipush 99, 2) := by decide +kernel
theorem dX6_playRound_53 : decode cX6_playRound 53 = .ok (.iastore, 1) := by decide +kernel
theorem dX6_playRound_54 : decode cX6_playRound 54 = .ok (.aload_n 0, 1) := by decide +kernel
theorem dX6_playRound_55 : decode cX6_playRound 55 = .ok (.getfield 18, 3) := by decide +kernel
theorem dX6_playRound_58 : decode cX6_playRound 58 = .ok (.iload 4, 2) := by decide +kernel
theorem dX6_playRound_60 : decode cX6_playRound 60 = .ok (.iaload, 1) := by decide +kernel
theorem dX6_playRound_61 : decode cX6_playRound 61 = .ok (.aload_n 1, 1) := by decide +kernel
theorem dX6_playRound_62 : decode cX6_playRound 62 = .ok (.bipush 20, 2) := by decide +kernel
theorem dX6_playRound_64 : decode cX6_playRound 64 = .ok (.aload_n 1, 1) := by decide +kernel
theorem dX6_playRound_65 : decode cX6_playRound 65 = .ok (.bipush 38, 2) := by decide +kernel
theorem dX6_playRound_67 : decode cX6_playRound 67 = .ok (.iload 4, 2) := by decide +kernel
theorem dX6_playRound_69 : decode cX6_playRound 69 = .ok (.iadd, 1) := by decide +kernel
theorem dX6_playRound_70 : decode cX6_playRound 70 = .ok (.iaload, 1) := by decide +kernel
theorem dX6_playRound_71 : decode cX6_playRound 71 = .ok (.iadd, 1) := by decide +kernel
theorem dX6_playRound_72 : decode cX6_playRound 72 = .ok (.iaload, 1) := by decide +kernel
theorem dX6_playRound_73 : decode cX6_playRound 73 = .ok (.if_icmp .ne 10, 3) := by decide +kernel
theorem dX6_playRound_76 : decode cX6_playRound 76 = .ok (.iload_n 2, 1) := by decide +kernel
theorem dX6_playRound_77 : decode cX6_playRound 77 = .ok (.iconst 1, 1) := by decide +kernel
theorem dX6_playRound_78 : decode cX6_playRound 78 = .ok (.iload 4, 2) := by decide +kernel
theorem dX6_playRound_80 : decode cX6_playRound 80 = .ok (.ishl, 1) := by decide +kernel
theorem dX6_playRound_81 : decode cX6_playRound 81 = .ok (.ior, 1) := by decide +kernel
theorem dX6_playRound_82 : decode cX6_playRound 82 = .ok (.istore_n 2, 1) := by decide +kernel
theorem dX6_playRound_83 : decode cX6_playRound 83 = .ok (.iinc 4 1, 3) := by decide +kernel
theorem dX6_playRound_86 : decode cX6_playRound 86 = .ok (.goto (-68), 3) := by decide +kernel
theorem dX6_playRound_89 : decode cX6_playRound 89 = .ok (.aload_n 1, 1) := by decide +kernel
theorem dX6_playRound_90 : decode cX6_playRound 90 = .ok (.iconst 5, 1) := by decide +kernel
theorem dX6_playRound_91 : decode cX6_playRound 91 = .ok (.dup2, 1) := by decide +kernel
theorem dX6_playRound_92 : decode cX6_playRound 92 = .ok (.iaload, 1) := by decide +kernel
theorem dX6_playRound_93 : decode cX6_playRound 93 = .ok (.iconst 1, 1) := by decide +kernel
theorem dX6_playRound_94 : decode cX6_playRound 94 = .ok (.iadd, 1) := by decide +kernel
theorem dX6_playRound_95 : decode cX6_playRound 95 = .ok (.iastore, 1) := by decide +kernel
theorem dX6_playRound_96 : decode cX6_playRound 96 = .ok (.aload_n 0, 1) := by decide +kernel
theorem dX6_playRound_97 : decode cX6_playRound 97 = .ok (.getfield 25, 3) := by decide +kernel
theorem dX6_playRound_100 : decode cX6_playRound 100 = .ok (.iconst (-1), 1) := by decide +kernel
theorem dX6_playRound_101 : decode cX6_playRound 101 = .ok (.if_icmp .ne 20, 3) := by decide +kernel
theorem dX6_playRound_104 : decode cX6_playRound 104 = .ok (.aload_n 0, 1) := by decide +kernel
theorem dX6_playRound_105 : decode cX6_playRound 105 = .ok (.getfield 33, 3) := by decide +kernel
theorem dX6_playRound_108 : decode cX6_playRound 108 = .ok (.ifnull 17, 3) := by decide +kernel
theorem dX6_playRound_111 : decode cX6_playRound 111 = .ok (.aload_n 0, 1) := by decide +kernel
theorem dX6_playRound_112 : decode cX6_playRound 112 = .ok (.getfield 33, 3) := by decide +kernel
theorem dX6_playRound_115 : decode cX6_playRound 115 = .ok (.getfield 63, 3) := by decide +kernel
theorem dX6_playRound_118 : decode cX6_playRound 118 = .ok (.ifCond .eq 7, 3) := by decide +kernel
theorem dX6_playRound_121 : decode cX6_playRound 121 = .ok (.iconst 1, 1) := by decide +kernel
theorem dX6_playRound_122 : decode cX6_playRound 122 = .ok (.goto 4, 3) := by decide +kernel
theorem dX6_playRound_125 : decode cX6_playRound 125 = .ok (.iconst 0, 1) := by decide +kernel
theorem dX6_playRound_126 : decode cX6_playRound 126 = .ok (.istore 4, 2) := by decide +kernel
theorem dX6_playRound_128 : decode cX6_playRound 128 = .ok (.aload_n 0, 1) := by decide +kernel
theorem dX6_playRound_129 : decode cX6_playRound 129 = .ok (.aload_n 1, 1) := by decide +kernel
theorem dX6_playRound_130 : decode cX6_playRound 130 = .ok (.bipush 6, 2) := by decide +kernel
theorem dX6_playRound_132 : decode cX6_playRound 132 = .ok (.iaload, 1) := by decide +kernel
theorem dX6_playRound_133 : decode cX6_playRound 133 = .ok (.iload_n 3, 1) := by decide +kernel
theorem dX6_playRound_134 : decode cX6_playRound 134 = .ok (.if_icmp .ne 24, 3) := by decide +kernel
theorem dX6_playRound_137 : decode cX6_playRound 137 = .ok (.iload 4, 2) := by decide +kernel
theorem dX6_playRound_139 : decode cX6_playRound 139 = .ok (.ifCond .eq 15, 3) := by decide +kernel
theorem dX6_playRound_142 : decode cX6_playRound 142 = .ok (.aload_n 0, 1) := by decide +kernel
theorem dX6_playRound_143 : decode cX6_playRound 143 = .ok (.getfield 12, 3) := by decide +kernel
theorem dX6_playRound_146 : decode cX6_playRound 146 = .ok (.bipush 58, 2) := by decide +kernel
theorem dX6_playRound_148 : decode cX6_playRound 148 = .ok (.invokevirtual 66, 3) := by decide +kernel
theorem dX6_playRound_151 : decode cX6_playRound 151 = .ok (.ifCond .ne 7, 3) := by decide +kernel
theorem dX6_playRound_154 : decode cX6_playRound 154 = .ok (.iconst 1, 1) := by decide +kernel
theorem dX6_playRound_155 : decode cX6_playRound 155 = .ok (.goto 4, 3) := by decide +kernel
theorem dX6_playRound_158 : decode cX6_playRound 158 = .ok (.iconst 0, 1) := by decide +kernel
theorem dX6_playRound_159 : decode cX6_playRound 159 = .ok (.putfield 29, 3) := by decide +kernel
theorem dX6_playRound_162 : decode cX6_playRound 162 = .ok (.iload_n 2, 1) := by decide +kernel
theorem dX6_playRound_163 : decode cX6_playRound 163 = .ok (.ireturn, 1) := by decide +kernel
theorem dX6_startFrom_0 : decode cX6_startFrom 0 = .ok (.aload_n 0, 1) := by decide +kernel
theorem dX6_startFrom_1 : decode cX6_startFrom 1 = .ok (.getfield 12, 3) := by decide +kernel
theorem dX6_startFrom_4 : decode cX6_startFrom 4 = .ok (.aload_n 1, 1) := by decide +kernel
theorem dX6_startFrom_5 : decode cX6_startFrom 5 = .ok (.invokevirtual 46, 3) := by decide +kernel
theorem dX6_startFrom_8 : decode cX6_startFrom 8 = .ok (.aload_n 0, 1) := by decide +kernel
theorem dX6_startFrom_9 : decode cX6_startFrom 9 = .ok (.aload_n 2, 1) := by decide +kernel
theorem dX6_startFrom_10 : decode cX6_startFrom 10 = .ok (.putfield 33, 3) := by decide +kernel
theorem dX6_startFrom_13 : decode cX6_startFrom 13 = .ok (.aload_n 0, 1) := by decide +kernel
theorem dX6_startFrom_14 : decode cX6_startFrom 14 = .ok (.iconst (-1), 1) := by decide +kernel
theorem dX6_startFrom_15 : decode cX6_startFrom 15 = .ok (.putfield 25, 3) := by decide +kernel
theorem dX6_startFrom_18 : decode cX6_startFrom 18 = .ok (.aload_n 0, 1) := by decide +kernel
theorem dX6_startFrom_19 : decode cX6_startFrom 19 = .ok (.iconst 0, 1) := by decide +kernel
theorem dX6_startFrom_20 : decode cX6_startFrom 20 = .ok (.putfield 29, 3) := by decide +kernel
theorem dX6_startFrom_23 : decode cX6_startFrom 23 = .ok (.aload_n 0, 1) := by decide +kernel
theorem dX6_startFrom_24 : decode cX6_startFrom 24 = .ok (.getfield 22, 3) := by decide +kernel
theorem dX6_startFrom_27 : decode cX6_startFrom 27 = .ok (.iconst (-1), 1) := by decide +kernel
theorem dX6_startFrom_28 : decode cX6_startFrom 28 = .ok (.invokestatic 50, 3) := by decide +kernel
theorem dX6_startFrom_31 : decode cX6_startFrom 31 = .ok (.return_, 1) := by decide +kernel
theorem dX8_readValue_0 : decode cX8_readValue 0 = .ok (.aload_n 1, 1) := by decide +kernel
theorem dX8_readValue_1 : decode cX8_readValue 1 = .ok (.getfield 86, 3) := by decide +kernel
theorem dX8_readValue_4 : decode cX8_readValue 4 = .ok (.iconst 1, 1) := by decide +kernel
theorem dX8_readValue_5 : decode cX8_readValue 5 = .ok (.if_icmp .ne 7, 3) := by decide +kernel
theorem dX8_readValue_8 : decode cX8_readValue 8 = .ok (.iconst 1, 1) := by decide +kernel
theorem dX8_readValue_9 : decode cX8_readValue 9 = .ok (.goto 4, 3) := by decide +kernel
theorem dX8_readValue_12 : decode cX8_readValue 12 = .ok (.iconst 0, 1) := by decide +kernel
theorem dX8_readValue_13 : decode cX8_readValue 13 = .ok (.istore_n 2, 1) := by decide +kernel
theorem dX8_readValue_14 : decode cX8_readValue 14 = .ok (.aload_n 1, 1) := by decide +kernel
theorem dX8_readValue_15 : decode cX8_readValue 15 = .ok (.getfield 86, 3) := by decide +kernel
theorem dX8_readValue_18 : decode cX8_readValue 18 = .ok (.iconst 3, 1) := by decide +kernel
theorem dX8_readValue_19 : decode cX8_readValue 19 = .ok (.if_icmp .ne 16, 3) := by decide +kernel
theorem dX8_readValue_22 : decode cX8_readValue 22 = .ok (.aload_n 1, 1) := by decide +kernel
theorem dX8_readValue_23 : decode cX8_readValue 23 = .ok (.getfield 89, 3) := by decide +kernel
theorem dX8_readValue_26 : decode cX8_readValue 26 = .ok (.bipush 13, 2) := by decide +kernel
theorem dX8_readValue_28 : decode cX8_readValue 28 = .ok (.if_icmp .ge 7, 3) := by decide +kernel
theorem dX8_readValue_31 : decode cX8_readValue 31 = .ok (.iconst 1, 1) := by decide +kernel
theorem dX8_readValue_32 : decode cX8_readValue 32 = .ok (.goto 4, 3) := by decide +kernel
theorem dX8_readValue_35 : decode cX8_readValue 35 = .ok (.iconst 0, 1) := by decide +kernel
theorem dX8_readValue_36 : decode cX8_readValue 36 = .ok (.istore_n 3, 1) := by decide +kernel
theorem dX8_readValue_37 : decode cX8_readValue 37 = .ok (.aload_n 1, 1) := by decide +kernel
theorem dX8_readValue_38 : decode cX8_readValue 38 = .ok (.getfield 86, 3) := by decide +kernel
theorem dX8_readValue_41 : decode cX8_readValue 41 = .ok (.iconst 2, 1) := by decide +kernel
theorem dX8_readValue_42 : decode cX8_readValue 42 = .ok (.if_icmp .ne 15, 3) := by decide +kernel
theorem dX8_readValue_45 : decode cX8_readValue 45 = .ok (.aload_n 1, 1) := by decide +kernel
theorem dX8_readValue_46 : decode cX8_readValue 46 = .ok (.aload_n 1, 1) := by decide +kernel
theorem dX8_readValue_47 : decode cX8_readValue 47 = .ok (.getfield 53, 3) := by decide +kernel
theorem dX8_readValue_50 : decode cX8_readValue 50 = .ok (.iconst 1, 1) := by decide +kernel
theorem dX8_readValue_51 : decode cX8_readValue 51 = .ok (.invokevirtual 56, 3) := by decide +kernel
theorem dX8_readValue_54 : decode cX8_readValue 54 = .ok (.goto 75, 3) := by decide +kernel
theorem dX8_readValue_57 : decode cX8_readValue 57 = .ok (.iload_n 2, 1) := by decide +kernel
theorem dX8_readValue_58 : decode cX8_readValue 58 = .ok (.ifCond .ne 19, 3) := by decide +kernel
theorem dX8_readValue_61 : decode cX8_readValue 61 = .ok (.iload_n 3, 1) := by decide +kernel
theorem dX8_readValue_62 : decode cX8_readValue 62 = .ok (.ifCond .ne 15, 3) := by decide +kernel
theorem dX8_readValue_65 : decode cX8_readValue 65 = .ok (.aload_n 1, 1) := by decide +kernel
theorem dX8_readValue_66 : decode cX8_readValue 66 = .ok (.aload_n 1, 1) := by decide +kernel
theorem dX8_readValue_67 : decode cX8_readValue 67 = .ok (.getfield 53, 3) := by decide +kernel
theorem dX8_readValue_70 : decode cX8_readValue 70 = .ok (.iconst 0, 1) := by decide +kernel
theorem dX8_readValue_71 : decode cX8_readValue 71 = .ok (.invokevirtual 56, 3) := by decide +kernel
theorem dX8_readValue_74 : decode cX8_readValue 74 = .ok (.goto 55, 3) := by decide +kernel
theorem dX8_readValue_77 : decode cX8_readValue 77 = .ok (.aload_n 0, 1) := by decide +kernel
theorem dX8_readValue_78 : decode cX8_readValue 78 = .ok (.getfield 21, 3) := by decide +kernel
theorem dX8_readValue_81 : decode cX8_readValue 81 = .ok (.bipush 60, 2) := by decide +kernel
theorem dX8_readValue_83 : decode cX8_readValue 83 = .ok (.if_icmp .lt 15, 3) := by decide +kernel
theorem dX8_readValue_86 : decode cX8_readValue 86 = .ok (.aload_n 1, 1) := by decide +kernel
theorem dX8_readValue_87 : decode cX8_readValue 87 = .ok (.aload_n 1, 1) := by decide +kernel
theorem dX8_readValue_88 : decode cX8_readValue 88 = .ok (.getfield 53, 3) := by decide +kernel
theorem dX8_readValue_91 : decode cX8_readValue 91 = .ok (.iconst 3, 1) := by decide +kernel
theorem dX8_readValue_92 : decode cX8_readValue 92 = .ok (.invokevirtual 56, 3) := by decide +kernel
theorem dX8_readValue_95 : decode cX8_readValue 95 = .ok (.goto 34, 3) := by decide +kernel
theorem dX8_readValue_98 : decode cX8_readValue 98 = .ok (.aload_n 0, 1) := by decide +kernel
theorem dX8_readValue_99 : decode cX8_readValue 99 = .ok (.dup, 1) := by decide +kernel
theorem dX8_readValue_100 : decode cX8_readValue 100 = .ok (.getfield 21, 3) := by decide +kernel
theorem dX8_readValue_103 : decode cX8_readValue 103 = .ok (.iconst 1, 1) := by decide +kernel
theorem dX8_readValue_104 : decode cX8_readValue 104 = .ok (.iadd, 1) := by decide +kernel
theorem dX8_readValue_105 : decode cX8_readValue 105 = .ok (.putfield 21, 3) := by decide +kernel
theorem dX8_readValue_108 : decode cX8_readValue 108 = .ok (.aload_n 0, 1) := by decide +kernel
theorem dX8_readValue_109 : decode cX8_readValue 109 = .ok (.iload_n 2, 1) := by decide +kernel
theorem dX8_readValue_110 : decode cX8_readValue 110 = .ok (.ifCond .eq 7, 3) := by decide +kernel
theorem dX8_readValue_113 : decode cX8_readValue 113 = .ok (.iconst 0, 1) := by decide +kernel
theorem dX8_readValue_114 : decode cX8_readValue 114 = .ok (.goto 4, 3) := by decide +kernel
theorem dX8_readValue_117 : decode cX8_readValue 117 = .ok (.iconst 1, 1) := by decide +kernel
theorem dX8_readValue_118 : decode cX8_readValue 118 = .ok (.aload_n 1, 1) := by decide +kernel
theorem dX8_readValue_119 : decode cX8_readValue 119 = .ok (.getfield 89, 3) := by decide +kernel
theorem dX8_readValue_122 : decode cX8_readValue 122 = .ok (.invokevirtual 70, 3) := by decide +kernel
theorem dX8_readValue_125 : decode cX8_readValue 125 = .ok (.aload_n 1, 1) := by decide +kernel
theorem dX8_readValue_126 : decode cX8_readValue 126 = .ok (.invokevirtual 60, 3) := by decide +kernel
theorem dX8_readValue_129 : decode cX8_readValue 129 = .ok (.return_, 1) := by decide +kernel
theorem dX9_lookAhead_0 : decode cX9_lookAhead 0 = .ok (.aload_n 0, 1) := by decide +kernel
theorem dX9_lookAhead_1 : decode cX9_lookAhead 1 = .ok (.iconst 0, 1) := by decide +kernel
theorem dX9_lookAhead_2 : decode cX9_lookAhead 2 = .ok (.putfield 9, 3) := by decide +kernel
theorem dX9_lookAhead_5 : decode cX9_lookAhead 5 = .ok (.aload_n 0, 1) := by decide +kernel
theorem dX9_lookAhead_6 : decode cX9_lookAhead 6 = .ok (.iconst (-1), 1) := by decide +kernel
theorem dX9_lookAhead_7 : decode cX9_lookAhead 7 = .ok (.putfield 15, 3) := by decide +kernel
theorem dX9_lookAhead_10 : decode cX9_lookAhead 10 = .ok (.iconst (-1), 1) := by decide +kernel
theorem dX9_lookAhead_11 : decode cX9_lookAhead 11 = .ok (.istore 6, 2) := by decide +kernel
theorem dX9_lookAhead_13 : decode cX9_lookAhead 13 = .ok (.iload 6, 2) := by decide +kernel
theorem dX9_lookAhead_15 : decode cX9_lookAhead 15 = .ok (.iload 4, 2) := by decide +kernel
theorem dX9_lookAhead_17 : decode cX9_lookAhead 17 = .ok (.if_icmp .ge 102, 3) := by decide +kernel
theorem dX9_lookAhead_20 : decode cX9_lookAhead 20 = .ok (.aload_n 0, 1) := by decide +kernel
theorem dX9_lookAhead_21 : decode cX9_lookAhead 21 = .ok (.getfield 9, 3) := by decide +kernel
theorem dX9_lookAhead_24 : decode cX9_lookAhead 24 = .ok (.aload_n 0, 1) := by decide +kernel
theorem dX9_lookAhead_25 : decode cX9_lookAhead 25 = .ok (.getfield 20, 3) := by decide +kernel
theorem dX9_lookAhead_28 : decode cX9_lookAhead 28 = .ok (.arraylength, 1) := by decide +kernel
theorem dX9_lookAhead_29 : decode cX9_lookAhead 29 = .ok (.if_icmp .ge 90, 3) := by decide +kernel
theorem dX9_lookAhead_32 : decode cX9_lookAhead 32 = .ok (.aload_n 1, 1) := by decide +kernel
theorem dX9_lookAhead_33 : decode cX9_lookAhead 33 = .ok (.aload_n 2, 1) := by decide +kernel
theorem dX9_lookAhead_34 : decode cX9_lookAhead 34 = .ok (.getfield 23, 3) := by decide +kernel
theorem dX9_lookAhead_37 : decode cX9_lookAhead 37 = .ok (.iload 6, 2) := by decide +kernel
theorem dX9_lookAhead_39 : decode cX9_lookAhead 39 = .ok (.iconst 0, 1) := by decide +kernel
theorem dX9_lookAhead_40 : decode cX9_lookAhead 40 = .ok (.aload_n 3, 1) := by decide +kernel
theorem dX9_lookAhead_41 : decode cX9_lookAhead 41 = .ok (.arraylength, 1) := by decide +kernel
theorem dX9_lookAhead_42 : decode cX9_lookAhead 42 = .ok (.iconst 1, 1) := by decide +kernel
theorem dX9_lookAhead_43 : decode cX9_lookAhead 43 = .ok (.isub, 1) := by decide +kernel
theorem dX9_lookAhead_44 : decode cX9_lookAhead 44 = .ok (.invokestatic 52, 3) := by decide +kernel
theorem dX9_lookAhead_47 : decode cX9_lookAhead 47 = .ok (.ifCond .eq 10, 3) := by decide +kernel
theorem dX9_lookAhead_50 : decode cX9_lookAhead 50 = .ok (.aload_n 3, 1) := by decide +kernel
theorem dX9_lookAhead_51 : decode cX9_lookAhead 51 = .ok (.iload 6, 2) := by decide +kernel
theorem dX9_lookAhead_53 : decode cX9_lookAhead 53 = .ok (.aaload, 1) := by decide +kernel
theorem dX9_lookAhead_54 : decode cX9_lookAhead 54 = .ok (.goto 4, 3) := by decide +kernel
theorem dX9_lookAhead_57 : decode cX9_lookAhead 57 = .ok (.aconst_null, 1) := by decide +kernel
theorem dX9_lookAhead_58 : decode cX9_lookAhead 58 = .ok (.invokevirtual 29, 3) := by decide +kernel
theorem dX9_lookAhead_61 : decode cX9_lookAhead 61 = .ok (.aload_n 1, 1) := by decide +kernel
theorem dX9_lookAhead_62 : decode cX9_lookAhead 62 = .ok (.aload_n 2, 1) := by decide +kernel
theorem dX9_lookAhead_63 : decode cX9_lookAhead 63 = .ok (.getfield 44, 3) := by decide +kernel
theorem dX9_lookAhead_66 : decode cX9_lookAhead 66 = .ok (.iload 5, 2) := by decide +kernel
theorem dX9_lookAhead_68 : decode cX9_lookAhead 68 = .ok (.aload_n 0, 1) := by decide +kernel
theorem dX9_lookAhead_69 : decode cX9_lookAhead 69 = .ok (.getfield 20, 3) := by decide +kernel
theorem dX9_lookAhead_72 : decode cX9_lookAhead 72 = .ok (.aload_n 0, 1) := by decide +kernel
theorem dX9_lookAhead_73 : decode cX9_lookAhead 73 = .ok (.getfield 9, 3) := by decide +kernel
theorem dX9_lookAhead_76 : decode cX9_lookAhead 76 = .ok (.aaload, 1) := by decide +kernel
theorem dX9_lookAhead_77 : decode cX9_lookAhead 77 = .ok (.invokestatic 48, 3) := by decide +kernel
theorem dX9_lookAhead_80 : decode cX9_lookAhead 80 = .ok (.ifCond .eq 33, 3) := by decide +kernel
theorem dX9_lookAhead_83 : decode cX9_lookAhead 83 = .ok (.aload_n 0, 1) := by decide +kernel
theorem dX9_lookAhead_84 : decode cX9_lookAhead 84 = .ok (.aload_n 0, 1) := by decide +kernel
theorem dX9_lookAhead_85 : decode cX9_lookAhead 85 = .ok (.getfield 9, 3) := by decide +kernel
theorem dX9_lookAhead_88 : decode cX9_lookAhead 88 = .ok (.ifCond .ne 8, 3) := by decide +kernel
theorem dX9_lookAhead_91 : decode cX9_lookAhead 91 = .ok (.iload 6, 2) := by decide +kernel
theorem dX9_lookAhead_93 : decode cX9_lookAhead 93 = .ok (.goto 7, 3) := by decide +kernel
theorem dX9_lookAhead_96 : decode cX9_lookAhead 96 = .ok (.aload_n 0, 1) := by decide +kernel
theorem dX9_lookAhead_97 : decode cX9_lookAhead 97 = .ok (.getfield 15, 3) := by decide +kernel
theorem dX9_lookAhead_100 : decode cX9_lookAhead 100 = .ok (.putfield 15, 3) := by decide +kernel
theorem dX9_lookAhead_103 : decode cX9_lookAhead 103 = .ok (.aload_n 0, 1) := by decide +kernel
theorem dX9_lookAhead_104 : decode cX9_lookAhead 104 = .ok (.dup, 1) := by decide +kernel
theorem dX9_lookAhead_105 : decode cX9_lookAhead 105 = .ok (.getfield 9, 3) := by decide +kernel
theorem dX9_lookAhead_108 : decode cX9_lookAhead 108 = .ok (.iconst 1, 1) := by decide +kernel
theorem dX9_lookAhead_109 : decode cX9_lookAhead 109 = .ok (.iadd, 1) := by decide +kernel
theorem dX9_lookAhead_110 : decode cX9_lookAhead 110 = .ok (.putfield 9, 3) := by decide +kernel
theorem dX9_lookAhead_113 : decode cX9_lookAhead 113 = .ok (.iinc 6 1, 3) := by decide +kernel
theorem dX9_lookAhead_116 : decode cX9_lookAhead 116 = .ok (.goto (-103), 3) := by decide +kernel
theorem dX9_lookAhead_119 : decode cX9_lookAhead 119 = .ok (.return_, 1) := by decide +kernel
theorem dX9_mostAlike_0 : decode cX9_mostAlike 0 = .ok (.iconst 0, 1) := by decide +kernel
theorem dX9_mostAlike_1 : decode cX9_mostAlike 1 = .ok (.istore_n 2, 1) := by decide +kernel
theorem dX9_mostAlike_2 : decode cX9_mostAlike 2 = .ok (.iconst 0, 1) := by decide +kernel
theorem dX9_mostAlike_3 : decode cX9_mostAlike 3 = .ok (.istore_n 3, 1) := by decide +kernel
theorem dX9_mostAlike_4 : decode cX9_mostAlike 4 = .ok (.iload_n 3, 1) := by decide +kernel
theorem dX9_mostAlike_5 : decode cX9_mostAlike 5 = .ok (.aload_n 0, 1) := by decide +kernel
theorem dX9_mostAlike_6 : decode cX9_mostAlike 6 = .ok (.getfield 9, 3) := by decide +kernel
theorem dX9_mostAlike_9 : decode cX9_mostAlike 9 = .ok (.if_icmp .ge 67, 3) := by decide +kernel
theorem dX9_mostAlike_12 : decode cX9_mostAlike 12 = .ok (.iconst 0, 1) := by decide +kernel
theorem dX9_mostAlike_13 : decode cX9_mostAlike 13 = .ok (.istore 4, 2) := by decide +kernel
theorem dX9_mostAlike_15 : decode cX9_mostAlike 15 = .ok (.iconst 0, 1) := by decide +kernel
theorem dX9_mostAlike_16 : decode cX9_mostAlike 16 = .ok (.istore 5, 2) := by decide +kernel
theorem dX9_mostAlike_18 : decode cX9_mostAlike 18 = .ok (.iload 5, 2) := by decide +kernel
theorem dX9_mostAlike_20 : decode cX9_mostAlike 20 = .ok (.aload_n 0, 1) := by decide +kernel
theorem dX9_mostAlike_21 : decode cX9_mostAlike 21 = .ok (.getfield 9, 3) := by decide +kernel
theorem dX9_mostAlike_24 : decode cX9_mostAlike 24 = .ok (.if_icmp .ge 39, 3) := by decide +kernel
theorem dX9_mostAlike_27 : decode cX9_mostAlike 27 = .ok (.iload 4, 2) := by decide +kernel
theorem dX9_mostAlike_29 : decode cX9_mostAlike 29 = .ok (.aload_n 0, 1) := by decide +kernel
theorem dX9_mostAlike_30 : decode cX9_mostAlike 30 = .ok (.getfield 20, 3) := by decide +kernel
theorem dX9_mostAlike_33 : decode cX9_mostAlike 33 = .ok (.iload_n 3, 1) := by decide +kernel
theorem dX9_mostAlike_34 : decode cX9_mostAlike 34 = .ok (.aaload, 1) := by decide +kernel
theorem dX9_mostAlike_35 : decode cX9_mostAlike 35 = .ok (.iload_n 1, 1) := by decide +kernel
theorem dX9_mostAlike_36 : decode cX9_mostAlike 36 = .ok (.iaload, 1) := by decide +kernel
theorem dX9_mostAlike_37 : decode cX9_mostAlike 37 = .ok (.aload_n 0, 1) := by decide +kernel
theorem dX9_mostAlike_38 : decode cX9_mostAlike 38 = .ok (.getfield 20, 3) := by decide +kernel
theorem dX9_mostAlike_41 : decode cX9_mostAlike 41 = .ok (.iload 5, 2) := by decide +kernel
theorem dX9_mostAlike_43 : decode cX9_mostAlike 43 = .ok (.aaload, 1) := by decide +kernel
theorem dX9_mostAlike_44 : decode cX9_mostAlike 44 = .ok (.iload_n 1, 1) := by decide +kernel
theorem dX9_mostAlike_45 : decode cX9_mostAlike 45 = .ok (.iaload, 1) := by decide +kernel
theorem dX9_mostAlike_46 : decode cX9_mostAlike 46 = .ok (.if_icmp .ne 7, 3) := by decide +kernel
theorem dX9_mostAlike_49 : decode cX9_mostAlike 49 = .ok (.iconst 1, 1) := by decide +kernel
theorem dX9_mostAlike_50 : decode cX9_mostAlike 50 = .ok (.goto 4, 3) := by decide +kernel
theorem dX9_mostAlike_53 : decode cX9_mostAlike 53 = .ok (.iconst 0, 1) := by decide +kernel
theorem dX9_mostAlike_54 : decode cX9_mostAlike 54 = .ok (.iadd, 1) := by decide +kernel
theorem dX9_mostAlike_55 : decode cX9_mostAlike 55 = .ok (.istore 4, 2) := by decide +kernel
theorem dX9_mostAlike_57 : decode cX9_mostAlike 57 = .ok (.iinc 5 1, 3) := by decide +kernel
theorem dX9_mostAlike_60 : decode cX9_mostAlike 60 = .ok (.goto (-42), 3) := by decide +kernel
theorem dX9_mostAlike_63 : decode cX9_mostAlike 63 = .ok (.iload_n 2, 1) := by decide +kernel
theorem dX9_mostAlike_64 : decode cX9_mostAlike 64 = .ok (.iload 4, 2) := by decide +kernel
theorem dX9_mostAlike_66 : decode cX9_mostAlike 66 = .ok (.invokestatic 62, 3) := by decide +kernel
theorem dX9_mostAlike_69 : decode cX9_mostAlike 69 = .ok (.istore_n 2, 1) := by decide +kernel
theorem dX9_mostAlike_70 : decode cX9_mostAlike 70 = .ok (.iinc 3 1, 3) := by decide +kernel
theorem dX9_mostAlike_73 : decode cX9_mostAlike 73 = .ok (.goto (-69), 3) := by decide +kernel
theorem dX9_mostAlike_76 : decode cX9_mostAlike 76 = .ok (.iload_n 2, 1) := by decide +kernel
theorem dX9_mostAlike_77 : decode cX9_mostAlike 77 = .ok (.ireturn, 1) := by decide +kernel
theorem dJ7_fill_53178_0 : decode cJ7_fill_53178 0 = .ok (.iconst 0, 1) := by decide +kernel
theorem dJ7_fill_53178_1 : decode cJ7_fill_53178 1 = .ok (.istore_n 2, 1) := by decide +kernel
theorem dJ7_fill_53178_2 : decode cJ7_fill_53178 2 = .ok (.aload_n 0, 1) := by decide +kernel
theorem dJ7_fill_53178_3 : decode cJ7_fill_53178 3 = .ok (.arraylength, 1) := by decide +kernel
theorem dJ7_fill_53178_4 : decode cJ7_fill_53178 4 = .ok (.istore_n 3, 1) := by decide +kernel
theorem dJ7_fill_53178_5 : decode cJ7_fill_53178 5 = .ok (.iload_n 2, 1) := by decide +kernel
theorem dJ7_fill_53178_6 : decode cJ7_fill_53178 6 = .ok (.iload_n 3, 1) := by decide +kernel
theorem dJ7_fill_53178_7 : decode cJ7_fill_53178 7 = .ok (.if_icmp .ge 13, 3) := by decide +kernel
theorem dJ7_fill_53178_10 : decode cJ7_fill_53178 10 = .ok (.aload_n 0, 1) := by decide +kernel
theorem dJ7_fill_53178_11 : decode cJ7_fill_53178 11 = .ok (.iload_n 2, 1) := by decide +kernel
theorem dJ7_fill_53178_12 : decode cJ7_fill_53178 12 = .ok (.iload_n 1, 1) := by decide +kernel
theorem dJ7_fill_53178_13 : decode cJ7_fill_53178 13 = .ok (.iastore, 1) := by decide +kernel
theorem dJ7_fill_53178_14 : decode cJ7_fill_53178 14 = .ok (.iinc 2 1, 3) := by decide +kernel
theorem dJ7_fill_53178_17 : decode cJ7_fill_53178 17 = .ok (.goto (-12), 3) := by decide +kernel
theorem dJ7_fill_53178_20 : decode cJ7_fill_53178 20 = .ok (.return_, 1) := by decide +kernel
theorem dX10_scanToken_0 : decode cX10_scanToken 0 = .ok (.aload_n 0, 1) := by decide +kernel
theorem dX10_scanToken_1 : decode cX10_scanToken 1 = .ok (.iload_n 1, 1) := by decide +kernel
theorem dX10_scanToken_2 : decode cX10_scanToken 2 = .ok (.invokevirtual 65, 3) := by decide +kernel
theorem dX10_scanToken_5 : decode cX10_scanToken 5 = .ok (.ifCond .eq 9, 3) := by decide +kernel
theorem dX10_scanToken_8 : decode cX10_scanToken 8 = .ok (.aload_n 0, 1) := by decide +kernel
theorem dX10_scanToken_9 : decode cX10_scanToken 9 = .ok (.iload_n 1, 1) := by decide +kernel
theorem dX10_scanToken_10 : decode cX10_scanToken 10 = .ok (.invokevirtual 68, 3) := by decide +kernel
theorem dX10_scanToken_13 : decode cX10_scanToken 13 = .ok (.ireturn, 1) := by decide +kernel
theorem dX10_scanToken_14 : decode cX10_scanToken 14 = .ok (.aload_n 0, 1) := by decide +kernel
theorem dX10_scanToken_15 : decode cX10_scanToken 15 = .ok (.iload_n 1, 1) := by decide +kernel
theorem dX10_scanToken_16 : decode cX10_scanToken 16 = .ok (.invokevirtual 71, 3) := by decide +kernel
theorem dX10_scanToken_19 : decode cX10_scanToken 19 = .ok (.ifCond .eq 9, 3) := by decide +kernel
theorem dX10_scanToken_22 : decode cX10_scanToken 22 = .ok (.aload_n 0, 1) := by decide +kernel
theorem dX10_scanToken_23 : decode cX10_scanToken 23 = .ok (.iload_n 1, 1) := by decide +kernel
theorem dX10_scanToken_24 : decode cX10_scanToken 24 = .ok (.invokevirtual 74, 3) := by decide +kernel
theorem dX10_scanToken_27 : decode cX10_scanToken 27 = .ok (.ireturn, 1) := by decide +kernel
theorem dX10_scanToken_28 : decode cX10_scanToken 28 = .ok (.aload_n 0, 1) := by decide +kernel
theorem dX10_scanToken_29 : decode cX10_scanToken 29 = .ok (.getfield 11, 3) := by decide +kernel
theorem dX10_scanToken_32 : decode cX10_scanToken 32 = .ok (.iload_n 1, 1) := by decide +kernel
