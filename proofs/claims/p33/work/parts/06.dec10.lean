theorem dX10_scanToken_33 : decode cX10_scanToken 33 = .ok (.iaload, 1) := by decide +kernel
theorem dX10_scanToken_34 : decode cX10_scanToken 34 = .ok (.istore_n 2, 1) := by decide +kernel
theorem dX10_scanToken_35 : decode cX10_scanToken 35 = .ok (.iload_n 2, 1) := by decide +kernel
theorem dX10_scanToken_36 : decode cX10_scanToken 36 = .ok (.bipush 60, 2) := by decide +kernel
theorem dX10_scanToken_38 : decode cX10_scanToken 38 = .ok (.if_icmp .eq 9, 3) := by decide +kernel
theorem dX10_scanToken_41 : decode cX10_scanToken 41 = .ok (.iload_n 2, 1) := by decide +kernel
theorem dX10_scanToken_42 : decode cX10_scanToken 42 = .ok (.bipush 62, 2) := by decide +kernel
theorem dX10_scanToken_44 : decode cX10_scanToken 44 = .ok (.if_icmp .ne 7, 3) := by decide +kernel
theorem dX10_scanToken_47 : decode cX10_scanToken 47 = .ok (.iconst 1, 1) := by decide +kernel
theorem dX10_scanToken_48 : decode cX10_scanToken 48 = .ok (.goto 4, 3) := by decide +kernel
theorem dX10_scanToken_51 : decode cX10_scanToken 51 = .ok (.iconst 0, 1) := by decide +kernel
theorem dX10_scanToken_52 : decode cX10_scanToken 52 = .ok (.istore_n 3, 1) := by decide +kernel
theorem dX10_scanToken_53 : decode cX10_scanToken 53 = .ok (.iload_n 3, 1) := by decide +kernel
theorem dX10_scanToken_54 : decode cX10_scanToken 54 = .ok (.ifCond .eq 41, 3) := by decide +kernel
theorem dX10_scanToken_57 : decode cX10_scanToken 57 = .ok (.iload_n 1, 1) := by decide +kernel
theorem dX10_scanToken_58 : decode cX10_scanToken 58 = .ok (.iconst 1, 1) := by decide +kernel
theorem dX10_scanToken_59 : decode cX10_scanToken 59 = .ok (.iadd, 1) := by decide +kernel
theorem dX10_scanToken_60 : decode cX10_scanToken 60 = .ok (.aload_n 0, 1) := by decide +kernel
theorem dX10_scanToken_61 : decode cX10_scanToken 61 = .ok (.getfield 15, 3) := by decide +kernel
theorem dX10_scanToken_64 : decode cX10_scanToken 64 = .ok (.if_icmp .ge 31, 3) := by decide +kernel
theorem dX10_scanToken_67 : decode cX10_scanToken 67 = .ok (.aload_n 0, 1) := by decide +kernel
theorem dX10_scanToken_68 : decode cX10_scanToken 68 = .ok (.getfield 11, 3) := by decide +kernel
theorem dX10_scanToken_71 : decode cX10_scanToken 71 = .ok (.iload_n 1, 1) := by decide +kernel
theorem dX10_scanToken_72 : decode cX10_scanToken 72 = .ok (.iconst 1, 1) := by decide +kernel
theorem dX10_scanToken_73 : decode cX10_scanToken 73 = .ok (.iadd, 1) := by decide +kernel
theorem dX10_scanToken_74 : decode cX10_scanToken 74 = .ok (.iaload, 1) := by decide +kernel
theorem dX10_scanToken_75 : decode cX10_scanToken 75 = .ok (.bipush 61, 2) := by decide +kernel
theorem dX10_scanToken_77 : decode cX10_scanToken 77 = .ok (.if_icmp .ne 18, 3) := by decide +kernel
theorem dX10_scanToken_80 : decode cX10_scanToken 80 = .ok (.aload_n 0, 1) := by decide +kernel
theorem dX10_scanToken_81 : decode cX10_scanToken 81 = .ok (.iconst 4, 1) := by decide +kernel
theorem dX10_scanToken_82 : decode cX10_scanToken 82 = .ok (.sipush 256, 3) := by decide +kernel
theorem dX10_scanToken_85 : decode cX10_scanToken 85 = .ok (.iload_n 2, 1) := by decide +kernel
theorem dX10_scanToken_86 : decode cX10_scanToken 86 = .ok (.iadd, 1) := by decide +kernel
theorem dX10_scanToken_87 : decode cX10_scanToken 87 = .ok (.iload_n 1, 1) := by decide +kernel
theorem dX10_scanToken_88 : decode cX10_scanToken 88 = .ok (.invokevirtual 50, 3) := by decide +kernel
theorem dX10_scanToken_91 : decode cX10_scanToken 91 = .ok (.iload_n 1, 1) := by decide +kernel
theorem dX10_scanToken_92 : decode cX10_scanToken 92 = .ok (.iconst 2, 1) := by decide +kernel
theorem dX10_scanToken_93 : decode cX10_scanToken 93 = .ok (.iadd, 1) := by decide +kernel
theorem dX10_scanToken_94 : decode cX10_scanToken 94 = .ok (.ireturn, 1) := by decide +kernel
theorem dX10_scanToken_95 : decode cX10_scanToken 95 = .ok (.aload_n 0, 1) := by decide +kernel
theorem dX10_scanToken_96 : decode cX10_scanToken 96 = .ok (.iconst 4, 1) := by decide +kernel
theorem dX10_scanToken_97 : decode cX10_scanToken 97 = .ok (.iload_n 2, 1) := by decide +kernel
theorem dX10_scanToken_98 : decode cX10_scanToken 98 = .ok (.iload_n 1, 1) := by decide +kernel
theorem dX10_scanToken_99 : decode cX10_scanToken 99 = .ok (.invokevirtual 50, 3) := by decide +kernel
theorem dX10_scanToken_102 : decode cX10_scanToken 102 = .ok (.iload_n 1, 1) := by decide +kernel
theorem dX10_scanToken_103 : decode cX10_scanToken 103 = .ok (.iconst 1, 1) := by decide +kernel
theorem dX10_scanToken_104 : decode cX10_scanToken 104 = .ok (.iadd, 1) := by decide +kernel
theorem dX10_scanToken_105 : decode cX10_scanToken 105 = .ok (.ireturn, 1) := by decide +kernel
theorem dX12_easeByRow_0 : decode cX12_easeByRow 0 = .ok (.aload_n 0, 1) := by decide +kernel
theorem dX12_easeByRow_1 : decode cX12_easeByRow 1 = .ok (.iload_n 1, 1) := by decide +kernel
theorem dX12_easeByRow_2 : decode cX12_easeByRow 2 = .ok (.invokevirtual 317, 3) := by decide +kernel
theorem dX12_easeByRow_5 : decode cX12_easeByRow 5 = .ok (.istore_n 3, 1) := by decide +kernel
theorem dX12_easeByRow_6 : decode cX12_easeByRow 6 = .ok (.iconst 0, 1) := by decide +kernel
theorem dX12_easeByRow_7 : decode cX12_easeByRow 7 = .ok (.istore 4, 2) := by decide +kernel
theorem dX12_easeByRow_9 : decode cX12_easeByRow 9 = .ok (.iload 4, 2) := by decide +kernel
theorem dX12_easeByRow_11 : decode cX12_easeByRow 11 = .ok (.iload_n 2, 1) := by decide +kernel
theorem dX12_easeByRow_12 : decode cX12_easeByRow 12 = .ok (.if_icmp .ge 46, 3) := by decide +kernel
theorem dX12_easeByRow_15 : decode cX12_easeByRow 15 = .ok (.aload_n 0, 1) := by decide +kernel
theorem dX12_easeByRow_16 : decode cX12_easeByRow 16 = .ok (.getfield 61, 3) := by decide +kernel
theorem dX12_easeByRow_19 : decode cX12_easeByRow 19 = .ok (.iload 4, 2) := by decide +kernel
theorem dX12_easeByRow_21 : decode cX12_easeByRow 21 = .ok (.iaload, 1) := by decide +kernel
theorem dX12_easeByRow_22 : decode cX12_easeByRow 22 = .ok (.ifCond .ge 17, 3) := by decide +kernel
theorem dX12_easeByRow_25 : decode cX12_easeByRow 25 = .ok (.aload_n 0, 1) := by decide +kernel
theorem dX12_easeByRow_26 : decode cX12_easeByRow 26 = .ok (.getfield 39, 3) := by decide +kernel
theorem dX12_easeByRow_29 : decode cX12_easeByRow 29 = .ok (.bipush 11, 2) := by decide +kernel
theorem dX12_easeByRow_31 : decode cX12_easeByRow 31 = .ok (.dup2, 1) := by decide +kernel
theorem dX12_easeByRow_32 : decode cX12_easeByRow 32 = .ok (.iaload, 1) := by decide +kernel
theorem dX12_easeByRow_33 : decode cX12_easeByRow 33 = .ok (.iconst 1, 1) := by decide +kernel
theorem dX12_easeByRow_34 : decode cX12_easeByRow 34 = .ok (.iadd, 1) := by decide +kernel
theorem dX12_easeByRow_35 : decode cX12_easeByRow 35 = .ok (.iastore, 1) := by decide +kernel
theorem dX12_easeByRow_36 : decode cX12_easeByRow 36 = .ok (.goto 16, 3) := by decide +kernel
theorem dX12_easeByRow_39 : decode cX12_easeByRow 39 = .ok (.aload_n 0, 1) := by decide +kernel
theorem dX12_easeByRow_40 : decode cX12_easeByRow 40 = .ok (.iload_n 1, 1) := by decide +kernel
theorem dX12_easeByRow_41 : decode cX12_easeByRow 41 = .ok (.aload_n 0, 1) := by decide +kernel
theorem dX12_easeByRow_42 : decode cX12_easeByRow 42 = .ok (.getfield 61, 3) := by decide +kernel
theorem dX12_easeByRow_45 : decode cX12_easeByRow 45 = .ok (.iload 4, 2) := by decide +kernel
theorem dX12_easeByRow_47 : decode cX12_easeByRow 47 = .ok (.iaload, 1) := by decide +kernel
theorem dX12_easeByRow_48 : decode cX12_easeByRow 48 = .ok (.invokevirtual 354, 3) := by decide +kernel
theorem dX12_easeByRow_51 : decode cX12_easeByRow 51 = .ok (.pop, 1) := by decide +kernel
theorem dX12_easeByRow_52 : decode cX12_easeByRow 52 = .ok (.iinc 4 1, 3) := by decide +kernel
theorem dX12_easeByRow_55 : decode cX12_easeByRow 55 = .ok (.goto (-46), 3) := by decide +kernel
theorem dX12_easeByRow_58 : decode cX12_easeByRow 58 = .ok (.iload_n 3, 1) := by decide +kernel
theorem dX12_easeByRow_59 : decode cX12_easeByRow 59 = .ok (.aload_n 0, 1) := by decide +kernel
theorem dX12_easeByRow_60 : decode cX12_easeByRow 60 = .ok (.iload_n 1, 1) := by decide +kernel
theorem dX12_easeByRow_61 : decode cX12_easeByRow 61 = .ok (.invokevirtual 317, 3) := by decide +kernel
theorem dX12_easeByRow_64 : decode cX12_easeByRow 64 = .ok (.isub, 1) := by decide +kernel
theorem dX12_easeByRow_65 : decode cX12_easeByRow 65 = .ok (.istore 4, 2) := by decide +kernel
theorem dX12_easeByRow_67 : decode cX12_easeByRow 67 = .ok (.aload_n 0, 1) := by decide +kernel
theorem dX12_easeByRow_68 : decode cX12_easeByRow 68 = .ok (.invokevirtual 378, 3) := by decide +kernel
theorem dX12_easeByRow_71 : decode cX12_easeByRow 71 = .ok (.iload 4, 2) := by decide +kernel
theorem dX12_easeByRow_73 : decode cX12_easeByRow 73 = .ok (.ireturn, 1) := by decide +kernel
theorem dX12_fillsFits_0 : decode cX12_fillsFits 0 = .ok (.aload_n 0, 1) := by decide +kernel
theorem dX12_fillsFits_1 : decode cX12_fillsFits 1 = .ok (.getfield 42, 3) := by decide +kernel
theorem dX12_fillsFits_4 : decode cX12_fillsFits 4 = .ok (.istore_n 2, 1) := by decide +kernel
theorem dX12_fillsFits_5 : decode cX12_fillsFits 5 = .ok (.aload_n 0, 1) := by decide +kernel
theorem dX12_fillsFits_6 : decode cX12_fillsFits 6 = .ok (.invokevirtual 372, 3) := by decide +kernel
theorem dX12_fillsFits_9 : decode cX12_fillsFits 9 = .ok (.iconst 0, 1) := by decide +kernel
theorem dX12_fillsFits_10 : decode cX12_fillsFits 10 = .ok (.istore_n 3, 1) := by decide +kernel
theorem dX12_fillsFits_11 : decode cX12_fillsFits 11 = .ok (.iload_n 3, 1) := by decide +kernel
theorem dX12_fillsFits_12 : decode cX12_fillsFits 12 = .ok (.aload_n 0, 1) := by decide +kernel
theorem dX12_fillsFits_13 : decode cX12_fillsFits 13 = .ok (.getfield 267, 3) := by decide +kernel
theorem dX12_fillsFits_16 : decode cX12_fillsFits 16 = .ok (.if_icmp .gt 32, 3) := by decide +kernel
theorem dX12_fillsFits_19 : decode cX12_fillsFits 19 = .ok (.aload_n 0, 1) := by decide +kernel
theorem dX12_fillsFits_20 : decode cX12_fillsFits 20 = .ok (.iload_n 3, 1) := by decide +kernel
theorem dX12_fillsFits_21 : decode cX12_fillsFits 21 = .ok (.iconst 1, 1) := by decide +kernel
theorem dX12_fillsFits_22 : decode cX12_fillsFits 22 = .ok (.isub, 1) := by decide +kernel
theorem dX12_fillsFits_23 : decode cX12_fillsFits 23 = .ok (.putfield 42, 3) := by decide +kernel
theorem dX12_fillsFits_26 : decode cX12_fillsFits 26 = .ok (.aload_n 0, 1) := by decide +kernel
theorem dX12_fillsFits_27 : decode cX12_fillsFits 27 = .ok (.invokevirtual 273, 3) := by decide +kernel
theorem dX12_fillsFits_30 : decode cX12_fillsFits 30 = .ok (.aload_n 0, 1) := by decide +kernel
theorem dX12_fillsFits_31 : decode cX12_fillsFits 31 = .ok (.getfield 70, 3) := by decide +kernel
theorem dX12_fillsFits_34 : decode cX12_fillsFits 34 = .ok (.iload_n 3, 1) := by decide +kernel
theorem dX12_fillsFits_35 : decode cX12_fillsFits 35 = .ok (.aload_n 0, 1) := by decide +kernel
theorem dX12_fillsFits_36 : decode cX12_fillsFits 36 = .ok (.iload_n 3, 1) := by decide +kernel
theorem dX12_fillsFits_37 : decode cX12_fillsFits 37 = .ok (.iload_n 1, 1) := by decide +kernel
theorem dX12_fillsFits_38 : decode cX12_fillsFits 38 = .ok (.invokevirtual 429, 3) := by decide +kernel
theorem dX12_fillsFits_41 : decode cX12_fillsFits 41 = .ok (.bastore, 1) := by decide +kernel
theorem dX12_fillsFits_42 : decode cX12_fillsFits 42 = .ok (.iinc 3 1, 3) := by decide +kernel
theorem dX12_fillsFits_45 : decode cX12_fillsFits 45 = .ok (.goto (-34), 3) := by decide +kernel
theorem dX12_fillsFits_48 : decode cX12_fillsFits 48 = .ok (.aload_n 0, 1) := by decide +kernel
theorem dX12_fillsFits_49 : decode cX12_fillsFits 49 = .ok (.iload_n 2, 1) := by decide +kernel
theorem dX12_fillsFits_50 : decode cX12_fillsFits 50 = .ok (.putfield 42, 3) := by decide +kernel
theorem dX12_fillsFits_53 : decode cX12_fillsFits 53 = .ok (.aload_n 0, 1) := by decide +kernel
theorem dX12_fillsFits_54 : decode cX12_fillsFits 54 = .ok (.invokevirtual 378, 3) := by decide +kernel
theorem dX12_fillsFits_57 : decode cX12_fillsFits 57 = .ok (.return_, 1) := by decide +kernel
theorem dX12_fillsRest_0 : decode cX12_fillsRest 0 = .ok (.iconst 2, 1) := by decide +kernel
theorem dX12_fillsRest_1 : decode cX12_fillsRest 1 = .ok (.bipush 6, 2) := by decide +kernel
theorem dX12_fillsRest_3 : decode cX12_fillsRest 3 = .ok (.iload_n 3, 1) := by decide +kernel
theorem dX12_fillsRest_4 : decode cX12_fillsRest 4 = .ok (.imul, 1) := by decide +kernel
theorem dX12_fillsRest_5 : decode cX12_fillsRest 5 = .ok (.iload 4, 2) := by decide +kernel
theorem dX12_fillsRest_7 : decode cX12_fillsRest 7 = .ok (.iadd, 1) := by decide +kernel
theorem dX12_fillsRest_8 : decode cX12_fillsRest 8 = .ok (.imul, 1) := by decide +kernel
theorem dX12_fillsRest_9 : decode cX12_fillsRest 9 = .ok (.istore 6, 2) := by decide +kernel
theorem dX12_fillsRest_11 : decode cX12_fillsRest 11 = .ok (.aload_n 0, 1) := by decide +kernel
theorem dX12_fillsRest_12 : decode cX12_fillsRest 12 = .ok (.iload_n 1, 1) := by decide +kernel
theorem dX12_fillsRest_13 : decode cX12_fillsRest 13 = .ok (.invokevirtual 317, 3) := by decide +kernel
theorem dX12_fillsRest_16 : decode cX12_fillsRest 16 = .ok (.istore 7, 2) := by decide +kernel
theorem dX12_fillsRest_18 : decode cX12_fillsRest 18 = .ok (.aload_n 0, 1) := by decide +kernel
theorem dX12_fillsRest_19 : decode cX12_fillsRest 19 = .ok (.iload_n 2, 1) := by decide +kernel
theorem dX12_fillsRest_20 : decode cX12_fillsRest 20 = .ok (.invokevirtual 317, 3) := by decide +kernel
theorem dX12_fillsRest_23 : decode cX12_fillsRest 23 = .ok (.istore 8, 2) := by decide +kernel
theorem dX12_fillsRest_25 : decode cX12_fillsRest 25 = .ok (.aload_n 0, 1) := by decide +kernel
theorem dX12_fillsRest_26 : decode cX12_fillsRest 26 = .ok (.getfield 49, 3) := by decide +kernel
theorem dX12_fillsRest_29 : decode cX12_fillsRest 29 = .ok (.iload_n 1, 1) := by decide +kernel
theorem dX12_fillsRest_30 : decode cX12_fillsRest 30 = .ok (.iload_n 3, 1) := by decide +kernel
theorem dX12_fillsRest_31 : decode cX12_fillsRest 31 = .ok (.iastore, 1) := by decide +kernel
theorem dX12_fillsRest_32 : decode cX12_fillsRest 32 = .ok (.aload_n 0, 1) := by decide +kernel
theorem dX12_fillsRest_33 : decode cX12_fillsRest 33 = .ok (.getfield 49, 3) := by decide +kernel
theorem dX12_fillsRest_36 : decode cX12_fillsRest 36 = .ok (.iload_n 2, 1) := by decide +kernel
theorem dX12_fillsRest_37 : decode cX12_fillsRest 37 = .ok (.iload 4, 2) := by decide +kernel
theorem dX12_fillsRest_39 : decode cX12_fillsRest 39 = .ok (.iastore, 1) := by decide +kernel
theorem dX12_fillsRest_40 : decode cX12_fillsRest 40 = .ok (.aload_n 0, 1) := by decide +kernel
theorem dX12_fillsRest_41 : decode cX12_fillsRest 41 = .ok (.iload 5, 2) := by decide +kernel
theorem dX12_fillsRest_43 : decode cX12_fillsRest 43 = .ok (.invokevirtual 375, 3) := by decide +kernel
theorem dX12_fillsRest_46 : decode cX12_fillsRest 46 = .ok (.aload_n 0, 1) := by decide +kernel
theorem dX12_fillsRest_47 : decode cX12_fillsRest 47 = .ok (.getfield 49, 3) := by decide +kernel
theorem dX12_fillsRest_50 : decode cX12_fillsRest 50 = .ok (.iload_n 1, 1) := by decide +kernel
theorem dX12_fillsRest_51 : decode cX12_fillsRest 51 = .ok (.iconst (-1), 1) := by decide +kernel
theorem dX12_fillsRest_52 : decode cX12_fillsRest 52 = .ok (.iastore, 1) := by decide +kernel
theorem dX12_fillsRest_53 : decode cX12_fillsRest 53 = .ok (.aload_n 0, 1) := by decide +kernel
theorem dX12_fillsRest_54 : decode cX12_fillsRest 54 = .ok (.getfield 49, 3) := by decide +kernel
theorem dX12_fillsRest_57 : decode cX12_fillsRest 57 = .ok (.iload_n 2, 1) := by decide +kernel
theorem dX12_fillsRest_58 : decode cX12_fillsRest 58 = .ok (.iconst (-1), 1) := by decide +kernel
theorem dX12_fillsRest_59 : decode cX12_fillsRest 59 = .ok (.iastore, 1) := by decide +kernel
theorem dX12_fillsRest_60 : decode cX12_fillsRest 60 = .ok (.aload_n 0, 1) := by decide +kernel
theorem dX12_fillsRest_61 : decode cX12_fillsRest 61 = .ok (.getfield 67, 3) := by decide +kernel
theorem dX12_fillsRest_64 : decode cX12_fillsRest 64 = .ok (.iload 6, 2) := by decide +kernel
theorem dX12_fillsRest_66 : decode cX12_fillsRest 66 = .ok (.aload_n 0, 1) := by decide +kernel
theorem dX12_fillsRest_67 : decode cX12_fillsRest 67 = .ok (.iload_n 1, 1) := by decide +kernel
theorem dX12_fillsRest_68 : decode cX12_fillsRest 68 = .ok (.iload 7, 2) := by decide +kernel
theorem dX12_fillsRest_70 : decode cX12_fillsRest 70 = .ok (.invokevirtual 412, 3) := by decide +kernel
theorem dX12_fillsRest_73 : decode cX12_fillsRest 73 = .ok (.iastore, 1) := by decide +kernel
theorem dX12_fillsRest_74 : decode cX12_fillsRest 74 = .ok (.aload_n 0, 1) := by decide +kernel
theorem dX12_fillsRest_75 : decode cX12_fillsRest 75 = .ok (.getfield 67, 3) := by decide +kernel
theorem dX12_fillsRest_78 : decode cX12_fillsRest 78 = .ok (.iload 6, 2) := by decide +kernel
theorem dX12_fillsRest_80 : decode cX12_fillsRest 80 = .ok (.iconst 1, 1) := by decide +kernel
theorem dX12_fillsRest_81 : decode cX12_fillsRest 81 = .ok (.iadd, 1) := by decide +kernel
theorem dX12_fillsRest_82 : decode cX12_fillsRest 82 = .ok (.aload_n 0, 1) := by decide +kernel
theorem dX12_fillsRest_83 : decode cX12_fillsRest 83 = .ok (.iload_n 2, 1) := by decide +kernel
theorem dX12_fillsRest_84 : decode cX12_fillsRest 84 = .ok (.iload 8, 2) := by decide +kernel
theorem dX12_fillsRest_86 : decode cX12_fillsRest 86 = .ok (.invokevirtual 412, 3) := by decide +kernel
theorem dX12_fillsRest_89 : decode cX12_fillsRest 89 = .ok (.iastore, 1) := by decide +kernel
theorem dX12_fillsRest_90 : decode cX12_fillsRest 90 = .ok (.aload_n 0, 1) := by decide +kernel
theorem dX12_fillsRest_91 : decode cX12_fillsRest 91 = .ok (.invokevirtual 378, 3) := by decide +kernel
theorem dX12_fillsRest_94 : decode cX12_fillsRest 94 = .ok (.return_, 1) := by decide +kernel
theorem dX12_isAimHere_0 : decode cX12_isAimHere 0 = .ok (.aload_n 0, 1) := by decide +kernel
theorem dX12_isAimHere_1 : decode cX12_isAimHere 1 = .ok (.invokevirtual 114, 3) := by decide +kernel
theorem dX12_isAimHere_4 : decode cX12_isAimHere 4 = .ok (.bipush 48, 2) := by decide +kernel
theorem dX12_isAimHere_6 : decode cX12_isAimHere 6 = .ok (.aload_n 0, 1) := by decide +kernel
theorem dX12_isAimHere_7 : decode cX12_isAimHere 7 = .ok (.getfield 157, 3) := by decide +kernel
theorem dX12_isAimHere_10 : decode cX12_isAimHere 10 = .ok (.imul, 1) := by decide +kernel
theorem dX12_isAimHere_11 : decode cX12_isAimHere 11 = .ok (.iconst 4, 1) := by decide +kernel
theorem dX12_isAimHere_12 : decode cX12_isAimHere 12 = .ok (.aload_n 0, 1) := by decide +kernel
theorem dX12_isAimHere_13 : decode cX12_isAimHere 13 = .ok (.getfield 23, 3) := by decide +kernel
theorem dX12_isAimHere_16 : decode cX12_isAimHere 16 = .ok (.aload_n 0, 1) := by decide +kernel
theorem dX12_isAimHere_17 : decode cX12_isAimHere 17 = .ok (.getfield 157, 3) := by decide +kernel
theorem dX12_isAimHere_20 : decode cX12_isAimHere 20 = .ok (.iaload, 1) := by decide +kernel
theorem dX12_isAimHere_21 : decode cX12_isAimHere 21 = .ok (.imul, 1) := by decide +kernel
theorem dX12_isAimHere_22 : decode cX12_isAimHere 22 = .ok (.iadd, 1) := by decide +kernel
theorem dX12_isAimHere_23 : decode cX12_isAimHere 23 = .ok (.istore_n 1, 1) := by decide +kernel
theorem dX12_isAimHere_24 : decode cX12_isAimHere 24 = .ok (.aload_n 0, 1) := by decide +kernel
theorem dX12_isAimHere_25 : decode cX12_isAimHere 25 = .ok (.getfield 20, 3) := by decide +kernel
theorem dX12_isAimHere_28 : decode cX12_isAimHere 28 = .ok (.iload_n 1, 1) := by decide +kernel
theorem dX12_isAimHere_29 : decode cX12_isAimHere 29 = .ok (.aload_n 0, 1) := by decide +kernel
theorem dX12_isAimHere_30 : decode cX12_isAimHere 30 = .ok (.getfield 17, 3) := by decide +kernel
theorem dX12_isAimHere_33 : decode cX12_isAimHere 33 = .ok (.aload_n 0, 1) := by decide +kernel
theorem dX12_isAimHere_34 : decode cX12_isAimHere 34 = .ok (.getfield 157, 3) := by decide +kernel
theorem dX12_isAimHere_37 : decode cX12_isAimHere 37 = .ok (.iaload, 1) := by decide +kernel
theorem dX12_isAimHere_38 : decode cX12_isAimHere 38 = .ok (.iastore, 1) := by decide +kernel
theorem dX12_isAimHere_39 : decode cX12_isAimHere 39 = .ok (.aload_n 0, 1) := by decide +kernel
theorem dX12_isAimHere_40 : decode cX12_isAimHere 40 = .ok (.invokevirtual 194, 3) := by decide +kernel
theorem dX12_isAimHere_43 : decode cX12_isAimHere 43 = .ok (.ifCond .ne 5, 3) := by decide +kernel
theorem dX12_isAimHere_46 : decode cX12_isAimHere 46 = .ok (.iconst 0, 1) := by decide +kernel
theorem dX12_isAimHere_47 : decode cX12_isAimHere 47 = .ok (.ireturn, 1) := by decide +kernel
theorem dX12_isAimHere_48 : decode cX12_isAimHere 48 = .ok (.aload_n 0, 1) := by decide +kernel
theorem dX12_isAimHere_49 : decode cX12_isAimHere 49 = .ok (.getfield 20, 3) := by decide +kernel
theorem dX12_isAimHere_52 : decode cX12_isAimHere 52 = .ok (.iload_n 1, 1) := by decide +kernel
theorem dX12_isAimHere_53 : decode cX12_isAimHere 53 = .ok (.iconst 1, 1) := by decide +kernel
theorem dX12_isAimHere_54 : decode cX12_isAimHere 54 = .ok (.iadd, 1) := by decide +kernel
theorem dX12_isAimHere_55 : decode cX12_isAimHere 55 = .ok (.aload_n 0, 1) := by decide +kernel
theorem dX12_isAimHere_56 : decode cX12_isAimHere 56 = .ok (.getfield 17, 3) := by decide +kernel
theorem dX12_isAimHere_59 : decode cX12_isAimHere 59 = .ok (.aload_n 0, 1) := by decide +kernel
theorem dX12_isAimHere_60 : decode cX12_isAimHere 60 = .ok (.getfield 157, 3) := by decide +kernel
theorem dX12_isAimHere_63 : decode cX12_isAimHere 63 = .ok (.iaload, 1) := by decide +kernel
theorem dX12_isAimHere_64 : decode cX12_isAimHere 64 = .ok (.iastore, 1) := by decide +kernel
theorem dX12_isAimHere_65 : decode cX12_isAimHere 65 = .ok (.aload_n 0, 1) := by decide +kernel
theorem dX12_isAimHere_66 : decode cX12_isAimHere 66 = .ok (.getfield 20, 3) := by decide +kernel
theorem dX12_isAimHere_69 : decode cX12_isAimHere 69 = .ok (.iload_n 1, 1) := by decide +kernel
theorem dX12_isAimHere_70 : decode cX12_isAimHere 70 = .ok (.iconst 2, 1) := by decide +kernel
theorem dX12_isAimHere_71 : decode cX12_isAimHere 71 = .ok (.iadd, 1) := by decide +kernel
theorem dX12_isAimHere_72 : decode cX12_isAimHere 72 = .ok (.iconst (-1), 1) := by decide +kernel
theorem dX12_isAimHere_73 : decode cX12_isAimHere 73 = .ok (.iastore, 1) := by decide +kernel
theorem dX12_isAimHere_74 : decode cX12_isAimHere 74 = .ok (.aload_n 0, 1) := by decide +kernel
theorem dX12_isAimHere_75 : decode cX12_isAimHere 75 = .ok (.ldc2_w 221, 3) := by decide +kernel
theorem dX12_isAimHere_78 : decode cX12_isAimHere 78 = .ok (.invokevirtual 223, 3) := by decide +kernel
theorem dX12_isAimHere_81 : decode cX12_isAimHere 81 = .ok (.ifCond .eq 29, 3) := by decide +kernel
theorem dX12_isAimHere_84 : decode cX12_isAimHere 84 = .ok (.aload_n 0, 1) := by decide +kernel
theorem dX12_isAimHere_85 : decode cX12_isAimHere 85 = .ok (.getfield 20, 3) := by decide +kernel
theorem dX12_isAimHere_88 : decode cX12_isAimHere 88 = .ok (.iload_n 1, 1) := by decide +kernel
theorem dX12_isAimHere_89 : decode cX12_isAimHere 89 = .ok (.iconst 2, 1) := by decide +kernel
theorem dX12_isAimHere_90 : decode cX12_isAimHere 90 = .ok (.iadd, 1) := by decide +kernel
theorem dX12_isAimHere_91 : decode cX12_isAimHere 91 = .ok (.aload_n 0, 1) := by decide +kernel
theorem dX12_isAimHere_92 : decode cX12_isAimHere 92 = .ok (.getfield 17, 3) := by decide +kernel
theorem dX12_isAimHere_95 : decode cX12_isAimHere 95 = .ok (.aload_n 0, 1) := by decide +kernel
theorem dX12_isAimHere_96 : decode cX12_isAimHere 96 = .ok (.getfield 157, 3) := by decide +kernel
theorem dX12_isAimHere_99 : decode cX12_isAimHere 99 = .ok (.iaload, 1) := by decide +kernel
theorem dX12_isAimHere_100 : decode cX12_isAimHere 100 = .ok (.iastore, 1) := by decide +kernel
theorem dX12_isAimHere_101 : decode cX12_isAimHere 101 = .ok (.aload_n 0, 1) := by decide +kernel
theorem dX12_isAimHere_102 : decode cX12_isAimHere 102 = .ok (.invokevirtual 226, 3) := by decide +kernel
theorem dX12_isAimHere_105 : decode cX12_isAimHere 105 = .ok (.ifCond .ne 5, 3) := by decide +kernel
theorem dX12_isAimHere_108 : decode cX12_isAimHere 108 = .ok (.iconst 0, 1) := by decide +kernel
theorem dX12_isAimHere_109 : decode cX12_isAimHere 109 = .ok (.ireturn, 1) := by decide +kernel
theorem dX12_isAimHere_110 : decode cX12_isAimHere 110 = .ok (.aload_n 0, 1) := by decide +kernel
theorem dX12_isAimHere_111 : decode cX12_isAimHere 111 = .ok (.getfield 20, 3) := by decide +kernel
theorem dX12_isAimHere_114 : decode cX12_isAimHere 114 = .ok (.iload_n 1, 1) := by decide +kernel
theorem dX12_isAimHere_115 : decode cX12_isAimHere 115 = .ok (.iconst 3, 1) := by decide +kernel
theorem dX12_isAimHere_116 : decode cX12_isAimHere 116 = .ok (.iadd, 1) := by decide +kernel
theorem dX12_isAimHere_117 : decode cX12_isAimHere 117 = .ok (.aload_n 0, 1) := by decide +kernel
theorem dX12_isAimHere_118 : decode cX12_isAimHere 118 = .ok (.getfield 17, 3) := by decide +kernel
theorem dX12_isAimHere_121 : decode cX12_isAimHere 121 = .ok (.aload_n 0, 1) := by decide +kernel
theorem dX12_isAimHere_122 : decode cX12_isAimHere 122 = .ok (.getfield 157, 3) := by decide +kernel
theorem dX12_isAimHere_125 : decode cX12_isAimHere 125 = .ok (.iaload, 1) := by decide +kernel
theorem dX12_isAimHere_126 : decode cX12_isAimHere 126 = .ok (.iastore, 1) := by decide +kernel
theorem dX12_isAimHere_127 : decode cX12_isAimHere 127 = .ok (.aload_n 0, 1) := by decide +kernel
theorem dX12_isAimHere_128 : decode cX12_isAimHere 128 = .ok (.getfield 23, 3) := by decide +kernel
theorem dX12_isAimHere_131 : decode cX12_isAimHere 131 = .ok (.aload_n 0, 1) := by decide +kernel
theorem dX12_isAimHere_132 : decode cX12_isAimHere 132 = .ok (.getfield 157, 3) := by decide +kernel
theorem dX12_isAimHere_135 : decode cX12_isAimHere 135 = .ok (.dup2, 1) := by decide +kernel
theorem dX12_isAimHere_136 : decode cX12_isAimHere 136 = .ok (.iaload, 1) := by decide +kernel
theorem dX12_isAimHere_137 : decode cX12_isAimHere 137 = .ok (.iconst 1, 1) := by decide +kernel
theorem dX12_isAimHere_138 : decode cX12_isAimHere 138 = .ok (.iadd, 1) := by decide +kernel
theorem dX12_isAimHere_139 : decode cX12_isAimHere 139 = .ok (.iastore, 1) := by decide +kernel
theorem dX12_isAimHere_140 : decode cX12_isAimHere 140 = .ok (.iconst 1, 1) := by decide +kernel
theorem dX12_isAimHere_141 : decode cX12_isAimHere 141 = .ok (.ireturn, 1) := by decide +kernel
theorem dX12_passesAll_0 : decode cX12_passesAll 0 = .ok (.iconst 0, 1) := by decide +kernel
theorem dX12_passesAll_1 : decode cX12_passesAll 1 = .ok (.istore_n 2, 1) := by decide +kernel
theorem dX12_passesAll_2 : decode cX12_passesAll 2 = .ok (.iload_n 2, 1) := by decide +kernel
theorem dX12_passesAll_3 : decode cX12_passesAll 3 = .ok (.iload_n 1, 1) := by decide +kernel
theorem dX12_passesAll_4 : decode cX12_passesAll 4 = .ok (.if_icmp .ge 14, 3) := by decide +kernel
theorem dX12_passesAll_7 : decode cX12_passesAll 7 = .ok (.aload_n 0, 1) := by decide +kernel
theorem dX12_passesAll_8 : decode cX12_passesAll 8 = .ok (.invokevirtual 360, 3) := by decide +kernel
theorem dX12_passesAll_11 : decode cX12_passesAll 11 = .ok (.pop, 1) := by decide +kernel
theorem dX12_passesAll_12 : decode cX12_passesAll 12 = .ok (.iinc 2 1, 3) := by decide +kernel
theorem dX12_passesAll_15 : decode cX12_passesAll 15 = .ok (.goto (-13), 3) := by decide +kernel
theorem dX12_passesAll_18 : decode cX12_passesAll 18 = .ok (.return_, 1) := by decide +kernel
theorem dX12_takesWord_0 : decode cX12_takesWord 0 = .ok (.aload_n 0, 1) := by decide +kernel
theorem dX12_takesWord_1 : decode cX12_takesWord 1 = .ok (.lload_n 1, 1) := by decide +kernel
theorem dX12_takesWord_2 : decode cX12_takesWord 2 = .ok (.invokevirtual 110, 3) := by decide +kernel
theorem dX12_takesWord_5 : decode cX12_takesWord 5 = .ok (.ifCond .ne 5, 3) := by decide +kernel
theorem dX12_takesWord_8 : decode cX12_takesWord 8 = .ok (.iconst 0, 1) := by decide +kernel
theorem dX12_takesWord_9 : decode cX12_takesWord 9 = .ok (.ireturn, 1) := by decide +kernel
theorem dX12_takesWord_10 : decode cX12_takesWord 10 = .ok (.aload_n 0, 1) := by decide +kernel
theorem dX12_takesWord_11 : decode cX12_takesWord 11 = .ok (.invokevirtual 114, 3) := by decide +kernel
theorem dX12_takesWord_14 : decode cX12_takesWord 14 = .ok (.iconst 1, 1) := by decide +kernel
theorem dX12_takesWord_15 : decode cX12_takesWord 15 = .ok (.ireturn, 1) := by decide +kernel
theorem dX2_blowRounds_0 : decode cX2_blowRounds 0 = .ok (.iconst 0, 1) := by decide +kernel
theorem dX2_blowRounds_1 : decode cX2_blowRounds 1 = .ok (.istore 4, 2) := by decide +kernel
theorem dX2_blowRounds_3 : decode cX2_blowRounds 3 = .ok (.iload 4, 2) := by decide +kernel
theorem dX2_blowRounds_5 : decode cX2_blowRounds 5 = .ok (.iload_n 2, 1) := by decide +kernel
theorem dX2_blowRounds_6 : decode cX2_blowRounds 6 = .ok (.if_icmp .ge 40, 3) := by decide +kernel
theorem dX2_blowRounds_9 : decode cX2_blowRounds 9 = .ok (.aload_n 1, 1) := by decide +kernel
theorem dX2_blowRounds_10 : decode cX2_blowRounds 10 = .ok (.aload_n 0, 1) := by decide +kernel
theorem dX2_blowRounds_11 : decode cX2_blowRounds 11 = .ok (.invokevirtual 94, 3) := by decide +kernel
theorem dX2_blowRounds_14 : decode cX2_blowRounds 14 = .ok (.bipush 100, 2) := by decide +kernel
theorem dX2_blowRounds_16 : decode cX2_blowRounds 16 = .ok (.irem, 1) := by decide +kernel
theorem dX2_blowRounds_17 : decode cX2_blowRounds 17 = .ok (.iload_n 3, 1) := by decide +kernel
theorem dX2_blowRounds_18 : decode cX2_blowRounds 18 = .ok (.if_icmp .ge 13, 3) := by decide +kernel
theorem dX2_blowRounds_21 : decode cX2_blowRounds 21 = .ok (.aload_n 0, 1) := by decide +kernel
theorem dX2_blowRounds_22 : decode cX2_blowRounds 22 = .ok (.invokevirtual 94, 3) := by decide +kernel
theorem dX2_blowRounds_25 : decode cX2_blowRounds 25 = .ok (.bipush 9, 2) := by decide +kernel
theorem dX2_blowRounds_27 : decode cX2_blowRounds 27 = .ok (.irem, 1) := by decide +kernel
theorem dX2_blowRounds_28 : decode cX2_blowRounds 28 = .ok (.goto 4, 3) := by decide +kernel
theorem dX2_blowRounds_31 : decode cX2_blowRounds 31 = .ok (.iconst (-1), 1) := by decide +kernel
theorem dX2_blowRounds_32 : decode cX2_blowRounds 32 = .ok (.putfield 97, 3) := by decide +kernel
theorem dX2_blowRounds_35 : decode cX2_blowRounds 35 = .ok (.aload_n 1, 1) := by decide +kernel
theorem dX2_blowRounds_36 : decode cX2_blowRounds 36 = .ok (.invokevirtual 39, 3) := by decide +kernel
theorem dX2_blowRounds_39 : decode cX2_blowRounds 39 = .ok (.pop, 1) := by decide +kernel
theorem dX2_blowRounds_40 : decode cX2_blowRounds 40 = .ok (.iinc 4 1, 3) := by decide +kernel
theorem dX2_blowRounds_43 : decode cX2_blowRounds 43 = .ok (.goto (-40), 3) := by decide +kernel
theorem dX2_blowRounds_46 : decode cX2_blowRounds 46 = .ok (.return_, 1) := by decide +kernel
theorem dX2_easedSince_0 : decode cX2_easedSince 0 = .ok (.aload_n 1, 1) := by decide +kernel
theorem dX2_easedSince_1 : decode cX2_easedSince 1 = .ok (.bipush 53, 2) := by decide +kernel
theorem dX2_easedSince_3 : decode cX2_easedSince 3 = .ok (.invokevirtual 80, 3) := by decide +kernel
theorem dX2_easedSince_6 : decode cX2_easedSince 6 = .ok (.aload_n 2, 1) := by decide +kernel
theorem dX2_easedSince_7 : decode cX2_easedSince 7 = .ok (.bipush 53, 2) := by decide +kernel
theorem dX2_easedSince_9 : decode cX2_easedSince 9 = .ok (.invokevirtual 80, 3) := by decide +kernel
theorem dX2_easedSince_12 : decode cX2_easedSince 12 = .ok (.isub, 1) := by decide +kernel
theorem dX2_easedSince_13 : decode cX2_easedSince 13 = .ok (.ireturn, 1) := by decide +kernel
theorem dX2_takeIfMore_0 : decode cX2_takeIfMore 0 = .ok (.iload_n 2, 1) := by decide +kernel
theorem dX2_takeIfMore_1 : decode cX2_takeIfMore 1 = .ok (.aload_n 0, 1) := by decide +kernel
theorem dX2_takeIfMore_2 : decode cX2_takeIfMore 2 = .ok (.getfield 15, 3) := by decide +kernel
theorem dX2_takeIfMore_5 : decode cX2_takeIfMore 5 = .ok (.if_icmp .le 13, 3) := by decide +kernel
theorem dX2_takeIfMore_8 : decode cX2_takeIfMore 8 = .ok (.aload_n 0, 1) := by decide +kernel
theorem dX2_takeIfMore_9 : decode cX2_takeIfMore 9 = .ok (.iload_n 1, 1) := by decide +kernel
theorem dX2_takeIfMore_10 : decode cX2_takeIfMore 10 = .ok (.putfield 9, 3) := by decide +kernel
theorem dX2_takeIfMore_13 : decode cX2_takeIfMore 13 = .ok (.aload_n 0, 1) := by decide +kernel
theorem dX2_takeIfMore_14 : decode cX2_takeIfMore 14 = .ok (.iload_n 2, 1) := by decide +kernel
theorem dX2_takeIfMore_15 : decode cX2_takeIfMore 15 = .ok (.putfield 15, 3) := by decide +kernel
theorem dX2_takeIfMore_18 : decode cX2_takeIfMore 18 = .ok (.return_, 1) := by decide +kernel
theorem dX2_weighRings_0 : decode cX2_weighRings 0 = .ok (.aload_n 2, 1) := by decide +kernel
theorem dX2_weighRings_1 : decode cX2_weighRings 1 = .ok (.getfield 34, 3) := by decide +kernel
theorem dX2_weighRings_4 : decode cX2_weighRings 4 = .ok (.iconst 3, 1) := by decide +kernel
theorem dX2_weighRings_5 : decode cX2_weighRings 5 = .ok (.iaload, 1) := by decide +kernel
theorem dX2_weighRings_6 : decode cX2_weighRings 6 = .ok (.istore 7, 2) := by decide +kernel
theorem dX2_weighRings_8 : decode cX2_weighRings 8 = .ok (.iconst 0, 1) := by decide +kernel
theorem dX2_weighRings_9 : decode cX2_weighRings 9 = .ok (.istore 8, 2) := by decide +kernel
theorem dX2_weighRings_11 : decode cX2_weighRings 11 = .ok (.iload 8, 2) := by decide +kernel
theorem dX2_weighRings_13 : decode cX2_weighRings 13 = .ok (.iload 7, 2) := by decide +kernel
theorem dX2_weighRings_15 : decode cX2_weighRings 15 = .ok (.iload 7, 2) := by decide +kernel
theorem dX2_weighRings_17 : decode cX2_weighRings 17 = .ok (.imul, 1) := by decide +kernel
theorem dX2_weighRings_18 : decode cX2_weighRings 18 = .ok (.if_icmp .ge 79, 3) := by decide +kernel
theorem dX2_weighRings_21 : decode cX2_weighRings 21 = .ok (.aload_n 1, 1) := by decide +kernel
theorem dX2_weighRings_22 : decode cX2_weighRings 22 = .ok (.aload_n 2, 1) := by decide +kernel
theorem dX2_weighRings_23 : decode cX2_weighRings 23 = .ok (.aload_n 3, 1) := by decide +kernel
theorem dX2_weighRings_24 : decode cX2_weighRings 24 = .ok (.invokevirtual 60, 3) := by decide +kernel
theorem dX2_weighRings_27 : decode cX2_weighRings 27 = .ok (.aload_n 1, 1) := by decide +kernel
theorem dX2_weighRings_28 : decode cX2_weighRings 28 = .ok (.getfield 83, 3) := by decide +kernel
theorem dX2_weighRings_31 : decode cX2_weighRings 31 = .ok (.iload 4, 2) := by decide +kernel
theorem dX2_weighRings_33 : decode cX2_weighRings 33 = .ok (.iload 8, 2) := by decide +kernel
theorem dX2_weighRings_35 : decode cX2_weighRings 35 = .ok (.iload 7, 2) := by decide +kernel
theorem dX2_weighRings_37 : decode cX2_weighRings 37 = .ok (.idiv, 1) := by decide +kernel
theorem dX2_weighRings_38 : decode cX2_weighRings 38 = .ok (.iastore, 1) := by decide +kernel
theorem dX2_weighRings_39 : decode cX2_weighRings 39 = .ok (.aload_n 1, 1) := by decide +kernel
theorem dX2_weighRings_40 : decode cX2_weighRings 40 = .ok (.getfield 83, 3) := by decide +kernel
theorem dX2_weighRings_43 : decode cX2_weighRings 43 = .ok (.iload 5, 2) := by decide +kernel
theorem dX2_weighRings_45 : decode cX2_weighRings 45 = .ok (.iload 8, 2) := by decide +kernel
theorem dX2_weighRings_47 : decode cX2_weighRings 47 = .ok (.iload 7, 2) := by decide +kernel
theorem dX2_weighRings_49 : decode cX2_weighRings 49 = .ok (.irem, 1) := by decide +kernel
theorem dX2_weighRings_50 : decode cX2_weighRings 50 = .ok (.iastore, 1) := by decide +kernel
theorem dX2_weighRings_51 : decode cX2_weighRings 51 = .ok (.aload_n 1, 1) := by decide +kernel
theorem dX2_weighRings_52 : decode cX2_weighRings 52 = .ok (.iload 6, 2) := by decide +kernel
theorem dX2_weighRings_54 : decode cX2_weighRings 54 = .ok (.invokevirtual 64, 3) := by decide +kernel
theorem dX2_weighRings_57 : decode cX2_weighRings 57 = .ok (.aload_n 0, 1) := by decide +kernel
theorem dX2_weighRings_58 : decode cX2_weighRings 58 = .ok (.getfield 21, 3) := by decide +kernel
theorem dX2_weighRings_61 : decode cX2_weighRings 61 = .ok (.iload 8, 2) := by decide +kernel
theorem dX2_weighRings_63 : decode cX2_weighRings 63 = .ok (.aload_n 1, 1) := by decide +kernel
theorem dX2_weighRings_64 : decode cX2_weighRings 64 = .ok (.getfield 28, 3) := by decide +kernel
theorem dX2_weighRings_67 : decode cX2_weighRings 67 = .ok (.aload_n 2, 1) := by decide +kernel
theorem dX2_weighRings_68 : decode cX2_weighRings 68 = .ok (.iload 4, 2) := by decide +kernel
theorem dX2_weighRings_70 : decode cX2_weighRings 70 = .ok (.invokestatic 86, 3) := by decide +kernel
theorem dX2_weighRings_73 : decode cX2_weighRings 73 = .ok (.iastore, 1) := by decide +kernel
theorem dX2_weighRings_74 : decode cX2_weighRings 74 = .ok (.aload_n 0, 1) := by decide +kernel
theorem dX2_weighRings_75 : decode cX2_weighRings 75 = .ok (.getfield 25, 3) := by decide +kernel
theorem dX2_weighRings_78 : decode cX2_weighRings 78 = .ok (.iload 8, 2) := by decide +kernel
theorem dX2_weighRings_80 : decode cX2_weighRings 80 = .ok (.aload_n 1, 1) := by decide +kernel
theorem dX2_weighRings_81 : decode cX2_weighRings 81 = .ok (.getfield 28, 3) := by decide +kernel
theorem dX2_weighRings_84 : decode cX2_weighRings 84 = .ok (.aload_n 2, 1) := by decide +kernel
theorem dX2_weighRings_85 : decode cX2_weighRings 85 = .ok (.iload 5, 2) := by decide +kernel
theorem dX2_weighRings_87 : decode cX2_weighRings 87 = .ok (.invokestatic 86, 3) := by decide +kernel
theorem dX2_weighRings_90 : decode cX2_weighRings 90 = .ok (.iastore, 1) := by decide +kernel
theorem dX2_weighRings_91 : decode cX2_weighRings 91 = .ok (.iinc 8 1, 3) := by decide +kernel
theorem dX2_weighRings_94 : decode cX2_weighRings 94 = .ok (.goto (-83), 3) := by decide +kernel
theorem dX2_weighRings_97 : decode cX2_weighRings 97 = .ok (.return_, 1) := by decide +kernel
theorem dX3_readClause_0 : decode cX3_readClause 0 = .ok (.aload_n 1, 1) := by decide +kernel
theorem dX3_readClause_1 : decode cX3_readClause 1 = .ok (.getfield 41, 3) := by decide +kernel
theorem dX3_readClause_4 : decode cX3_readClause 4 = .ok (.iconst 3, 1) := by decide +kernel
theorem dX3_readClause_5 : decode cX3_readClause 5 = .ok (.if_icmp .ne 10, 3) := by decide +kernel
theorem dX3_readClause_8 : decode cX3_readClause 8 = .ok (.aload_n 1, 1) := by decide +kernel
theorem dX3_readClause_9 : decode cX3_readClause 9 = .ok (.getfield 44, 3) := by decide +kernel
theorem dX3_readClause_12 : decode cX3_readClause 12 = .ok (.goto 4, 3) := by decide +kernel
theorem dX3_readClause_15 : decode cX3_readClause 15 = .ok (.iconst (-1), 1) := by decide +kernel
theorem dX3_readClause_16 : decode cX3_readClause 16 = .ok (.istore_n 3, 1) := by decide +kernel
theorem dX3_readClause_17 : decode cX3_readClause 17 = .ok (.iload_n 3, 1) := by decide +kernel
theorem dX3_readClause_18 : decode cX3_readClause 18 = .ok (.invokestatic 47, 3) := by decide +kernel
theorem dX3_readClause_21 : decode cX3_readClause 21 = .ok (.ifCond .ne 15, 3) := by decide +kernel
theorem dX3_readClause_24 : decode cX3_readClause 24 = .ok (.aload_n 1, 1) := by decide +kernel
theorem dX3_readClause_25 : decode cX3_readClause 25 = .ok (.aload_n 1, 1) := by decide +kernel
theorem dX3_readClause_26 : decode cX3_readClause 26 = .ok (.getfield 51, 3) := by decide +kernel
theorem dX3_readClause_29 : decode cX3_readClause 29 = .ok (.iconst 0, 1) := by decide +kernel
theorem dX3_readClause_30 : decode cX3_readClause 30 = .ok (.invokevirtual 54, 3) := by decide +kernel
theorem dX3_readClause_33 : decode cX3_readClause 33 = .ok (.goto 62, 3) := by decide +kernel
theorem dX3_readClause_36 : decode cX3_readClause 36 = .ok (.iload_n 2, 1) := by decide +kernel
theorem dX3_readClause_37 : decode cX3_readClause 37 = .ok (.bipush 40, 2) := by decide +kernel
theorem dX3_readClause_39 : decode cX3_readClause 39 = .ok (.if_icmp .ge 34, 3) := by decide +kernel
theorem dX3_readClause_42 : decode cX3_readClause 42 = .ok (.iload_n 3, 1) := by decide +kernel
theorem dX3_readClause_43 : decode cX3_readClause 43 = .ok (.bipush 13, 2) := by decide +kernel
theorem dX3_readClause_45 : decode cX3_readClause 45 = .ok (.if_icmp .ne 7, 3) := by decide +kernel
theorem dX3_readClause_48 : decode cX3_readClause 48 = .ok (.iconst 1, 1) := by decide +kernel
theorem dX3_readClause_49 : decode cX3_readClause 49 = .ok (.goto 4, 3) := by decide +kernel
theorem dX3_readClause_52 : decode cX3_readClause 52 = .ok (.iconst 0, 1) := by decide +kernel
theorem dX3_readClause_53 : decode cX3_readClause 53 = .ok (.iload_n 2, 1) := by decide +kernel
theorem dX3_readClause_54 : decode cX3_readClause 54 = .ok (.ifCond .ne 7, 3) := by decide +kernel
theorem dX3_readClause_57 : decode cX3_readClause 57 = .ok (.iconst 1, 1) := by decide +kernel
theorem dX3_readClause_58 : decode cX3_readClause 58 = .ok (.goto 4, 3) := by decide +kernel
theorem dX3_readClause_61 : decode cX3_readClause 61 = .ok (.iconst 0, 1) := by decide +kernel
theorem dX3_readClause_62 : decode cX3_readClause 62 = .ok (.if_icmp .ne 11, 3) := by decide +kernel
theorem dX3_readClause_65 : decode cX3_readClause 65 = .ok (.aload_n 0, 1) := by decide +kernel
theorem dX3_readClause_66 : decode cX3_readClause 66 = .ok (.iload_n 3, 1) := by decide +kernel
theorem dX3_readClause_67 : decode cX3_readClause 67 = .ok (.invokevirtual 58, 3) := by decide +kernel
theorem dX3_readClause_70 : decode cX3_readClause 70 = .ok (.ifCond .eq 15, 3) := by decide +kernel
theorem dX3_readClause_73 : decode cX3_readClause 73 = .ok (.aload_n 1, 1) := by decide +kernel
theorem dX3_readClause_74 : decode cX3_readClause 74 = .ok (.aload_n 1, 1) := by decide +kernel
theorem dX3_readClause_75 : decode cX3_readClause 75 = .ok (.getfield 51, 3) := by decide +kernel
theorem dX3_readClause_78 : decode cX3_readClause 78 = .ok (.iconst 4, 1) := by decide +kernel
theorem dX3_readClause_79 : decode cX3_readClause 79 = .ok (.invokevirtual 54, 3) := by decide +kernel
theorem dX3_readClause_82 : decode cX3_readClause 82 = .ok (.goto 13, 3) := by decide +kernel
theorem dX3_readClause_85 : decode cX3_readClause 85 = .ok (.aload_n 1, 1) := by decide +kernel
theorem dX3_readClause_86 : decode cX3_readClause 86 = .ok (.invokevirtual 61, 3) := by decide +kernel
theorem dX3_readClause_89 : decode cX3_readClause 89 = .ok (.aload_n 0, 1) := by decide +kernel
theorem dX3_readClause_90 : decode cX3_readClause 90 = .ok (.aload_n 1, 1) := by decide +kernel
theorem dX3_readClause_91 : decode cX3_readClause 91 = .ok (.iload_n 3, 1) := by decide +kernel
theorem dX3_readClause_92 : decode cX3_readClause 92 = .ok (.invokevirtual 64, 3) := by decide +kernel
theorem dX3_readClause_95 : decode cX3_readClause 95 = .ok (.return_, 1) := by decide +kernel
theorem dX3_readNumber_0 : decode cX3_readNumber 0 = .ok (.aload_n 1, 1) := by decide +kernel
theorem dX3_readNumber_1 : decode cX3_readNumber 1 = .ok (.getfield 44, 3) := by decide +kernel
theorem dX3_readNumber_4 : decode cX3_readNumber 4 = .ok (.istore 4, 2) := by decide +kernel
theorem dX3_readNumber_6 : decode cX3_readNumber 6 = .ok (.aload_n 1, 1) := by decide +kernel
theorem dX3_readNumber_7 : decode cX3_readNumber 7 = .ok (.getfield 41, 3) := by decide +kernel
theorem dX3_readNumber_10 : decode cX3_readNumber 10 = .ok (.iconst 2, 1) := by decide +kernel
theorem dX3_readNumber_11 : decode cX3_readNumber 11 = .ok (.if_icmp .ne 15, 3) := by decide +kernel
theorem dX3_readNumber_14 : decode cX3_readNumber 14 = .ok (.aload_n 1, 1) := by decide +kernel
theorem dX3_readNumber_15 : decode cX3_readNumber 15 = .ok (.aload_n 1, 1) := by decide +kernel
theorem dX3_readNumber_16 : decode cX3_readNumber 16 = .ok (.getfield 51, 3) := by decide +kernel
theorem dX3_readNumber_19 : decode cX3_readNumber 19 = .ok (.iconst 1, 1) := by decide +kernel
theorem dX3_readNumber_20 : decode cX3_readNumber 20 = .ok (.invokevirtual 54, 3) := by decide +kernel
theorem dX3_readNumber_23 : decode cX3_readNumber 23 = .ok (.goto 49, 3) := by decide +kernel
theorem dX3_readNumber_26 : decode cX3_readNumber 26 = .ok (.aload_n 1, 1) := by decide +kernel
theorem dX3_readNumber_27 : decode cX3_readNumber 27 = .ok (.getfield 41, 3) := by decide +kernel
theorem dX3_readNumber_30 : decode cX3_readNumber 30 = .ok (.iconst 1, 1) := by decide +kernel
theorem dX3_readNumber_31 : decode cX3_readNumber 31 = .ok (.if_icmp .eq 15, 3) := by decide +kernel
theorem dX3_readNumber_34 : decode cX3_readNumber 34 = .ok (.aload_n 1, 1) := by decide +kernel
theorem dX3_readNumber_35 : decode cX3_readNumber 35 = .ok (.aload_n 1, 1) := by decide +kernel
theorem dX3_readNumber_36 : decode cX3_readNumber 36 = .ok (.getfield 51, 3) := by decide +kernel
theorem dX3_readNumber_39 : decode cX3_readNumber 39 = .ok (.iconst 0, 1) := by decide +kernel
theorem dX3_readNumber_40 : decode cX3_readNumber 40 = .ok (.invokevirtual 54, 3) := by decide +kernel
theorem dX3_readNumber_43 : decode cX3_readNumber 43 = .ok (.goto 29, 3) := by decide +kernel
theorem dX3_readNumber_46 : decode cX3_readNumber 46 = .ok (.iload 4, 2) := by decide +kernel
theorem dX3_readNumber_48 : decode cX3_readNumber 48 = .ok (.iload_n 2, 1) := by decide +kernel
theorem dX3_readNumber_49 : decode cX3_readNumber 49 = .ok (.iload_n 3, 1) := by decide +kernel
theorem dX3_readNumber_50 : decode cX3_readNumber 50 = .ok (.invokestatic 85, 3) := by decide +kernel
theorem dX3_readNumber_53 : decode cX3_readNumber 53 = .ok (.ifCond .ne 15, 3) := by decide +kernel
theorem dX3_readNumber_56 : decode cX3_readNumber 56 = .ok (.aload_n 1, 1) := by decide +kernel
theorem dX3_readNumber_57 : decode cX3_readNumber 57 = .ok (.aload_n 1, 1) := by decide +kernel
theorem dX3_readNumber_58 : decode cX3_readNumber 58 = .ok (.getfield 51, 3) := by decide +kernel
theorem dX3_readNumber_61 : decode cX3_readNumber 61 = .ok (.iconst 1, 1) := by decide +kernel
theorem dX3_readNumber_62 : decode cX3_readNumber 62 = .ok (.invokevirtual 54, 3) := by decide +kernel
theorem dX3_readNumber_65 : decode cX3_readNumber 65 = .ok (.goto 7, 3) := by decide +kernel
theorem dX3_readNumber_68 : decode cX3_readNumber 68 = .ok (.aload_n 1, 1) := by decide +kernel
theorem dX3_readNumber_69 : decode cX3_readNumber 69 = .ok (.invokevirtual 61, 3) := by decide +kernel
theorem dX3_readNumber_72 : decode cX3_readNumber 72 = .ok (.iload 4, 2) := by decide +kernel
theorem dX3_readNumber_74 : decode cX3_readNumber 74 = .ok (.ireturn, 1) := by decide +kernel
theorem dX6_playRounds_0 : decode cX6_playRounds 0 = .ok (.iconst 0, 1) := by decide +kernel
theorem dX6_playRounds_1 : decode cX6_playRounds 1 = .ok (.istore_n 2, 1) := by decide +kernel
theorem dX6_playRounds_2 : decode cX6_playRounds 2 = .ok (.iload_n 2, 1) := by decide +kernel
theorem dX6_playRounds_3 : decode cX6_playRounds 3 = .ok (.iload_n 1, 1) := by decide +kernel
theorem dX6_playRounds_4 : decode cX6_playRounds 4 = .ok (.if_icmp .ge 21, 3) := by decide +kernel
theorem dX6_playRounds_7 : decode cX6_playRounds 7 = .ok (.aload_n 0, 1) := by decide +kernel
theorem dX6_playRounds_8 : decode cX6_playRounds 8 = .ok (.getfield 29, 3) := by decide +kernel
theorem dX6_playRounds_11 : decode cX6_playRounds 11 = .ok (.ifCond .ne 14, 3) := by decide +kernel
theorem dX6_playRounds_14 : decode cX6_playRounds 14 = .ok (.aload_n 0, 1) := by decide +kernel
theorem dX6_playRounds_15 : decode cX6_playRounds 15 = .ok (.invokevirtual 69, 3) := by decide +kernel
theorem dX6_playRounds_18 : decode cX6_playRounds 18 = .ok (.pop, 1) := by decide +kernel
theorem dX6_playRounds_19 : decode cX6_playRounds 19 = .ok (.iinc 2 1, 3) := by decide +kernel
theorem dX6_playRounds_22 : decode cX6_playRounds 22 = .ok (.goto (-20), 3) := by decide +kernel
theorem dX6_playRounds_25 : decode cX6_playRounds 25 = .ok (.return_, 1) := by decide +kernel
theorem dX8_readClause_0 : decode cX8_readClause 0 = .ok (.aload_n 1, 1) := by decide +kernel
theorem dX8_readClause_1 : decode cX8_readClause 1 = .ok (.bipush 14, 2) := by decide +kernel
theorem dX8_readClause_3 : decode cX8_readClause 3 = .ok (.invokevirtual 49, 3) := by decide +kernel
theorem dX8_readClause_6 : decode cX8_readClause 6 = .ok (.ifCond .ne 13, 3) := by decide +kernel
theorem dX8_readClause_9 : decode cX8_readClause 9 = .ok (.aload_n 1, 1) := by decide +kernel
theorem dX8_readClause_10 : decode cX8_readClause 10 = .ok (.aload_n 1, 1) := by decide +kernel
theorem dX8_readClause_11 : decode cX8_readClause 11 = .ok (.getfield 53, 3) := by decide +kernel
theorem dX8_readClause_14 : decode cX8_readClause 14 = .ok (.iconst 0, 1) := by decide +kernel
theorem dX8_readClause_15 : decode cX8_readClause 15 = .ok (.invokevirtual 56, 3) := by decide +kernel
theorem dX8_readClause_18 : decode cX8_readClause 18 = .ok (.return_, 1) := by decide +kernel
theorem dX8_readClause_19 : decode cX8_readClause 19 = .ok (.iload_n 2, 1) := by decide +kernel
theorem dX8_readClause_20 : decode cX8_readClause 20 = .ok (.bipush 12, 2) := by decide +kernel
theorem dX8_readClause_22 : decode cX8_readClause 22 = .ok (.if_icmp .lt 13, 3) := by decide +kernel
theorem dX8_readClause_25 : decode cX8_readClause 25 = .ok (.aload_n 1, 1) := by decide +kernel
theorem dX8_readClause_26 : decode cX8_readClause 26 = .ok (.aload_n 1, 1) := by decide +kernel
theorem dX8_readClause_27 : decode cX8_readClause 27 = .ok (.getfield 53, 3) := by decide +kernel
theorem dX8_readClause_30 : decode cX8_readClause 30 = .ok (.iconst 4, 1) := by decide +kernel
theorem dX8_readClause_31 : decode cX8_readClause 31 = .ok (.invokevirtual 56, 3) := by decide +kernel
theorem dX8_readClause_34 : decode cX8_readClause 34 = .ok (.return_, 1) := by decide +kernel
theorem dX8_readClause_35 : decode cX8_readClause 35 = .ok (.aload_n 1, 1) := by decide +kernel
theorem dX8_readClause_36 : decode cX8_readClause 36 = .ok (.invokevirtual 60, 3) := by decide +kernel
theorem dX8_readClause_39 : decode cX8_readClause 39 = .ok (.aload_n 0, 1) := by decide +kernel
theorem dX8_readClause_40 : decode cX8_readClause 40 = .ok (.aload_n 1, 1) := by decide +kernel
theorem dX8_readClause_41 : decode cX8_readClause 41 = .ok (.invokevirtual 63, 3) := by decide +kernel
theorem dX8_readClause_44 : decode cX8_readClause 44 = .ok (.aload_n 1, 1) := by decide +kernel
theorem dX8_readClause_45 : decode cX8_readClause 45 = .ok (.getfield 35, 3) := by decide +kernel
theorem dX8_readClause_48 : decode cX8_readClause 48 = .ok (.ifCond .ne 31, 3) := by decide +kernel
theorem dX8_readClause_51 : decode cX8_readClause 51 = .ok (.aload_n 1, 1) := by decide +kernel
theorem dX8_readClause_52 : decode cX8_readClause 52 = .ok (.bipush 15, 2) := by decide +kernel
theorem dX8_readClause_54 : decode cX8_readClause 54 = .ok (.invokevirtual 49, 3) := by decide +kernel
theorem dX8_readClause_57 : decode cX8_readClause 57 = .ok (.ifCond .eq 22, 3) := by decide +kernel
theorem dX8_readClause_60 : decode cX8_readClause 60 = .ok (.aload_n 1, 1) := by decide +kernel
theorem dX8_readClause_61 : decode cX8_readClause 61 = .ok (.invokevirtual 60, 3) := by decide +kernel
theorem dX8_readClause_64 : decode cX8_readClause 64 = .ok (.aload_n 0, 1) := by decide +kernel
theorem dX8_readClause_65 : decode cX8_readClause 65 = .ok (.aload_n 1, 1) := by decide +kernel
theorem dX8_readClause_66 : decode cX8_readClause 66 = .ok (.iconst 0, 1) := by decide +kernel
theorem dX8_readClause_67 : decode cX8_readClause 67 = .ok (.invokevirtual 67, 3) := by decide +kernel
theorem dX8_readClause_70 : decode cX8_readClause 70 = .ok (.aload_n 0, 1) := by decide +kernel
theorem dX8_readClause_71 : decode cX8_readClause 71 = .ok (.iconst 4, 1) := by decide +kernel
theorem dX8_readClause_72 : decode cX8_readClause 72 = .ok (.iconst 0, 1) := by decide +kernel
theorem dX8_readClause_73 : decode cX8_readClause 73 = .ok (.invokevirtual 70, 3) := by decide +kernel
theorem dX8_readClause_76 : decode cX8_readClause 76 = .ok (.goto 9, 3) := by decide +kernel
theorem dX8_readClause_79 : decode cX8_readClause 79 = .ok (.aload_n 0, 1) := by decide +kernel
theorem dX8_readClause_80 : decode cX8_readClause 80 = .ok (.iconst 3, 1) := by decide +kernel
theorem dX8_readClause_81 : decode cX8_readClause 81 = .ok (.iconst 0, 1) := by decide +kernel
theorem dX8_readClause_82 : decode cX8_readClause 82 = .ok (.invokevirtual 70, 3) := by decide +kernel
theorem dX8_readClause_85 : decode cX8_readClause 85 = .ok (.return_, 1) := by decide +kernel
theorem dX9_bestParted_0 : decode cX9_bestParted 0 = .ok (.iconst 0, 1) := by decide +kernel
theorem dX9_bestParted_1 : decode cX9_bestParted 1 = .ok (.istore_n 2, 1) := by decide +kernel
theorem dX9_bestParted_2 : decode cX9_bestParted 2 = .ok (.iconst 1, 1) := by decide +kernel
theorem dX9_bestParted_3 : decode cX9_bestParted 3 = .ok (.istore_n 3, 1) := by decide +kernel
theorem dX9_bestParted_4 : decode cX9_bestParted 4 = .ok (.iload_n 3, 1) := by decide +kernel
theorem dX9_bestParted_5 : decode cX9_bestParted 5 = .ok (.iload_n 1, 1) := by decide +kernel
theorem dX9_bestParted_6 : decode cX9_bestParted 6 = .ok (.if_icmp .ge 24, 3) := by decide +kernel
theorem dX9_bestParted_9 : decode cX9_bestParted 9 = .ok (.aload_n 0, 1) := by decide +kernel
theorem dX9_bestParted_10 : decode cX9_bestParted 10 = .ok (.iload_n 3, 1) := by decide +kernel
theorem dX9_bestParted_11 : decode cX9_bestParted 11 = .ok (.invokevirtual 87, 3) := by decide +kernel
theorem dX9_bestParted_14 : decode cX9_bestParted 14 = .ok (.aload_n 0, 1) := by decide +kernel
theorem dX9_bestParted_15 : decode cX9_bestParted 15 = .ok (.iload_n 2, 1) := by decide +kernel
theorem dX9_bestParted_16 : decode cX9_bestParted 16 = .ok (.invokevirtual 87, 3) := by decide +kernel
theorem dX9_bestParted_19 : decode cX9_bestParted 19 = .ok (.if_icmp .ge 5, 3) := by decide +kernel
theorem dX9_bestParted_22 : decode cX9_bestParted 22 = .ok (.iload_n 3, 1) := by decide +kernel
theorem dX9_bestParted_23 : decode cX9_bestParted 23 = .ok (.istore_n 2, 1) := by decide +kernel
theorem dX9_bestParted_24 : decode cX9_bestParted 24 = .ok (.iinc 3 1, 3) := by decide +kernel
theorem dX9_bestParted_27 : decode cX9_bestParted 27 = .ok (.goto (-23), 3) := by decide +kernel
theorem dX9_bestParted_30 : decode cX9_bestParted 30 = .ok (.iload_n 2, 1) := by decide +kernel
theorem dX9_bestParted_31 : decode cX9_bestParted 31 = .ok (.ireturn, 1) := by decide +kernel
theorem dJ0_coder_7d493_0 : decode cJ0_coder_7d493 0 = .ok (.getstatic 38, 3) := by decide +kernel
theorem dJ0_coder_7d493_3 : decode cJ0_coder_7d493 3 = .ok (.ifCond .eq 10, 3) := by decide +kernel
theorem dJ0_coder_7d493_6 : decode cJ0_coder_7d493 6 = .ok (.aload_n 0, 1) := by decide +kernel
theorem dJ0_coder_7d493_7 : decode cJ0_coder_7d493 7 = .ok (.getfield 15, 3) := by decide +kernel
theorem dJ0_coder_7d493_10 : decode cJ0_coder_7d493 10 = .ok (.goto 4, 3) := by decide +kernel
theorem dJ0_coder_7d493_13 : decode cJ0_coder_7d493 13 = .ok (.iconst 1, 1) := by decide +kernel
theorem dJ0_coder_7d493_14 : decode cJ0_coder_7d493 14 = .ok (.ireturn, 1) := by decide +kernel
theorem dX10_scanNumber_0 : decode cX10_scanNumber 0 = .ok (.iload_n 1, 1) := by decide +kernel
theorem dX10_scanNumber_1 : decode cX10_scanNumber 1 = .ok (.istore_n 2, 1) := by decide +kernel
theorem dX10_scanNumber_2 : decode cX10_scanNumber 2 = .ok (.iconst 0, 1) := by decide +kernel
theorem dX10_scanNumber_3 : decode cX10_scanNumber 3 = .ok (.istore_n 3, 1) := by decide +kernel
theorem dX10_scanNumber_4 : decode cX10_scanNumber 4 = .ok (.iload_n 2, 1) := by decide +kernel
theorem dX10_scanNumber_5 : decode cX10_scanNumber 5 = .ok (.aload_n 0, 1) := by decide +kernel
theorem dX10_scanNumber_6 : decode cX10_scanNumber 6 = .ok (.getfield 15, 3) := by decide +kernel
theorem dX10_scanNumber_9 : decode cX10_scanNumber 9 = .ok (.if_icmp .ge 39, 3) := by decide +kernel
theorem dX10_scanNumber_12 : decode cX10_scanNumber 12 = .ok (.aload_n 0, 1) := by decide +kernel
theorem dX10_scanNumber_13 : decode cX10_scanNumber 13 = .ok (.iload_n 2, 1) := by decide +kernel
theorem dX10_scanNumber_14 : decode cX10_scanNumber 14 = .ok (.invokevirtual 65, 3) := by decide +kernel
theorem dX10_scanNumber_17 : decode cX10_scanNumber 17 = .ok (.ifCond .eq 31, 3) := by decide +kernel
theorem dX10_scanNumber_20 : decode cX10_scanNumber 20 = .ok (.iload_n 2, 1) := by decide +kernel
theorem dX10_scanNumber_21 : decode cX10_scanNumber 21 = .ok (.iload_n 1, 1) := by decide +kernel
theorem dX10_scanNumber_22 : decode cX10_scanNumber 22 = .ok (.isub, 1) := by decide +kernel
theorem dX10_scanNumber_23 : decode cX10_scanNumber 23 = .ok (.iconst 5, 1) := by decide +kernel
theorem dX10_scanNumber_24 : decode cX10_scanNumber 24 = .ok (.if_icmp .ge 18, 3) := by decide +kernel
theorem dX10_scanNumber_27 : decode cX10_scanNumber 27 = .ok (.iload_n 3, 1) := by decide +kernel
theorem dX10_scanNumber_28 : decode cX10_scanNumber 28 = .ok (.bipush 10, 2) := by decide +kernel
theorem dX10_scanNumber_30 : decode cX10_scanNumber 30 = .ok (.imul, 1) := by decide +kernel
theorem dX10_scanNumber_31 : decode cX10_scanNumber 31 = .ok (.aload_n 0, 1) := by decide +kernel
theorem dX10_scanNumber_32 : decode cX10_scanNumber 32 = .ok (.getfield 11, 3) := by decide +kernel
theorem dX10_scanNumber_35 : decode cX10_scanNumber 35 = .ok (.iload_n 2, 1) := by decide +kernel
theorem dX10_scanNumber_36 : decode cX10_scanNumber 36 = .ok (.iaload, 1) := by decide +kernel
theorem dX10_scanNumber_37 : decode cX10_scanNumber 37 = .ok (.iadd, 1) := by decide +kernel
theorem dX10_scanNumber_38 : decode cX10_scanNumber 38 = .ok (.bipush 48, 2) := by decide +kernel
theorem dX10_scanNumber_40 : decode cX10_scanNumber 40 = .ok (.isub, 1) := by decide +kernel
theorem dX10_scanNumber_41 : decode cX10_scanNumber 41 = .ok (.istore_n 3, 1) := by decide +kernel
theorem dX10_scanNumber_42 : decode cX10_scanNumber 42 = .ok (.iinc 2 1, 3) := by decide +kernel
theorem dX10_scanNumber_45 : decode cX10_scanNumber 45 = .ok (.goto (-41), 3) := by decide +kernel
theorem dX10_scanNumber_48 : decode cX10_scanNumber 48 = .ok (.aload_n 0, 1) := by decide +kernel
theorem dX10_scanNumber_49 : decode cX10_scanNumber 49 = .ok (.iload_n 2, 1) := by decide +kernel
theorem dX10_scanNumber_50 : decode cX10_scanNumber 50 = .ok (.iload_n 1, 1) := by decide +kernel
theorem dX10_scanNumber_51 : decode cX10_scanNumber 51 = .ok (.isub, 1) := by decide +kernel
theorem dX10_scanNumber_52 : decode cX10_scanNumber 52 = .ok (.iconst 5, 1) := by decide +kernel
theorem dX10_scanNumber_53 : decode cX10_scanNumber 53 = .ok (.if_icmp .le 7, 3) := by decide +kernel
theorem dX10_scanNumber_56 : decode cX10_scanNumber 56 = .ok (.iconst 2, 1) := by decide +kernel
theorem dX10_scanNumber_57 : decode cX10_scanNumber 57 = .ok (.goto 4, 3) := by decide +kernel
theorem dX10_scanNumber_60 : decode cX10_scanNumber 60 = .ok (.iconst 1, 1) := by decide +kernel
theorem dX10_scanNumber_61 : decode cX10_scanNumber 61 = .ok (.iload_n 3, 1) := by decide +kernel
theorem dX10_scanNumber_62 : decode cX10_scanNumber 62 = .ok (.iload_n 1, 1) := by decide +kernel
theorem dX10_scanNumber_63 : decode cX10_scanNumber 63 = .ok (.invokevirtual 50, 3) := by decide +kernel
theorem dX10_scanNumber_66 : decode cX10_scanNumber 66 = .ok (.iload_n 2, 1) := by decide +kernel
theorem dX10_scanNumber_67 : decode cX10_scanNumber 67 = .ok (.ireturn, 1) := by decide +kernel
theorem dX11_leastSkill_0 : decode cX11_leastSkill 0 = .ok (.aload_n 0, 1) := by decide +kernel
theorem dX11_leastSkill_1 : decode cX11_leastSkill 1 = .ok (.getfield 43, 3) := by decide +kernel
theorem dX11_leastSkill_4 : decode cX11_leastSkill 4 = .ok (.getfield 111, 3) := by decide +kernel
theorem dX11_leastSkill_7 : decode cX11_leastSkill 7 = .ok (.iload_n 1, 1) := by decide +kernel
theorem dX11_leastSkill_8 : decode cX11_leastSkill 8 = .ok (.invokevirtual 139, 3) := by decide +kernel
theorem dX11_leastSkill_11 : decode cX11_leastSkill 11 = .ok (.ifCond .eq 13, 3) := by decide +kernel
theorem dX11_leastSkill_14 : decode cX11_leastSkill 14 = .ok (.iload_n 2, 1) := by decide +kernel
theorem dX11_leastSkill_15 : decode cX11_leastSkill 15 = .ok (.iconst 1, 1) := by decide +kernel
theorem dX11_leastSkill_16 : decode cX11_leastSkill 16 = .ok (.bipush 40, 2) := by decide +kernel
theorem dX11_leastSkill_18 : decode cX11_leastSkill 18 = .ok (.invokestatic 90, 3) := by decide +kernel
theorem dX11_leastSkill_21 : decode cX11_leastSkill 21 = .ok (.ifCond .ne 5, 3) := by decide +kernel
theorem dX11_leastSkill_24 : decode cX11_leastSkill 24 = .ok (.iconst (-1), 1) := by decide +kernel
theorem dX11_leastSkill_25 : decode cX11_leastSkill 25 = .ok (.ireturn, 1) := by decide +kernel
theorem dX11_leastSkill_26 : decode cX11_leastSkill 26 = .ok (.iconst 1, 1) := by decide +kernel
theorem dX11_leastSkill_27 : decode cX11_leastSkill 27 = .ok (.istore_n 3, 1) := by decide +kernel
theorem dX11_leastSkill_28 : decode cX11_leastSkill 28 = .ok (.iload_n 3, 1) := by decide +kernel
theorem dX11_leastSkill_29 : decode cX11_leastSkill 29 = .ok (.bipush 9, 2) := by decide +kernel
theorem dX11_leastSkill_31 : decode cX11_leastSkill 31 = .ok (.if_icmp .gt 71, 3) := by decide +kernel
theorem dX11_leastSkill_34 : decode cX11_leastSkill 34 = .ok (.aload_n 0, 1) := by decide +kernel
theorem dX11_leastSkill_35 : decode cX11_leastSkill 35 = .ok (.getfield 61, 3) := by decide +kernel
theorem dX11_leastSkill_38 : decode cX11_leastSkill 38 = .ok (.aload_n 0, 1) := by decide +kernel
theorem dX11_leastSkill_39 : decode cX11_leastSkill 39 = .ok (.getfield 43, 3) := by decide +kernel
theorem dX11_leastSkill_42 : decode cX11_leastSkill 42 = .ok (.getfield 111, 3) := by decide +kernel
theorem dX11_leastSkill_45 : decode cX11_leastSkill 45 = .ok (.aload_n 0, 1) := by decide +kernel
theorem dX11_leastSkill_46 : decode cX11_leastSkill 46 = .ok (.invokevirtual 159, 3) := by decide +kernel
theorem dX11_leastSkill_49 : decode cX11_leastSkill 49 = .ok (.invokevirtual 162, 3) := by decide +kernel
theorem dX11_leastSkill_52 : decode cX11_leastSkill 52 = .ok (.aload_n 0, 1) := by decide +kernel
theorem dX11_leastSkill_53 : decode cX11_leastSkill 53 = .ok (.getfield 61, 3) := by decide +kernel
theorem dX11_leastSkill_56 : decode cX11_leastSkill 56 = .ok (.getfield 170, 3) := by decide +kernel
theorem dX11_leastSkill_59 : decode cX11_leastSkill 59 = .ok (.getfield 124, 3) := by decide +kernel
theorem dX11_leastSkill_62 : decode cX11_leastSkill 62 = .ok (.bipush 43, 2) := by decide +kernel
theorem dX11_leastSkill_64 : decode cX11_leastSkill 64 = .ok (.iload_n 1, 1) := by decide +kernel
theorem dX11_leastSkill_65 : decode cX11_leastSkill 65 = .ok (.iadd, 1) := by decide +kernel
theorem dX11_leastSkill_66 : decode cX11_leastSkill 66 = .ok (.iload_n 3, 1) := by decide +kernel
theorem dX11_leastSkill_67 : decode cX11_leastSkill 67 = .ok (.iastore, 1) := by decide +kernel
theorem dX11_leastSkill_68 : decode cX11_leastSkill 68 = .ok (.aload_n 0, 1) := by decide +kernel
theorem dX11_leastSkill_69 : decode cX11_leastSkill 69 = .ok (.getfield 61, 3) := by decide +kernel
theorem dX11_leastSkill_72 : decode cX11_leastSkill 72 = .ok (.iload_n 2, 1) := by decide +kernel
theorem dX11_leastSkill_73 : decode cX11_leastSkill 73 = .ok (.invokevirtual 187, 3) := by decide +kernel
theorem dX11_leastSkill_76 : decode cX11_leastSkill 76 = .ok (.aload_n 0, 1) := by decide +kernel
theorem dX11_leastSkill_77 : decode cX11_leastSkill 77 = .ok (.getfield 61, 3) := by decide +kernel
theorem dX11_leastSkill_80 : decode cX11_leastSkill 80 = .ok (.getfield 170, 3) := by decide +kernel
theorem dX11_leastSkill_83 : decode cX11_leastSkill 83 = .ok (.getfield 124, 3) := by decide +kernel
theorem dX11_leastSkill_86 : decode cX11_leastSkill 86 = .ok (.bipush 53, 2) := by decide +kernel
theorem dX11_leastSkill_88 : decode cX11_leastSkill 88 = .ok (.iload_n 1, 1) := by decide +kernel
theorem dX11_leastSkill_89 : decode cX11_leastSkill 89 = .ok (.iadd, 1) := by decide +kernel
theorem dX11_leastSkill_90 : decode cX11_leastSkill 90 = .ok (.iaload, 1) := by decide +kernel
theorem dX11_leastSkill_91 : decode cX11_leastSkill 91 = .ok (.ifCond .ne 5, 3) := by decide +kernel
theorem dX11_leastSkill_94 : decode cX11_leastSkill 94 = .ok (.iload_n 3, 1) := by decide +kernel
theorem dX11_leastSkill_95 : decode cX11_leastSkill 95 = .ok (.ireturn, 1) := by decide +kernel
theorem dX11_leastSkill_96 : decode cX11_leastSkill 96 = .ok (.iinc 3 1, 3) := by decide +kernel
theorem dX11_leastSkill_99 : decode cX11_leastSkill 99 = .ok (.goto (-71), 3) := by decide +kernel
theorem dX11_leastSkill_102 : decode cX11_leastSkill 102 = .ok (.bipush (-2), 2) := by decide +kernel
theorem dX11_leastSkill_104 : decode cX11_leastSkill 104 = .ok (.ireturn, 1) := by decide +kernel
theorem dX12_areNotesSo_0 : decode cX12_areNotesSo 0 = .ok (.iconst 0, 1) := by decide +kernel
theorem dX12_areNotesSo_1 : decode cX12_areNotesSo 1 = .ok (.istore_n 2, 1) := by decide +kernel
theorem dX12_areNotesSo_2 : decode cX12_areNotesSo 2 = .ok (.iload_n 2, 1) := by decide +kernel
theorem dX12_areNotesSo_3 : decode cX12_areNotesSo 3 = .ok (.iconst 3, 1) := by decide +kernel
theorem dX12_areNotesSo_4 : decode cX12_areNotesSo 4 = .ok (.aload_n 0, 1) := by decide +kernel
theorem dX12_areNotesSo_5 : decode cX12_areNotesSo 5 = .ok (.getfield 39, 3) := by decide +kernel
theorem dX12_areNotesSo_8 : decode cX12_areNotesSo 8 = .ok (.bipush 114, 2) := by decide +kernel
theorem dX12_areNotesSo_10 : decode cX12_areNotesSo 10 = .ok (.iaload, 1) := by decide +kernel
theorem dX12_areNotesSo_11 : decode cX12_areNotesSo 11 = .ok (.imul, 1) := by decide +kernel
theorem dX12_areNotesSo_12 : decode cX12_areNotesSo 12 = .ok (.if_icmp .ge 54, 3) := by decide +kernel
theorem dX12_areNotesSo_15 : decode cX12_areNotesSo 15 = .ok (.aload_n 0, 1) := by decide +kernel
theorem dX12_areNotesSo_16 : decode cX12_areNotesSo 16 = .ok (.getfield 39, 3) := by decide +kernel
theorem dX12_areNotesSo_19 : decode cX12_areNotesSo 19 = .ok (.bipush 84, 2) := by decide +kernel
theorem dX12_areNotesSo_21 : decode cX12_areNotesSo 21 = .ok (.iload_n 2, 1) := by decide +kernel
theorem dX12_areNotesSo_22 : decode cX12_areNotesSo 22 = .ok (.iadd, 1) := by decide +kernel
theorem dX12_areNotesSo_23 : decode cX12_areNotesSo 23 = .ok (.iaload, 1) := by decide +kernel
theorem dX12_areNotesSo_24 : decode cX12_areNotesSo 24 = .ok (.iload_n 1, 1) := by decide +kernel
theorem dX12_areNotesSo_25 : decode cX12_areNotesSo 25 = .ok (.if_icmp .ne 35, 3) := by decide +kernel
theorem dX12_areNotesSo_28 : decode cX12_areNotesSo 28 = .ok (.aload_n 0, 1) := by decide +kernel
theorem dX12_areNotesSo_29 : decode cX12_areNotesSo 29 = .ok (.getfield 52, 3) := by decide +kernel
theorem dX12_areNotesSo_32 : decode cX12_areNotesSo 32 = .ok (.aload_n 0, 1) := by decide +kernel
theorem dX12_areNotesSo_33 : decode cX12_areNotesSo 33 = .ok (.getfield 39, 3) := by decide +kernel
theorem dX12_areNotesSo_36 : decode cX12_areNotesSo 36 = .ok (.bipush 84, 2) := by decide +kernel
theorem dX12_areNotesSo_38 : decode cX12_areNotesSo 38 = .ok (.iload_n 2, 1) := by decide +kernel
theorem dX12_areNotesSo_39 : decode cX12_areNotesSo 39 = .ok (.iadd, 1) := by decide +kernel
theorem dX12_areNotesSo_40 : decode cX12_areNotesSo 40 = .ok (.iconst 1, 1) := by decide +kernel
theorem dX12_areNotesSo_41 : decode cX12_areNotesSo 41 = .ok (.iadd, 1) := by decide +kernel
theorem dX12_areNotesSo_42 : decode cX12_areNotesSo 42 = .ok (.iaload, 1) := by decide +kernel
theorem dX12_areNotesSo_43 : decode cX12_areNotesSo 43 = .ok (.iaload, 1) := by decide +kernel
theorem dX12_areNotesSo_44 : decode cX12_areNotesSo 44 = .ok (.aload_n 0, 1) := by decide +kernel
theorem dX12_areNotesSo_45 : decode cX12_areNotesSo 45 = .ok (.getfield 39, 3) := by decide +kernel
theorem dX12_areNotesSo_48 : decode cX12_areNotesSo 48 = .ok (.bipush 84, 2) := by decide +kernel
theorem dX12_areNotesSo_50 : decode cX12_areNotesSo 50 = .ok (.iload_n 2, 1) := by decide +kernel
theorem dX12_areNotesSo_51 : decode cX12_areNotesSo 51 = .ok (.iadd, 1) := by decide +kernel
theorem dX12_areNotesSo_52 : decode cX12_areNotesSo 52 = .ok (.iconst 2, 1) := by decide +kernel
theorem dX12_areNotesSo_53 : decode cX12_areNotesSo 53 = .ok (.iadd, 1) := by decide +kernel
theorem dX12_areNotesSo_54 : decode cX12_areNotesSo 54 = .ok (.iaload, 1) := by decide +kernel
theorem dX12_areNotesSo_55 : decode cX12_areNotesSo 55 = .ok (.if_icmp .eq 5, 3) := by decide +kernel
theorem dX12_areNotesSo_58 : decode cX12_areNotesSo 58 = .ok (.iconst 0, 1) := by decide +kernel
theorem dX12_areNotesSo_59 : decode cX12_areNotesSo 59 = .ok (.ireturn, 1) := by decide +kernel
theorem dX12_areNotesSo_60 : decode cX12_areNotesSo 60 = .ok (.iinc 2 3, 3) := by decide +kernel
theorem dX12_areNotesSo_63 : decode cX12_areNotesSo 63 = .ok (.goto (-61), 3) := by decide +kernel
theorem dX12_areNotesSo_66 : decode cX12_areNotesSo 66 = .ok (.iconst 1, 1) := by decide +kernel
theorem dX12_areNotesSo_67 : decode cX12_areNotesSo 67 = .ok (.ireturn, 1) := by decide +kernel
theorem dX12_clauseHere_0 : decode cX12_clauseHere 0 = .ok (.aload_n 0, 1) := by decide +kernel
theorem dX12_clauseHere_1 : decode cX12_clauseHere 1 = .ok (.invokevirtual 102, 3) := by decide +kernel
theorem dX12_clauseHere_4 : decode cX12_clauseHere 4 = .ok (.pop, 1) := by decide +kernel
theorem dX12_clauseHere_5 : decode cX12_clauseHere 5 = .ok (.aload_n 0, 1) := by decide +kernel
theorem dX12_clauseHere_6 : decode cX12_clauseHere 6 = .ok (.getfield 99, 3) := by decide +kernel
theorem dX12_clauseHere_9 : decode cX12_clauseHere 9 = .ok (.istore_n 1, 1) := by decide +kernel
theorem dX12_clauseHere_10 : decode cX12_clauseHere 10 = .ok (.aload_n 0, 1) := by decide +kernel
theorem dX12_clauseHere_11 : decode cX12_clauseHere 11 = .ok (.getfield 157, 3) := by decide +kernel
theorem dX12_clauseHere_14 : decode cX12_clauseHere 14 = .ok (.bipush 6, 2) := by decide +kernel
theorem dX12_clauseHere_16 : decode cX12_clauseHere 16 = .ok (.if_icmp .ne 7, 3) := by decide +kernel
theorem dX12_clauseHere_19 : decode cX12_clauseHere 19 = .ok (.iconst 1, 1) := by decide +kernel
theorem dX12_clauseHere_20 : decode cX12_clauseHere 20 = .ok (.goto 4, 3) := by decide +kernel
theorem dX12_clauseHere_23 : decode cX12_clauseHere 23 = .ok (.iconst 0, 1) := by decide +kernel
theorem dX12_clauseHere_24 : decode cX12_clauseHere 24 = .ok (.istore_n 2, 1) := by decide +kernel
theorem dX12_clauseHere_25 : decode cX12_clauseHere 25 = .ok (.iload_n 2, 1) := by decide +kernel
theorem dX12_clauseHere_26 : decode cX12_clauseHere 26 = .ok (.ifCond .eq 13, 3) := by decide +kernel
theorem dX12_clauseHere_29 : decode cX12_clauseHere 29 = .ok (.aload_n 0, 1) := by decide +kernel
theorem dX12_clauseHere_30 : decode cX12_clauseHere 30 = .ok (.invokevirtual 250, 3) := by decide +kernel
theorem dX12_clauseHere_33 : decode cX12_clauseHere 33 = .ok (.ifCond .ne 23, 3) := by decide +kernel
theorem dX12_clauseHere_36 : decode cX12_clauseHere 36 = .ok (.goto 13, 3) := by decide +kernel
theorem dX12_clauseHere_39 : decode cX12_clauseHere 39 = .ok (.aload_n 0, 1) := by decide +kernel
theorem dX12_clauseHere_40 : decode cX12_clauseHere 40 = .ok (.ldc2_w 253, 3) := by decide +kernel
theorem dX12_clauseHere_43 : decode cX12_clauseHere 43 = .ok (.invokevirtual 110, 3) := by decide +kernel
theorem dX12_clauseHere_46 : decode cX12_clauseHere 46 = .ok (.ifCond .ne 10, 3) := by decide +kernel
theorem dX12_clauseHere_49 : decode cX12_clauseHere 49 = .ok (.aload_n 0, 1) := by decide +kernel
theorem dX12_clauseHere_50 : decode cX12_clauseHere 50 = .ok (.iconst 0, 1) := by decide +kernel
theorem dX12_clauseHere_51 : decode cX12_clauseHere 51 = .ok (.iload_n 1, 1) := by decide +kernel
theorem dX12_clauseHere_52 : decode cX12_clauseHere 52 = .ok (.invokevirtual 120, 3) := by decide +kernel
theorem dX12_clauseHere_55 : decode cX12_clauseHere 55 = .ok (.ireturn, 1) := by decide +kernel
theorem dX12_clauseHere_56 : decode cX12_clauseHere 56 = .ok (.aload_n 0, 1) := by decide +kernel
theorem dX12_clauseHere_57 : decode cX12_clauseHere 57 = .ok (.getfield 255, 3) := by decide +kernel
theorem dX12_clauseHere_60 : decode cX12_clauseHere 60 = .ok (.iload_n 2, 1) := by decide +kernel
theorem dX12_clauseHere_61 : decode cX12_clauseHere 61 = .ok (.ifCond .eq 8, 3) := by decide +kernel
theorem dX12_clauseHere_64 : decode cX12_clauseHere 64 = .ok (.bipush 40, 2) := by decide +kernel
theorem dX12_clauseHere_66 : decode cX12_clauseHere 66 = .ok (.goto 5, 3) := by decide +kernel
theorem dX12_clauseHere_69 : decode cX12_clauseHere 69 = .ok (.bipush 12, 2) := by decide +kernel
theorem dX12_clauseHere_71 : decode cX12_clauseHere 71 = .ok (.if_icmp .ne 10, 3) := by decide +kernel
theorem dX12_clauseHere_74 : decode cX12_clauseHere 74 = .ok (.aload_n 0, 1) := by decide +kernel
theorem dX12_clauseHere_75 : decode cX12_clauseHere 75 = .ok (.iconst 4, 1) := by decide +kernel
theorem dX12_clauseHere_76 : decode cX12_clauseHere 76 = .ok (.iload_n 1, 1) := by decide +kernel
theorem dX12_clauseHere_77 : decode cX12_clauseHere 77 = .ok (.invokevirtual 120, 3) := by decide +kernel
theorem dX12_clauseHere_80 : decode cX12_clauseHere 80 = .ok (.ireturn, 1) := by decide +kernel
theorem dX12_clauseHere_81 : decode cX12_clauseHere 81 = .ok (.aload_n 0, 1) := by decide +kernel
theorem dX12_clauseHere_82 : decode cX12_clauseHere 82 = .ok (.dup, 1) := by decide +kernel
theorem dX12_clauseHere_83 : decode cX12_clauseHere 83 = .ok (.getfield 255, 3) := by decide +kernel
theorem dX12_clauseHere_86 : decode cX12_clauseHere 86 = .ok (.iconst 1, 1) := by decide +kernel
theorem dX12_clauseHere_87 : decode cX12_clauseHere 87 = .ok (.iadd, 1) := by decide +kernel
theorem dX12_clauseHere_88 : decode cX12_clauseHere 88 = .ok (.putfield 255, 3) := by decide +kernel
theorem dX12_clauseHere_91 : decode cX12_clauseHere 91 = .ok (.iload_n 2, 1) := by decide +kernel
theorem dX12_clauseHere_92 : decode cX12_clauseHere 92 = .ok (.ifCond .eq 11, 3) := by decide +kernel
theorem dX12_clauseHere_95 : decode cX12_clauseHere 95 = .ok (.aload_n 0, 1) := by decide +kernel
theorem dX12_clauseHere_96 : decode cX12_clauseHere 96 = .ok (.iload_n 1, 1) := by decide +kernel
theorem dX12_clauseHere_97 : decode cX12_clauseHere 97 = .ok (.invokevirtual 258, 3) := by decide +kernel
theorem dX12_clauseHere_100 : decode cX12_clauseHere 100 = .ok (.goto 7, 3) := by decide +kernel
theorem dX12_clauseHere_103 : decode cX12_clauseHere 103 = .ok (.aload_n 0, 1) := by decide +kernel
theorem dX12_clauseHere_104 : decode cX12_clauseHere 104 = .ok (.invokevirtual 261, 3) := by decide +kernel
theorem dX12_clauseHere_107 : decode cX12_clauseHere 107 = .ok (.ireturn, 1) := by decide +kernel
theorem dX12_isRingHere_0 : decode cX12_isRingHere 0 = .ok (.aload_n 0, 1) := by decide +kernel
theorem dX12_isRingHere_1 : decode cX12_isRingHere 1 = .ok (.getfield 26, 3) := by decide +kernel
theorem dX12_isRingHere_4 : decode cX12_isRingHere 4 = .ok (.iconst 4, 1) := by decide +kernel
theorem dX12_isRingHere_5 : decode cX12_isRingHere 5 = .ok (.iaload, 1) := by decide +kernel
theorem dX12_isRingHere_6 : decode cX12_isRingHere 6 = .ok (.bipush 6, 2) := by decide +kernel
theorem dX12_isRingHere_8 : decode cX12_isRingHere 8 = .ok (.if_icmp .ne 10, 3) := by decide +kernel
theorem dX12_isRingHere_11 : decode cX12_isRingHere 11 = .ok (.aload_n 0, 1) := by decide +kernel
theorem dX12_isRingHere_12 : decode cX12_isRingHere 12 = .ok (.iconst 4, 1) := by decide +kernel
theorem dX12_isRingHere_13 : decode cX12_isRingHere 13 = .ok (.iload_n 1, 1) := by decide +kernel
theorem dX12_isRingHere_14 : decode cX12_isRingHere 14 = .ok (.invokevirtual 120, 3) := by decide +kernel
theorem dX12_isRingHere_17 : decode cX12_isRingHere 17 = .ok (.ireturn, 1) := by decide +kernel
theorem dX12_isRingHere_18 : decode cX12_isRingHere 18 = .ok (.aload_n 0, 1) := by decide +kernel
theorem dX12_isRingHere_19 : decode cX12_isRingHere 19 = .ok (.invokevirtual 114, 3) := by decide +kernel
theorem dX12_isRingHere_22 : decode cX12_isRingHere 22 = .ok (.aload_n 0, 1) := by decide +kernel
theorem dX12_isRingHere_23 : decode cX12_isRingHere 23 = .ok (.invokevirtual 102, 3) := by decide +kernel
theorem dX12_isRingHere_26 : decode cX12_isRingHere 26 = .ok (.pop, 1) := by decide +kernel
theorem dX12_isRingHere_27 : decode cX12_isRingHere 27 = .ok (.aload_n 0, 1) := by decide +kernel
theorem dX12_isRingHere_28 : decode cX12_isRingHere 28 = .ok (.getfield 99, 3) := by decide +kernel
theorem dX12_isRingHere_31 : decode cX12_isRingHere 31 = .ok (.istore_n 2, 1) := by decide +kernel
theorem dX12_isRingHere_32 : decode cX12_isRingHere 32 = .ok (.aload_n 0, 1) := by decide +kernel
theorem dX12_isRingHere_33 : decode cX12_isRingHere 33 = .ok (.iconst 0, 1) := by decide +kernel
theorem dX12_isRingHere_34 : decode cX12_isRingHere 34 = .ok (.aload_n 0, 1) := by decide +kernel
theorem dX12_isRingHere_35 : decode cX12_isRingHere 35 = .ok (.getfield 26, 3) := by decide +kernel
theorem dX12_isRingHere_38 : decode cX12_isRingHere 38 = .ok (.iconst 1, 1) := by decide +kernel
theorem dX12_isRingHere_39 : decode cX12_isRingHere 39 = .ok (.iaload, 1) := by decide +kernel
theorem dX12_isRingHere_40 : decode cX12_isRingHere 40 = .ok (.iconst 1, 1) := by decide +kernel
theorem dX12_isRingHere_41 : decode cX12_isRingHere 41 = .ok (.isub, 1) := by decide +kernel
theorem dX12_isRingHere_42 : decode cX12_isRingHere 42 = .ok (.invokevirtual 178, 3) := by decide +kernel
theorem dX12_isRingHere_45 : decode cX12_isRingHere 45 = .ok (.ifCond .ne 5, 3) := by decide +kernel
theorem dX12_isRingHere_48 : decode cX12_isRingHere 48 = .ok (.iconst 0, 1) := by decide +kernel
theorem dX12_isRingHere_49 : decode cX12_isRingHere 49 = .ok (.ireturn, 1) := by decide +kernel
theorem dX12_isRingHere_50 : decode cX12_isRingHere 50 = .ok (.aload_n 0, 1) := by decide +kernel
theorem dX12_isRingHere_51 : decode cX12_isRingHere 51 = .ok (.aload_n 0, 1) := by decide +kernel
theorem dX12_isRingHere_52 : decode cX12_isRingHere 52 = .ok (.getfield 124, 3) := by decide +kernel
theorem dX12_isRingHere_55 : decode cX12_isRingHere 55 = .ok (.invokevirtual 233, 3) := by decide +kernel
theorem dX12_isRingHere_58 : decode cX12_isRingHere 58 = .ok (.ifCond .eq 10, 3) := by decide +kernel
theorem dX12_isRingHere_61 : decode cX12_isRingHere 61 = .ok (.aload_n 0, 1) := by decide +kernel
theorem dX12_isRingHere_62 : decode cX12_isRingHere 62 = .ok (.iconst 1, 1) := by decide +kernel
theorem dX12_isRingHere_63 : decode cX12_isRingHere 63 = .ok (.iload_n 2, 1) := by decide +kernel
theorem dX12_isRingHere_64 : decode cX12_isRingHere 64 = .ok (.invokevirtual 120, 3) := by decide +kernel
theorem dX12_isRingHere_67 : decode cX12_isRingHere 67 = .ok (.ireturn, 1) := by decide +kernel
theorem dX12_isRingHere_68 : decode cX12_isRingHere 68 = .ok (.aload_n 0, 1) := by decide +kernel
theorem dX12_isRingHere_69 : decode cX12_isRingHere 69 = .ok (.getfield 26, 3) := by decide +kernel
theorem dX12_isRingHere_72 : decode cX12_isRingHere 72 = .ok (.bipush 68, 2) := by decide +kernel
theorem dX12_isRingHere_74 : decode cX12_isRingHere 74 = .ok (.aload_n 0, 1) := by decide +kernel
theorem dX12_isRingHere_75 : decode cX12_isRingHere 75 = .ok (.getfield 26, 3) := by decide +kernel
theorem dX12_isRingHere_78 : decode cX12_isRingHere 78 = .ok (.iconst 4, 1) := by decide +kernel
theorem dX12_isRingHere_79 : decode cX12_isRingHere 79 = .ok (.iaload, 1) := by decide +kernel
theorem dX12_isRingHere_80 : decode cX12_isRingHere 80 = .ok (.iadd, 1) := by decide +kernel
theorem dX12_isRingHere_81 : decode cX12_isRingHere 81 = .ok (.aload_n 0, 1) := by decide +kernel
theorem dX12_isRingHere_82 : decode cX12_isRingHere 82 = .ok (.getfield 124, 3) := by decide +kernel
theorem dX12_isRingHere_85 : decode cX12_isRingHere 85 = .ok (.iastore, 1) := by decide +kernel
theorem dX12_isRingHere_86 : decode cX12_isRingHere 86 = .ok (.aload_n 0, 1) := by decide +kernel
theorem dX12_isRingHere_87 : decode cX12_isRingHere 87 = .ok (.bipush 40, 2) := by decide +kernel
theorem dX12_isRingHere_89 : decode cX12_isRingHere 89 = .ok (.aload_n 0, 1) := by decide +kernel
theorem dX12_isRingHere_90 : decode cX12_isRingHere 90 = .ok (.getfield 26, 3) := by decide +kernel
theorem dX12_isRingHere_93 : decode cX12_isRingHere 93 = .ok (.iconst 4, 1) := by decide +kernel
theorem dX12_isRingHere_94 : decode cX12_isRingHere 94 = .ok (.iaload, 1) := by decide +kernel
theorem dX12_isRingHere_95 : decode cX12_isRingHere 95 = .ok (.iadd, 1) := by decide +kernel
theorem dX12_isRingHere_96 : decode cX12_isRingHere 96 = .ok (.iconst 1, 1) := by decide +kernel
theorem dX12_isRingHere_97 : decode cX12_isRingHere 97 = .ok (.bipush 9, 2) := by decide +kernel
theorem dX12_isRingHere_99 : decode cX12_isRingHere 99 = .ok (.invokevirtual 229, 3) := by decide +kernel
theorem dX12_isRingHere_102 : decode cX12_isRingHere 102 = .ok (.ifCond .ne 5, 3) := by decide +kernel
theorem dX12_isRingHere_105 : decode cX12_isRingHere 105 = .ok (.iconst 0, 1) := by decide +kernel
theorem dX12_isRingHere_106 : decode cX12_isRingHere 106 = .ok (.ireturn, 1) := by decide +kernel
theorem dX12_isRingHere_107 : decode cX12_isRingHere 107 = .ok (.aload_n 0, 1) := by decide +kernel
theorem dX12_isRingHere_108 : decode cX12_isRingHere 108 = .ok (.getfield 26, 3) := by decide +kernel
theorem dX12_isRingHere_111 : decode cX12_isRingHere 111 = .ok (.iconst 4, 1) := by decide +kernel
theorem dX12_isRingHere_112 : decode cX12_isRingHere 112 = .ok (.dup2, 1) := by decide +kernel
theorem dX12_isRingHere_113 : decode cX12_isRingHere 113 = .ok (.iaload, 1) := by decide +kernel
theorem dX12_isRingHere_114 : decode cX12_isRingHere 114 = .ok (.iconst 1, 1) := by decide +kernel
theorem dX12_isRingHere_115 : decode cX12_isRingHere 115 = .ok (.iadd, 1) := by decide +kernel
theorem dX12_isRingHere_116 : decode cX12_isRingHere 116 = .ok (.iastore, 1) := by decide +kernel
theorem dX12_isRingHere_117 : decode cX12_isRingHere 117 = .ok (.iconst 1, 1) := by decide +kernel
theorem dX12_isRingHere_118 : decode cX12_isRingHere 118 = .ok (.ireturn, 1) := by decide +kernel
theorem dX12_isWindHere_0 : decode cX12_isWindHere 0 = .ok (.aload_n 0, 1) := by decide +kernel
theorem dX12_isWindHere_1 : decode cX12_isWindHere 1 = .ok (.getfield 26, 3) := by decide +kernel
theorem dX12_isWindHere_4 : decode cX12_isWindHere 4 = .ok (.iconst 3, 1) := by decide +kernel
theorem dX12_isWindHere_5 : decode cX12_isWindHere 5 = .ok (.iaload, 1) := by decide +kernel
theorem dX12_isWindHere_6 : decode cX12_isWindHere 6 = .ok (.bipush 12, 2) := by decide +kernel
theorem dX12_isWindHere_8 : decode cX12_isWindHere 8 = .ok (.if_icmp .ne 10, 3) := by decide +kernel
theorem dX12_isWindHere_11 : decode cX12_isWindHere 11 = .ok (.aload_n 0, 1) := by decide +kernel
theorem dX12_isWindHere_12 : decode cX12_isWindHere 12 = .ok (.iconst 4, 1) := by decide +kernel
theorem dX12_isWindHere_13 : decode cX12_isWindHere 13 = .ok (.iload_n 1, 1) := by decide +kernel
theorem dX12_isWindHere_14 : decode cX12_isWindHere 14 = .ok (.invokevirtual 120, 3) := by decide +kernel
theorem dX12_isWindHere_17 : decode cX12_isWindHere 17 = .ok (.ireturn, 1) := by decide +kernel
theorem dX12_isWindHere_18 : decode cX12_isWindHere 18 = .ok (.aload_n 0, 1) := by decide +kernel
theorem dX12_isWindHere_19 : decode cX12_isWindHere 19 = .ok (.invokevirtual 114, 3) := by decide +kernel
theorem dX12_isWindHere_22 : decode cX12_isWindHere 22 = .ok (.aload_n 0, 1) := by decide +kernel
theorem dX12_isWindHere_23 : decode cX12_isWindHere 23 = .ok (.bipush 56, 2) := by decide +kernel
theorem dX12_isWindHere_25 : decode cX12_isWindHere 25 = .ok (.aload_n 0, 1) := by decide +kernel
theorem dX12_isWindHere_26 : decode cX12_isWindHere 26 = .ok (.getfield 26, 3) := by decide +kernel
theorem dX12_isWindHere_29 : decode cX12_isWindHere 29 = .ok (.iconst 3, 1) := by decide +kernel
theorem dX12_isWindHere_30 : decode cX12_isWindHere 30 = .ok (.iaload, 1) := by decide +kernel
theorem dX12_isWindHere_31 : decode cX12_isWindHere 31 = .ok (.iadd, 1) := by decide +kernel
theorem dX12_isWindHere_32 : decode cX12_isWindHere 32 = .ok (.iconst 0, 1) := by decide +kernel
theorem dX12_isWindHere_33 : decode cX12_isWindHere 33 = .ok (.bipush 8, 2) := by decide +kernel
theorem dX12_isWindHere_35 : decode cX12_isWindHere 35 = .ok (.invokevirtual 229, 3) := by decide +kernel
theorem dX12_isWindHere_38 : decode cX12_isWindHere 38 = .ok (.ifCond .ne 5, 3) := by decide +kernel
theorem dX12_isWindHere_41 : decode cX12_isWindHere 41 = .ok (.iconst 0, 1) := by decide +kernel
theorem dX12_isWindHere_42 : decode cX12_isWindHere 42 = .ok (.ireturn, 1) := by decide +kernel
theorem dX12_isWindHere_43 : decode cX12_isWindHere 43 = .ok (.aload_n 0, 1) := by decide +kernel
theorem dX12_isWindHere_44 : decode cX12_isWindHere 44 = .ok (.getfield 26, 3) := by decide +kernel
theorem dX12_isWindHere_47 : decode cX12_isWindHere 47 = .ok (.iconst 3, 1) := by decide +kernel
theorem dX12_isWindHere_48 : decode cX12_isWindHere 48 = .ok (.dup2, 1) := by decide +kernel
theorem dX12_isWindHere_49 : decode cX12_isWindHere 49 = .ok (.iaload, 1) := by decide +kernel
theorem dX12_isWindHere_50 : decode cX12_isWindHere 50 = .ok (.iconst 1, 1) := by decide +kernel
theorem dX12_isWindHere_51 : decode cX12_isWindHere 51 = .ok (.iadd, 1) := by decide +kernel
theorem dX12_isWindHere_52 : decode cX12_isWindHere 52 = .ok (.iastore, 1) := by decide +kernel
theorem dX12_isWindHere_53 : decode cX12_isWindHere 53 = .ok (.iconst 1, 1) := by decide +kernel
theorem dX12_isWindHere_54 : decode cX12_isWindHere 54 = .ok (.ireturn, 1) := by decide +kernel
theorem dX12_leastSkill_0 : decode cX12_leastSkill 0 = .ok (.aload_n 0, 1) := by decide +kernel
theorem dX12_leastSkill_1 : decode cX12_leastSkill 1 = .ok (.iload_n 1, 1) := by decide +kernel
theorem dX12_leastSkill_2 : decode cX12_leastSkill 2 = .ok (.invokevirtual 314, 3) := by decide +kernel
theorem dX12_leastSkill_5 : decode cX12_leastSkill 5 = .ok (.ifCond .eq 15, 3) := by decide +kernel
theorem dX12_leastSkill_8 : decode cX12_leastSkill 8 = .ok (.iload_n 2, 1) := by decide +kernel
theorem dX12_leastSkill_9 : decode cX12_leastSkill 9 = .ok (.i2l, 1) := by decide +kernel
theorem dX12_leastSkill_10 : decode cX12_leastSkill 10 = .ok (.lconst 1, 1) := by decide +kernel
theorem dX12_leastSkill_11 : decode cX12_leastSkill 11 = .ok (.ldc2_w 404, 3) := by decide +kernel
theorem dX12_leastSkill_14 : decode cX12_leastSkill 14 = .ok (.invokestatic 127, 3) := by decide +kernel
theorem dX12_leastSkill_17 : decode cX12_leastSkill 17 = .ok (.ifCond .ne 5, 3) := by decide +kernel
theorem dX12_leastSkill_20 : decode cX12_leastSkill 20 = .ok (.iconst (-1), 1) := by decide +kernel
theorem dX12_leastSkill_21 : decode cX12_leastSkill 21 = .ok (.ireturn, 1) := by decide +kernel
theorem dX12_leastSkill_22 : decode cX12_leastSkill 22 = .ok (.bipush (-2), 2) := by decide +kernel
theorem dX12_leastSkill_24 : decode cX12_leastSkill 24 = .ok (.istore_n 3, 1) := by decide +kernel
theorem dX12_leastSkill_25 : decode cX12_leastSkill 25 = .ok (.aload_n 0, 1) := by decide +kernel
theorem dX12_leastSkill_26 : decode cX12_leastSkill 26 = .ok (.invokevirtual 372, 3) := by decide +kernel
theorem dX12_leastSkill_29 : decode cX12_leastSkill 29 = .ok (.iconst 1, 1) := by decide +kernel
theorem dX12_leastSkill_30 : decode cX12_leastSkill 30 = .ok (.istore 4, 2) := by decide +kernel
theorem dX12_leastSkill_32 : decode cX12_leastSkill 32 = .ok (.iload 4, 2) := by decide +kernel
theorem dX12_leastSkill_34 : decode cX12_leastSkill 34 = .ok (.bipush 9, 2) := by decide +kernel
theorem dX12_leastSkill_36 : decode cX12_leastSkill 36 = .ok (.if_icmp .gt 46, 3) := by decide +kernel
