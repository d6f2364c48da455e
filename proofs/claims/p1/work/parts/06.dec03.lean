theorem dX12_teach_37 : decode cX12_teach 37 = .ok (.invokevirtual 303, 3) := by decide +kernel
theorem dX12_teach_40 : decode cX12_teach 40 = .ok (.istore_n 3, 1) := by decide +kernel
theorem dX12_teach_41 : decode cX12_teach 41 = .ok (.aload_n 0, 1) := by decide +kernel
theorem dX12_teach_42 : decode cX12_teach 42 = .ok (.getfield 39, 3) := by decide +kernel
theorem dX12_teach_45 : decode cX12_teach 45 = .ok (.bipush 25, 2) := by decide +kernel
theorem dX12_teach_47 : decode cX12_teach 47 = .ok (.iconst 3, 1) := by decide +kernel
theorem dX12_teach_48 : decode cX12_teach 48 = .ok (.iload_n 1, 1) := by decide +kernel
theorem dX12_teach_49 : decode cX12_teach 49 = .ok (.imul, 1) := by decide +kernel
theorem dX12_teach_50 : decode cX12_teach 50 = .ok (.iadd, 1) := by decide +kernel
theorem dX12_teach_51 : decode cX12_teach 51 = .ok (.iload_n 2, 1) := by decide +kernel
theorem dX12_teach_52 : decode cX12_teach 52 = .ok (.iastore, 1) := by decide +kernel
theorem dX12_teach_53 : decode cX12_teach 53 = .ok (.iload_n 3, 1) := by decide +kernel
theorem dX12_teach_54 : decode cX12_teach 54 = .ok (.ireturn, 1) := by decide +kernel
theorem dX1_isTold_0 : decode cX1_isTold 0 = .ok (.aload_n 0, 1) := by decide +kernel
theorem dX1_isTold_1 : decode cX1_isTold 1 = .ok (.getfield 11, 3) := by decide +kernel
theorem dX1_isTold_4 : decode cX1_isTold 4 = .ok (.iconst 0, 1) := by decide +kernel
theorem dX1_isTold_5 : decode cX1_isTold 5 = .ok (.iaload, 1) := by decide +kernel
theorem dX1_isTold_6 : decode cX1_isTold 6 = .ok (.ifCond .le 7, 3) := by decide +kernel
theorem dX1_isTold_9 : decode cX1_isTold 9 = .ok (.iconst 1, 1) := by decide +kernel
theorem dX1_isTold_10 : decode cX1_isTold 10 = .ok (.goto 4, 3) := by decide +kernel
theorem dX1_isTold_13 : decode cX1_isTold 13 = .ok (.iconst 0, 1) := by decide +kernel
theorem dX1_isTold_14 : decode cX1_isTold 14 = .ok (.ireturn, 1) := by decide +kernel
theorem dX10_failAt_0 : decode cX10_failAt 0 = .ok (.aload_n 0, 1) := by decide +kernel
theorem dX10_failAt_1 : decode cX10_failAt 1 = .ok (.getfield 43, 3) := by decide +kernel
theorem dX10_failAt_4 : decode cX10_failAt 4 = .ok (.ifCond .ne 15, 3) := by decide +kernel
theorem dX10_failAt_7 : decode cX10_failAt 7 = .ok (.aload_n 0, 1) := by decide +kernel
theorem dX10_failAt_8 : decode cX10_failAt 8 = .ok (.iconst 1, 1) := by decide +kernel
theorem dX10_failAt_9 : decode cX10_failAt 9 = .ok (.bipush 8, 2) := by decide +kernel
theorem dX10_failAt_11 : decode cX10_failAt 11 = .ok (.iload_n 1, 1) := by decide +kernel
theorem dX10_failAt_12 : decode cX10_failAt 12 = .ok (.imul, 1) := by decide +kernel
theorem dX10_failAt_13 : decode cX10_failAt 13 = .ok (.iadd, 1) := by decide +kernel
theorem dX10_failAt_14 : decode cX10_failAt 14 = .ok (.iload_n 2, 1) := by decide +kernel
theorem dX10_failAt_15 : decode cX10_failAt 15 = .ok (.iadd, 1) := by decide +kernel
theorem dX10_failAt_16 : decode cX10_failAt 16 = .ok (.putfield 43, 3) := by decide +kernel
theorem dX10_failAt_19 : decode cX10_failAt 19 = .ok (.return_, 1) := by decide +kernel
theorem dX10_isSign_0 : decode cX10_isSign 0 = .ok (.aload_n 0, 1) := by decide +kernel
theorem dX10_isSign_1 : decode cX10_isSign 1 = .ok (.getfield 34, 3) := by decide +kernel
theorem dX10_isSign_4 : decode cX10_isSign 4 = .ok (.iconst 4, 1) := by decide +kernel
theorem dX10_isSign_5 : decode cX10_isSign 5 = .ok (.if_icmp .ne 15, 3) := by decide +kernel
theorem dX10_isSign_8 : decode cX10_isSign 8 = .ok (.aload_n 0, 1) := by decide +kernel
theorem dX10_isSign_9 : decode cX10_isSign 9 = .ok (.getfield 37, 3) := by decide +kernel
theorem dX10_isSign_12 : decode cX10_isSign 12 = .ok (.iload_n 1, 1) := by decide +kernel
theorem dX10_isSign_13 : decode cX10_isSign 13 = .ok (.if_icmp .ne 7, 3) := by decide +kernel
theorem dX10_isSign_16 : decode cX10_isSign 16 = .ok (.iconst 1, 1) := by decide +kernel
theorem dX10_isSign_17 : decode cX10_isSign 17 = .ok (.goto 4, 3) := by decide +kernel
theorem dX10_isSign_20 : decode cX10_isSign 20 = .ok (.iconst 0, 1) := by decide +kernel
theorem dX10_isSign_21 : decode cX10_isSign 21 = .ok (.ireturn, 1) := by decide +kernel
theorem dX10_isWord_0 : decode cX10_isWord 0 = .ok (.aload_n 0, 1) := by decide +kernel
theorem dX10_isWord_1 : decode cX10_isWord 1 = .ok (.getfield 34, 3) := by decide +kernel
theorem dX10_isWord_4 : decode cX10_isWord 4 = .ok (.iconst 3, 1) := by decide +kernel
theorem dX10_isWord_5 : decode cX10_isWord 5 = .ok (.if_icmp .ne 15, 3) := by decide +kernel
theorem dX10_isWord_8 : decode cX10_isWord 8 = .ok (.aload_n 0, 1) := by decide +kernel
theorem dX10_isWord_9 : decode cX10_isWord 9 = .ok (.getfield 37, 3) := by decide +kernel
theorem dX10_isWord_12 : decode cX10_isWord 12 = .ok (.iload_n 1, 1) := by decide +kernel
theorem dX10_isWord_13 : decode cX10_isWord 13 = .ok (.if_icmp .ne 7, 3) := by decide +kernel
theorem dX10_isWord_16 : decode cX10_isWord 16 = .ok (.iconst 1, 1) := by decide +kernel
theorem dX10_isWord_17 : decode cX10_isWord 17 = .ok (.goto 4, 3) := by decide +kernel
theorem dX10_isWord_20 : decode cX10_isWord 20 = .ok (.iconst 0, 1) := by decide +kernel
theorem dX10_isWord_21 : decode cX10_isWord 21 = .ok (.ireturn, 1) := by decide +kernel
theorem dX11_archer_0 : decode cX11_archer 0 = .ok (.aload_n 0, 1) := by decide +kernel
theorem dX11_archer_1 : decode cX11_archer 1 = .ok (.getfield 43, 3) := by decide +kernel
theorem dX11_archer_4 : decode cX11_archer 4 = .ok (.getfield 111, 3) := by decide +kernel
theorem dX11_archer_7 : decode cX11_archer 7 = .ok (.iload_n 1, 1) := by decide +kernel
theorem dX11_archer_8 : decode cX11_archer 8 = .ok (.invokevirtual 139, 3) := by decide +kernel
theorem dX11_archer_11 : decode cX11_archer 11 = .ok (.ifCond .ne 5, 3) := by decide +kernel
theorem dX11_archer_14 : decode cX11_archer 14 = .ok (.iconst (-1), 1) := by decide +kernel
theorem dX11_archer_15 : decode cX11_archer 15 = .ok (.ireturn, 1) := by decide +kernel
theorem dX11_archer_16 : decode cX11_archer 16 = .ok (.iload_n 2, 1) := by decide +kernel
theorem dX11_archer_17 : decode cX11_archer 17 = .ok (.tableswitch 115 0 4 #[35, 51, 67, 83, 99], 35) := by decide +kernel
theorem dX11_archer_52 : decode cX11_archer 52 = .ok (.aload_n 0, 1) := by decide +kernel
theorem dX11_archer_53 : decode cX11_archer 53 = .ok (.getfield 43, 3) := by decide +kernel
theorem dX11_archer_56 : decode cX11_archer 56 = .ok (.getfield 111, 3) := by decide +kernel
theorem dX11_archer_59 : decode cX11_archer 59 = .ok (.getfield 124, 3) := by decide +kernel
theorem dX11_archer_62 : decode cX11_archer 62 = .ok (.bipush 38, 2) := by decide +kernel
theorem dX11_archer_64 : decode cX11_archer 64 = .ok (.iload_n 1, 1) := by decide +kernel
theorem dX11_archer_65 : decode cX11_archer 65 = .ok (.iadd, 1) := by decide +kernel
theorem dX11_archer_66 : decode cX11_archer 66 = .ok (.iaload, 1) := by decide +kernel
theorem dX11_archer_67 : decode cX11_archer 67 = .ok (.ireturn, 1) := by decide +kernel
theorem dX11_archer_68 : decode cX11_archer 68 = .ok (.aload_n 0, 1) := by decide +kernel
theorem dX11_archer_69 : decode cX11_archer 69 = .ok (.getfield 43, 3) := by decide +kernel
theorem dX11_archer_72 : decode cX11_archer 72 = .ok (.getfield 111, 3) := by decide +kernel
theorem dX11_archer_75 : decode cX11_archer 75 = .ok (.getfield 124, 3) := by decide +kernel
theorem dX11_archer_78 : decode cX11_archer 78 = .ok (.bipush 43, 2) := by decide +kernel
theorem dX11_archer_80 : decode cX11_archer 80 = .ok (.iload_n 1, 1) := by decide +kernel
theorem dX11_archer_81 : decode cX11_archer 81 = .ok (.iadd, 1) := by decide +kernel
theorem dX11_archer_82 : decode cX11_archer 82 = .ok (.iaload, 1) := by decide +kernel
theorem dX11_archer_83 : decode cX11_archer 83 = .ok (.ireturn, 1) := by decide +kernel
theorem dX11_archer_84 : decode cX11_archer 84 = .ok (.aload_n 0, 1) := by decide +kernel
theorem dX11_archer_85 : decode cX11_archer 85 = .ok (.getfield 43, 3) := by decide +kernel
theorem dX11_archer_88 : decode cX11_archer 88 = .ok (.getfield 111, 3) := by decide +kernel
theorem dX11_archer_91 : decode cX11_archer 91 = .ok (.getfield 124, 3) := by decide +kernel
theorem dX11_archer_94 : decode cX11_archer 94 = .ok (.bipush 48, 2) := by decide +kernel
theorem dX11_archer_96 : decode cX11_archer 96 = .ok (.iload_n 1, 1) := by decide +kernel
theorem dX11_archer_97 : decode cX11_archer 97 = .ok (.iadd, 1) := by decide +kernel
theorem dX11_archer_98 : decode cX11_archer 98 = .ok (.iaload, 1) := by decide +kernel
theorem dX11_archer_99 : decode cX11_archer 99 = .ok (.ireturn, 1) := by decide +kernel
theorem dX11_archer_100 : decode cX11_archer 100 = .ok (.aload_n 0, 1) := by decide +kernel
theorem dX11_archer_101 : decode cX11_archer 101 = .ok (.getfield 43, 3) := by decide +kernel
theorem dX11_archer_104 : decode cX11_archer 104 = .ok (.getfield 111, 3) := by decide +kernel
theorem dX11_archer_107 : decode cX11_archer 107 = .ok (.getfield 124, 3) := by decide +kernel
theorem dX11_archer_110 : decode cX11_archer 110 = .ok (.bipush 53, 2) := by decide +kernel
theorem dX11_archer_112 : decode cX11_archer 112 = .ok (.iload_n 1, 1) := by decide +kernel
theorem dX11_archer_113 : decode cX11_archer 113 = .ok (.iadd, 1) := by decide +kernel
theorem dX11_archer_114 : decode cX11_archer 114 = .ok (.iaload, 1) := by decide +kernel
theorem dX11_archer_115 : decode cX11_archer 115 = .ok (.ireturn, 1) := by decide +kernel
theorem dX11_archer_116 : decode cX11_archer 116 = .ok (.aload_n 0, 1) := by decide +kernel
theorem dX11_archer_117 : decode cX11_archer 117 = .ok (.getfield 43, 3) := by decide +kernel
theorem dX11_archer_120 : decode cX11_archer 120 = .ok (.getfield 111, 3) := by decide +kernel
theorem dX11_archer_123 : decode cX11_archer 123 = .ok (.getfield 124, 3) := by decide +kernel
theorem dX11_archer_126 : decode cX11_archer 126 = .ok (.bipush 58, 2) := by decide +kernel
theorem dX11_archer_128 : decode cX11_archer 128 = .ok (.iload_n 1, 1) := by decide +kernel
theorem dX11_archer_129 : decode cX11_archer 129 = .ok (.iadd, 1) := by decide +kernel
theorem dX11_archer_130 : decode cX11_archer 130 = .ok (.iaload, 1) := by decide +kernel
theorem dX11_archer_131 : decode cX11_archer 131 = .ok (.ireturn, 1) := by decide +kernel
theorem dX11_archer_132 : decode cX11_archer 132 = .ok (.iconst (-1), 1) := by decide +kernel
theorem dX11_archer_133 : decode cX11_archer 133 = .ok (.ireturn, 1) := by decide +kernel
theorem dX11_breath_0 : decode cX11_breath 0 = .ok (.aload_n 0, 1) := by decide +kernel
theorem dX11_breath_1 : decode cX11_breath 1 = .ok (.getfield 43, 3) := by decide +kernel
theorem dX11_breath_4 : decode cX11_breath 4 = .ok (.getfield 111, 3) := by decide +kernel
theorem dX11_breath_7 : decode cX11_breath 7 = .ok (.astore_n 2, 1) := by decide +kernel
theorem dX11_breath_8 : decode cX11_breath 8 = .ok (.aload_n 2, 1) := by decide +kernel
theorem dX11_breath_9 : decode cX11_breath 9 = .ok (.invokevirtual 152, 3) := by decide +kernel
theorem dX11_breath_12 : decode cX11_breath 12 = .ok (.ifCond .eq 13, 3) := by decide +kernel
theorem dX11_breath_15 : decode cX11_breath 15 = .ok (.iload_n 1, 1) := by decide +kernel
theorem dX11_breath_16 : decode cX11_breath 16 = .ok (.iconst 1, 1) := by decide +kernel
theorem dX11_breath_17 : decode cX11_breath 17 = .ok (.bipush 20, 2) := by decide +kernel
theorem dX11_breath_19 : decode cX11_breath 19 = .ok (.invokestatic 90, 3) := by decide +kernel
theorem dX11_breath_22 : decode cX11_breath 22 = .ok (.ifCond .ne 5, 3) := by decide +kernel
theorem dX11_breath_25 : decode cX11_breath 25 = .ok (.iconst (-1), 1) := by decide +kernel
theorem dX11_breath_26 : decode cX11_breath 26 = .ok (.ireturn, 1) := by decide +kernel
theorem dX11_breath_27 : decode cX11_breath 27 = .ok (.aload_n 0, 1) := by decide +kernel
theorem dX11_breath_28 : decode cX11_breath 28 = .ok (.getfield 54, 3) := by decide +kernel
theorem dX11_breath_31 : decode cX11_breath 31 = .ok (.aload_n 2, 1) := by decide +kernel
theorem dX11_breath_32 : decode cX11_breath 32 = .ok (.invokevirtual 156, 3) := by decide +kernel
theorem dX11_breath_35 : decode cX11_breath 35 = .ok (.aload_n 2, 1) := by decide +kernel
theorem dX11_breath_36 : decode cX11_breath 36 = .ok (.getfield 124, 3) := by decide +kernel
theorem dX11_breath_39 : decode cX11_breath 39 = .ok (.bipush 6, 2) := by decide +kernel
theorem dX11_breath_41 : decode cX11_breath 41 = .ok (.dup2, 1) := by decide +kernel
theorem dX11_breath_42 : decode cX11_breath 42 = .ok (.iaload, 1) := by decide +kernel
theorem dX11_breath_43 : decode cX11_breath 43 = .ok (.iload_n 1, 1) := by decide +kernel
theorem dX11_breath_44 : decode cX11_breath 44 = .ok (.iadd, 1) := by decide +kernel
theorem dX11_breath_45 : decode cX11_breath 45 = .ok (.iastore, 1) := by decide +kernel
theorem dX11_breath_46 : decode cX11_breath 46 = .ok (.aload_n 2, 1) := by decide +kernel
theorem dX11_breath_47 : decode cX11_breath 47 = .ok (.getfield 124, 3) := by decide +kernel
theorem dX11_breath_50 : decode cX11_breath 50 = .ok (.bipush 6, 2) := by decide +kernel
theorem dX11_breath_52 : decode cX11_breath 52 = .ok (.iaload, 1) := by decide +kernel
theorem dX11_breath_53 : decode cX11_breath 53 = .ok (.ireturn, 1) := by decide +kernel
theorem dX11_within_0 : decode cX11_within 0 = .ok (.iload_n 0, 1) := by decide +kernel
theorem dX11_within_1 : decode cX11_within 1 = .ok (.iload_n 1, 1) := by decide +kernel
theorem dX11_within_2 : decode cX11_within 2 = .ok (.if_icmp .lt 12, 3) := by decide +kernel
theorem dX11_within_5 : decode cX11_within 5 = .ok (.iload_n 0, 1) := by decide +kernel
theorem dX11_within_6 : decode cX11_within 6 = .ok (.iload_n 2, 1) := by decide +kernel
theorem dX11_within_7 : decode cX11_within 7 = .ok (.if_icmp .gt 7, 3) := by decide +kernel
theorem dX11_within_10 : decode cX11_within 10 = .ok (.iconst 1, 1) := by decide +kernel
theorem dX11_within_11 : decode cX11_within 11 = .ok (.goto 4, 3) := by decide +kernel
theorem dX11_within_14 : decode cX11_within 14 = .ok (.iconst 0, 1) := by decide +kernel
theorem dX11_within_15 : decode cX11_within 15 = .ok (.ireturn, 1) := by decide +kernel
theorem dX12_archer_0 : decode cX12_archer 0 = .ok (.aload_n 0, 1) := by decide +kernel
theorem dX12_archer_1 : decode cX12_archer 1 = .ok (.iload_n 1, 1) := by decide +kernel
theorem dX12_archer_2 : decode cX12_archer 2 = .ok (.invokevirtual 314, 3) := by decide +kernel
theorem dX12_archer_5 : decode cX12_archer 5 = .ok (.ifCond .ne 5, 3) := by decide +kernel
theorem dX12_archer_8 : decode cX12_archer 8 = .ok (.iconst (-1), 1) := by decide +kernel
theorem dX12_archer_9 : decode cX12_archer 9 = .ok (.ireturn, 1) := by decide +kernel
theorem dX12_archer_10 : decode cX12_archer 10 = .ok (.iload_n 2, 1) := by decide +kernel
theorem dX12_archer_11 : decode cX12_archer 11 = .ok (.tableswitch 71 0 4 #[33, 43, 49, 59, 65], 33) := by decide +kernel
theorem dX12_archer_44 : decode cX12_archer 44 = .ok (.aload_n 0, 1) := by decide +kernel
theorem dX12_archer_45 : decode cX12_archer 45 = .ok (.getfield 39, 3) := by decide +kernel
theorem dX12_archer_48 : decode cX12_archer 48 = .ok (.bipush 46, 2) := by decide +kernel
theorem dX12_archer_50 : decode cX12_archer 50 = .ok (.iload_n 1, 1) := by decide +kernel
theorem dX12_archer_51 : decode cX12_archer 51 = .ok (.iadd, 1) := by decide +kernel
theorem dX12_archer_52 : decode cX12_archer 52 = .ok (.iaload, 1) := by decide +kernel
theorem dX12_archer_53 : decode cX12_archer 53 = .ok (.ireturn, 1) := by decide +kernel
theorem dX12_archer_54 : decode cX12_archer 54 = .ok (.aload_n 0, 1) := by decide +kernel
theorem dX12_archer_55 : decode cX12_archer 55 = .ok (.iload_n 1, 1) := by decide +kernel
theorem dX12_archer_56 : decode cX12_archer 56 = .ok (.invokevirtual 303, 3) := by decide +kernel
theorem dX12_archer_59 : decode cX12_archer 59 = .ok (.ireturn, 1) := by decide +kernel
theorem dX12_archer_60 : decode cX12_archer 60 = .ok (.aload_n 0, 1) := by decide +kernel
theorem dX12_archer_61 : decode cX12_archer 61 = .ok (.getfield 39, 3) := by decide +kernel
theorem dX12_archer_64 : decode cX12_archer 64 = .ok (.bipush 51, 2) := by decide +kernel
theorem dX12_archer_66 : decode cX12_archer 66 = .ok (.iload_n 1, 1) := by decide +kernel
theorem dX12_archer_67 : decode cX12_archer 67 = .ok (.iadd, 1) := by decide +kernel
theorem dX12_archer_68 : decode cX12_archer 68 = .ok (.iaload, 1) := by decide +kernel
theorem dX12_archer_69 : decode cX12_archer 69 = .ok (.ireturn, 1) := by decide +kernel
theorem dX12_archer_70 : decode cX12_archer 70 = .ok (.aload_n 0, 1) := by decide +kernel
theorem dX12_archer_71 : decode cX12_archer 71 = .ok (.iload_n 1, 1) := by decide +kernel
theorem dX12_archer_72 : decode cX12_archer 72 = .ok (.invokevirtual 317, 3) := by decide +kernel
theorem dX12_archer_75 : decode cX12_archer 75 = .ok (.ireturn, 1) := by decide +kernel
theorem dX12_archer_76 : decode cX12_archer 76 = .ok (.aload_n 0, 1) := by decide +kernel
theorem dX12_archer_77 : decode cX12_archer 77 = .ok (.iload_n 1, 1) := by decide +kernel
theorem dX12_archer_78 : decode cX12_archer 78 = .ok (.invokevirtual 320, 3) := by decide +kernel
theorem dX12_archer_81 : decode cX12_archer 81 = .ok (.ireturn, 1) := by decide +kernel
theorem dX12_archer_82 : decode cX12_archer 82 = .ok (.iconst (-1), 1) := by decide +kernel
theorem dX12_archer_83 : decode cX12_archer 83 = .ok (.ireturn, 1) := by decide +kernel
theorem dX12_breath_0 : decode cX12_breath 0 = .ok (.aload_n 0, 1) := by decide +kernel
theorem dX12_breath_1 : decode cX12_breath 1 = .ok (.invokevirtual 294, 3) := by decide +kernel
theorem dX12_breath_4 : decode cX12_breath 4 = .ok (.ifCond .eq 15, 3) := by decide +kernel
theorem dX12_breath_7 : decode cX12_breath 7 = .ok (.iload_n 1, 1) := by decide +kernel
theorem dX12_breath_8 : decode cX12_breath 8 = .ok (.i2l, 1) := by decide +kernel
theorem dX12_breath_9 : decode cX12_breath 9 = .ok (.lconst 1, 1) := by decide +kernel
theorem dX12_breath_10 : decode cX12_breath 10 = .ok (.ldc2_w 366, 3) := by decide +kernel
theorem dX12_breath_13 : decode cX12_breath 13 = .ok (.invokestatic 127, 3) := by decide +kernel
theorem dX12_breath_16 : decode cX12_breath 16 = .ok (.ifCond .ne 5, 3) := by decide +kernel
theorem dX12_breath_19 : decode cX12_breath 19 = .ok (.iconst (-1), 1) := by decide +kernel
theorem dX12_breath_20 : decode cX12_breath 20 = .ok (.ireturn, 1) := by decide +kernel
theorem dX12_breath_21 : decode cX12_breath 21 = .ok (.aload_n 0, 1) := by decide +kernel
theorem dX12_breath_22 : decode cX12_breath 22 = .ok (.invokevirtual 363, 3) := by decide +kernel
theorem dX12_breath_25 : decode cX12_breath 25 = .ok (.aload_n 0, 1) := by decide +kernel
theorem dX12_breath_26 : decode cX12_breath 26 = .ok (.getfield 39, 3) := by decide +kernel
theorem dX12_breath_29 : decode cX12_breath 29 = .ok (.bipush 11, 2) := by decide +kernel
theorem dX12_breath_31 : decode cX12_breath 31 = .ok (.dup2, 1) := by decide +kernel
theorem dX12_breath_32 : decode cX12_breath 32 = .ok (.iaload, 1) := by decide +kernel
theorem dX12_breath_33 : decode cX12_breath 33 = .ok (.iload_n 1, 1) := by decide +kernel
theorem dX12_breath_34 : decode cX12_breath 34 = .ok (.iadd, 1) := by decide +kernel
theorem dX12_breath_35 : decode cX12_breath 35 = .ok (.iastore, 1) := by decide +kernel
theorem dX12_breath_36 : decode cX12_breath 36 = .ok (.aload_n 0, 1) := by decide +kernel
theorem dX12_breath_37 : decode cX12_breath 37 = .ok (.getfield 39, 3) := by decide +kernel
theorem dX12_breath_40 : decode cX12_breath 40 = .ok (.bipush 11, 2) := by decide +kernel
theorem dX12_breath_42 : decode cX12_breath 42 = .ok (.iaload, 1) := by decide +kernel
theorem dX12_breath_43 : decode cX12_breath 43 = .ok (.ireturn, 1) := by decide +kernel
theorem dX12_isRing_0 : decode cX12_isRing 0 = .ok (.iload_n 1, 1) := by decide +kernel
theorem dX12_isRing_1 : decode cX12_isRing 1 = .ok (.ifCond .lt 17, 3) := by decide +kernel
theorem dX12_isRing_4 : decode cX12_isRing 4 = .ok (.iload_n 1, 1) := by decide +kernel
theorem dX12_isRing_5 : decode cX12_isRing 5 = .ok (.aload_n 0, 1) := by decide +kernel
theorem dX12_isRing_6 : decode cX12_isRing 6 = .ok (.getfield 39, 3) := by decide +kernel
theorem dX12_isRing_9 : decode cX12_isRing 9 = .ok (.iconst 4, 1) := by decide +kernel
theorem dX12_isRing_10 : decode cX12_isRing 10 = .ok (.iaload, 1) := by decide +kernel
theorem dX12_isRing_11 : decode cX12_isRing 11 = .ok (.if_icmp .ge 7, 3) := by decide +kernel
theorem dX12_isRing_14 : decode cX12_isRing 14 = .ok (.iconst 1, 1) := by decide +kernel
theorem dX12_isRing_15 : decode cX12_isRing 15 = .ok (.goto 4, 3) := by decide +kernel
theorem dX12_isRing_18 : decode cX12_isRing 18 = .ok (.iconst 0, 1) := by decide +kernel
theorem dX12_isRing_19 : decode cX12_isRing 19 = .ok (.ireturn, 1) := by decide +kernel
theorem dX12_isRule_0 : decode cX12_isRule 0 = .ok (.iload_n 1, 1) := by decide +kernel
theorem dX12_isRule_1 : decode cX12_isRule 1 = .ok (.ifCond .lt 15, 3) := by decide +kernel
theorem dX12_isRule_4 : decode cX12_isRule 4 = .ok (.iload_n 1, 1) := by decide +kernel
theorem dX12_isRule_5 : decode cX12_isRule 5 = .ok (.aload_n 0, 1) := by decide +kernel
theorem dX12_isRule_6 : decode cX12_isRule 6 = .ok (.getfield 267, 3) := by decide +kernel
theorem dX12_isRule_9 : decode cX12_isRule 9 = .ok (.if_icmp .ge 7, 3) := by decide +kernel
theorem dX12_isRule_12 : decode cX12_isRule 12 = .ok (.iconst 1, 1) := by decide +kernel
theorem dX12_isRule_13 : decode cX12_isRule 13 = .ok (.goto 4, 3) := by decide +kernel
theorem dX12_isRule_16 : decode cX12_isRule 16 = .ok (.iconst 0, 1) := by decide +kernel
theorem dX12_isRule_17 : decode cX12_isRule 17 = .ok (.ireturn, 1) := by decide +kernel
theorem dX12_isWord_0 : decode cX12_isWord 0 = .ok (.aload_n 0, 1) := by decide +kernel
theorem dX12_isWord_1 : decode cX12_isWord 1 = .ok (.invokevirtual 102, 3) := by decide +kernel
theorem dX12_isWord_4 : decode cX12_isWord 4 = .ok (.pop, 1) := by decide +kernel
theorem dX12_isWord_5 : decode cX12_isWord 5 = .ok (.lconst 0, 1) := by decide +kernel
theorem dX12_isWord_6 : decode cX12_isWord 6 = .ok (.lstore_n 3, 1) := by decide +kernel
theorem dX12_isWord_7 : decode cX12_isWord 7 = .ok (.iconst 0, 1) := by decide +kernel
theorem dX12_isWord_8 : decode cX12_isWord 8 = .ok (.istore 5, 2) := by decide +kernel
theorem dX12_isWord_10 : decode cX12_isWord 10 = .ok (.aload_n 0, 1) := by decide +kernel
theorem dX12_isWord_11 : decode cX12_isWord 11 = .ok (.aload_n 0, 1) := by decide +kernel
theorem dX12_isWord_12 : decode cX12_isWord 12 = .ok (.getfield 99, 3) := by decide +kernel
theorem dX12_isWord_15 : decode cX12_isWord 15 = .ok (.iload 5, 2) := by decide +kernel
theorem dX12_isWord_17 : decode cX12_isWord 17 = .ok (.iadd, 1) := by decide +kernel
theorem dX12_isWord_18 : decode cX12_isWord 18 = .ok (.invokevirtual 106, 3) := by decide +kernel
theorem dX12_isWord_21 : decode cX12_isWord 21 = .ok (.ifCond .eq 35, 3) := by decide +kernel
theorem dX12_isWord_24 : decode cX12_isWord 24 = .ok (.iload 5, 2) := by decide +kernel
theorem dX12_isWord_26 : decode cX12_isWord 26 = .ok (.bipush 8, 2) := by decide +kernel
theorem dX12_isWord_28 : decode cX12_isWord 28 = .ok (.if_icmp .ge 22, 3) := by decide +kernel
theorem dX12_isWord_31 : decode cX12_isWord 31 = .ok (.lload_n 3, 1) := by decide +kernel
theorem dX12_isWord_32 : decode cX12_isWord 32 = .ok (.bipush 8, 2) := by decide +kernel
theorem dX12_isWord_34 : decode cX12_isWord 34 = .ok (.lshl, 1) := by decide +kernel
theorem dX12_isWord_35 : decode cX12_isWord 35 = .ok (.aload_n 0, 1) := by decide +kernel
theorem dX12_isWord_36 : decode cX12_isWord 36 = .ok (.getfield 7, 3) := by decide +kernel
theorem dX12_isWord_39 : decode cX12_isWord 39 = .ok (.aload_n 0, 1) := by decide +kernel
theorem dX12_isWord_40 : decode cX12_isWord 40 = .ok (.getfield 99, 3) := by decide +kernel
theorem dX12_isWord_43 : decode cX12_isWord 43 = .ok (.iload 5, 2) := by decide +kernel
theorem dX12_isWord_45 : decode cX12_isWord 45 = .ok (.iadd, 1) := by decide +kernel
theorem dX12_isWord_46 : decode cX12_isWord 46 = .ok (.baload, 1) := by decide +kernel
theorem dX12_isWord_47 : decode cX12_isWord 47 = .ok (.i2l, 1) := by decide +kernel
theorem dX12_isWord_48 : decode cX12_isWord 48 = .ok (.lor, 1) := by decide +kernel
theorem dX12_isWord_49 : decode cX12_isWord 49 = .ok (.lstore_n 3, 1) := by decide +kernel
theorem dX12_isWord_50 : decode cX12_isWord 50 = .ok (.iinc 5 1, 3) := by decide +kernel
theorem dX12_isWord_53 : decode cX12_isWord 53 = .ok (.goto (-43), 3) := by decide +kernel
theorem dX12_isWord_56 : decode cX12_isWord 56 = .ok (.iload 5, 2) := by decide +kernel
theorem dX12_isWord_58 : decode cX12_isWord 58 = .ok (.ifCond .le 20, 3) := by decide +kernel
theorem dX12_isWord_61 : decode cX12_isWord 61 = .ok (.iload 5, 2) := by decide +kernel
theorem dX12_isWord_63 : decode cX12_isWord 63 = .ok (.bipush 8, 2) := by decide +kernel
theorem dX12_isWord_65 : decode cX12_isWord 65 = .ok (.if_icmp .ge 13, 3) := by decide +kernel
theorem dX12_isWord_68 : decode cX12_isWord 68 = .ok (.lload_n 3, 1) := by decide +kernel
theorem dX12_isWord_69 : decode cX12_isWord 69 = .ok (.lload_n 1, 1) := by decide +kernel
theorem dX12_isWord_70 : decode cX12_isWord 70 = .ok (.lcmp, 1) := by decide +kernel
theorem dX12_isWord_71 : decode cX12_isWord 71 = .ok (.ifCond .ne 7, 3) := by decide +kernel
theorem dX12_isWord_74 : decode cX12_isWord 74 = .ok (.iconst 1, 1) := by decide +kernel
theorem dX12_isWord_75 : decode cX12_isWord 75 = .ok (.goto 4, 3) := by decide +kernel
theorem dX12_isWord_78 : decode cX12_isWord 78 = .ok (.iconst 0, 1) := by decide +kernel
theorem dX12_isWord_79 : decode cX12_isWord 79 = .ok (.ireturn, 1) := by decide +kernel
theorem dX1_hasRing_0 : decode cX1_hasRing 0 = .ok (.iload_n 1, 1) := by decide +kernel
theorem dX1_hasRing_1 : decode cX1_hasRing 1 = .ok (.iconst 0, 1) := by decide +kernel
theorem dX1_hasRing_2 : decode cX1_hasRing 2 = .ok (.aload_n 0, 1) := by decide +kernel
theorem dX1_hasRing_3 : decode cX1_hasRing 3 = .ok (.getfield 11, 3) := by decide +kernel
theorem dX1_hasRing_6 : decode cX1_hasRing 6 = .ok (.iconst 3, 1) := by decide +kernel
theorem dX1_hasRing_7 : decode cX1_hasRing 7 = .ok (.iaload, 1) := by decide +kernel
theorem dX1_hasRing_8 : decode cX1_hasRing 8 = .ok (.iconst 1, 1) := by decide +kernel
theorem dX1_hasRing_9 : decode cX1_hasRing 9 = .ok (.isub, 1) := by decide +kernel
theorem dX1_hasRing_10 : decode cX1_hasRing 10 = .ok (.invokestatic 27, 3) := by decide +kernel
theorem dX1_hasRing_13 : decode cX1_hasRing 13 = .ok (.ireturn, 1) := by decide +kernel
theorem dX10_advance_0 : decode cX10_advance 0 = .ok (.aload_n 0, 1) := by decide +kernel
theorem dX10_advance_1 : decode cX10_advance 1 = .ok (.getfield 31, 3) := by decide +kernel
theorem dX10_advance_4 : decode cX10_advance 4 = .ok (.iconst 1, 1) := by decide +kernel
theorem dX10_advance_5 : decode cX10_advance 5 = .ok (.iadd, 1) := by decide +kernel
theorem dX10_advance_6 : decode cX10_advance 6 = .ok (.aload_n 0, 1) := by decide +kernel
theorem dX10_advance_7 : decode cX10_advance 7 = .ok (.getfield 28, 3) := by decide +kernel
theorem dX10_advance_10 : decode cX10_advance 10 = .ok (.if_icmp .ge 52, 3) := by decide +kernel
theorem dX10_advance_13 : decode cX10_advance 13 = .ok (.aload_n 0, 1) := by decide +kernel
theorem dX10_advance_14 : decode cX10_advance 14 = .ok (.dup, 1) := by decide +kernel
theorem dX10_advance_15 : decode cX10_advance 15 = .ok (.getfield 31, 3) := by decide +kernel
theorem dX10_advance_18 : decode cX10_advance 18 = .ok (.iconst 1, 1) := by decide +kernel
theorem dX10_advance_19 : decode cX10_advance 19 = .ok (.iadd, 1) := by decide +kernel
theorem dX10_advance_20 : decode cX10_advance 20 = .ok (.putfield 31, 3) := by decide +kernel
theorem dX10_advance_23 : decode cX10_advance 23 = .ok (.aload_n 0, 1) := by decide +kernel
theorem dX10_advance_24 : decode cX10_advance 24 = .ok (.aload_n 0, 1) := by decide +kernel
theorem dX10_advance_25 : decode cX10_advance 25 = .ok (.getfield 19, 3) := by decide +kernel
theorem dX10_advance_28 : decode cX10_advance 28 = .ok (.aload_n 0, 1) := by decide +kernel
theorem dX10_advance_29 : decode cX10_advance 29 = .ok (.getfield 31, 3) := by decide +kernel
theorem dX10_advance_32 : decode cX10_advance 32 = .ok (.iaload, 1) := by decide +kernel
theorem dX10_advance_33 : decode cX10_advance 33 = .ok (.putfield 34, 3) := by decide +kernel
theorem dX10_advance_36 : decode cX10_advance 36 = .ok (.aload_n 0, 1) := by decide +kernel
theorem dX10_advance_37 : decode cX10_advance 37 = .ok (.aload_n 0, 1) := by decide +kernel
theorem dX10_advance_38 : decode cX10_advance 38 = .ok (.getfield 22, 3) := by decide +kernel
theorem dX10_advance_41 : decode cX10_advance 41 = .ok (.aload_n 0, 1) := by decide +kernel
theorem dX10_advance_42 : decode cX10_advance 42 = .ok (.getfield 31, 3) := by decide +kernel
theorem dX10_advance_45 : decode cX10_advance 45 = .ok (.iaload, 1) := by decide +kernel
theorem dX10_advance_46 : decode cX10_advance 46 = .ok (.putfield 37, 3) := by decide +kernel
theorem dX10_advance_49 : decode cX10_advance 49 = .ok (.aload_n 0, 1) := by decide +kernel
theorem dX10_advance_50 : decode cX10_advance 50 = .ok (.aload_n 0, 1) := by decide +kernel
theorem dX10_advance_51 : decode cX10_advance 51 = .ok (.getfield 25, 3) := by decide +kernel
theorem dX10_advance_54 : decode cX10_advance 54 = .ok (.aload_n 0, 1) := by decide +kernel
theorem dX10_advance_55 : decode cX10_advance 55 = .ok (.getfield 31, 3) := by decide +kernel
theorem dX10_advance_58 : decode cX10_advance 58 = .ok (.iaload, 1) := by decide +kernel
theorem dX10_advance_59 : decode cX10_advance 59 = .ok (.putfield 40, 3) := by decide +kernel
theorem dX10_advance_62 : decode cX10_advance 62 = .ok (.return_, 1) := by decide +kernel
theorem dX10_hasRoom_0 : decode cX10_hasRoom 0 = .ok (.aload_n 0, 1) := by decide +kernel
theorem dX10_hasRoom_1 : decode cX10_hasRoom 1 = .ok (.getfield 15, 3) := by decide +kernel
theorem dX10_hasRoom_4 : decode cX10_hasRoom 4 = .ok (.iload_n 1, 1) := by decide +kernel
theorem dX10_hasRoom_5 : decode cX10_hasRoom 5 = .ok (.iadd, 1) := by decide +kernel
theorem dX10_hasRoom_6 : decode cX10_hasRoom 6 = .ok (.sipush 400, 3) := by decide +kernel
theorem dX10_hasRoom_9 : decode cX10_hasRoom 9 = .ok (.if_icmp .gt 7, 3) := by decide +kernel
theorem dX10_hasRoom_12 : decode cX10_hasRoom 12 = .ok (.iconst 1, 1) := by decide +kernel
theorem dX10_hasRoom_13 : decode cX10_hasRoom 13 = .ok (.goto 4, 3) := by decide +kernel
theorem dX10_hasRoom_16 : decode cX10_hasRoom 16 = .ok (.iconst 0, 1) := by decide +kernel
theorem dX10_hasRoom_17 : decode cX10_hasRoom 17 = .ok (.ireturn, 1) := by decide +kernel
theorem dX11_bestAim_0 : decode cX11_bestAim 0 = .ok (.aload_n 0, 1) := by decide +kernel
theorem dX11_bestAim_1 : decode cX11_bestAim 1 = .ok (.getfield 43, 3) := by decide +kernel
theorem dX11_bestAim_4 : decode cX11_bestAim 4 = .ok (.getfield 111, 3) := by decide +kernel
theorem dX11_bestAim_7 : decode cX11_bestAim 7 = .ok (.astore_n 3, 1) := by decide +kernel
theorem dX11_bestAim_8 : decode cX11_bestAim 8 = .ok (.aload_n 3, 1) := by decide +kernel
theorem dX11_bestAim_9 : decode cX11_bestAim 9 = .ok (.iload_n 1, 1) := by decide +kernel
theorem dX11_bestAim_10 : decode cX11_bestAim 10 = .ok (.invokevirtual 139, 3) := by decide +kernel
theorem dX11_bestAim_13 : decode cX11_bestAim 13 = .ok (.ifCond .eq 12, 3) := by decide +kernel
theorem dX11_bestAim_16 : decode cX11_bestAim 16 = .ok (.iload_n 2, 1) := by decide +kernel
theorem dX11_bestAim_17 : decode cX11_bestAim 17 = .ok (.iconst 0, 1) := by decide +kernel
theorem dX11_bestAim_18 : decode cX11_bestAim 18 = .ok (.iconst 1, 1) := by decide +kernel
theorem dX11_bestAim_19 : decode cX11_bestAim 19 = .ok (.invokestatic 90, 3) := by decide +kernel
theorem dX11_bestAim_22 : decode cX11_bestAim 22 = .ok (.ifCond .ne 6, 3) := by decide +kernel
theorem dX11_bestAim_25 : decode cX11_bestAim 25 = .ok (.bipush (-2), 2) := by decide +kernel
theorem dX11_bestAim_27 : decode cX11_bestAim 27 = .ok (.ireturn, 1) := by decide +kernel
theorem dX11_bestAim_28 : decode cX11_bestAim 28 = .ok (.aload_n 3, 1) := by decide +kernel
theorem dX11_bestAim_29 : decode cX11_bestAim 29 = .ok (.getfield 124, 3) := by decide +kernel
theorem dX11_bestAim_32 : decode cX11_bestAim 32 = .ok (.bipush 38, 2) := by decide +kernel
theorem dX11_bestAim_34 : decode cX11_bestAim 34 = .ok (.iload_n 1, 1) := by decide +kernel
theorem dX11_bestAim_35 : decode cX11_bestAim 35 = .ok (.iadd, 1) := by decide +kernel
theorem dX11_bestAim_36 : decode cX11_bestAim 36 = .ok (.iaload, 1) := by decide +kernel
theorem dX11_bestAim_37 : decode cX11_bestAim 37 = .ok (.istore 4, 2) := by decide +kernel
theorem dX11_bestAim_39 : decode cX11_bestAim 39 = .ok (.aload_n 3, 1) := by decide +kernel
theorem dX11_bestAim_40 : decode cX11_bestAim 40 = .ok (.getfield 124, 3) := by decide +kernel
theorem dX11_bestAim_43 : decode cX11_bestAim 43 = .ok (.bipush 53, 2) := by decide +kernel
theorem dX11_bestAim_45 : decode cX11_bestAim 45 = .ok (.iload_n 1, 1) := by decide +kernel
theorem dX11_bestAim_46 : decode cX11_bestAim 46 = .ok (.iadd, 1) := by decide +kernel
theorem dX11_bestAim_47 : decode cX11_bestAim 47 = .ok (.iaload, 1) := by decide +kernel
theorem dX11_bestAim_48 : decode cX11_bestAim 48 = .ok (.aload_n 3, 1) := by decide +kernel
theorem dX11_bestAim_49 : decode cX11_bestAim 49 = .ok (.getfield 124, 3) := by decide +kernel
theorem dX11_bestAim_52 : decode cX11_bestAim 52 = .ok (.bipush 26, 2) := by decide +kernel
theorem dX11_bestAim_54 : decode cX11_bestAim 54 = .ok (.iload 4, 2) := by decide +kernel
theorem dX11_bestAim_56 : decode cX11_bestAim 56 = .ok (.iadd, 1) := by decide +kernel
theorem dX11_bestAim_57 : decode cX11_bestAim 57 = .ok (.iaload, 1) := by decide +kernel
theorem dX11_bestAim_58 : decode cX11_bestAim 58 = .ok (.invokestatic 178, 3) := by decide +kernel
theorem dX11_bestAim_61 : decode cX11_bestAim 61 = .ok (.istore 5, 2) := by decide +kernel
theorem dX11_bestAim_63 : decode cX11_bestAim 63 = .ok (.aload_n 3, 1) := by decide +kernel
theorem dX11_bestAim_64 : decode cX11_bestAim 64 = .ok (.iload_n 1, 1) := by decide +kernel
theorem dX11_bestAim_65 : decode cX11_bestAim 65 = .ok (.aload_n 3, 1) := by decide +kernel
theorem dX11_bestAim_66 : decode cX11_bestAim 66 = .ok (.getfield 124, 3) := by decide +kernel
theorem dX11_bestAim_69 : decode cX11_bestAim 69 = .ok (.bipush 6, 2) := by decide +kernel
theorem dX11_bestAim_71 : decode cX11_bestAim 71 = .ok (.iaload, 1) := by decide +kernel
theorem dX11_bestAim_72 : decode cX11_bestAim 72 = .ok (.invokevirtual 197, 3) := by decide +kernel
theorem dX11_bestAim_75 : decode cX11_bestAim 75 = .ok (.istore 6, 2) := by decide +kernel
theorem dX11_bestAim_77 : decode cX11_bestAim 77 = .ok (.iload 6, 2) := by decide +kernel
theorem dX11_bestAim_79 : decode cX11_bestAim 79 = .ok (.iconst (-1), 1) := by decide +kernel
theorem dX11_bestAim_80 : decode cX11_bestAim 80 = .ok (.if_icmp .eq 9, 3) := by decide +kernel
theorem dX11_bestAim_83 : decode cX11_bestAim 83 = .ok (.iload 5, 2) := by decide +kernel
theorem dX11_bestAim_85 : decode cX11_bestAim 85 = .ok (.iconst 1, 1) := by decide +kernel
theorem dX11_bestAim_86 : decode cX11_bestAim 86 = .ok (.if_icmp .ge 13, 3) := by decide +kernel
theorem dX11_bestAim_89 : decode cX11_bestAim 89 = .ok (.iload_n 2, 1) := by decide +kernel
theorem dX11_bestAim_90 : decode cX11_bestAim 90 = .ok (.ifCond .ne 7, 3) := by decide +kernel
theorem dX11_bestAim_93 : decode cX11_bestAim 93 = .ok (.iconst (-1), 1) := by decide +kernel
theorem dX11_bestAim_94 : decode cX11_bestAim 94 = .ok (.goto 4, 3) := by decide +kernel
theorem dX11_bestAim_97 : decode cX11_bestAim 97 = .ok (.iconst 0, 1) := by decide +kernel
theorem dX11_bestAim_98 : decode cX11_bestAim 98 = .ok (.ireturn, 1) := by decide +kernel
theorem dX11_bestAim_99 : decode cX11_bestAim 99 = .ok (.iload_n 2, 1) := by decide +kernel
theorem dX11_bestAim_100 : decode cX11_bestAim 100 = .ok (.ifCond .ne 8, 3) := by decide +kernel
theorem dX11_bestAim_103 : decode cX11_bestAim 103 = .ok (.iload 6, 2) := by decide +kernel
theorem dX11_bestAim_105 : decode cX11_bestAim 105 = .ok (.goto 5, 3) := by decide +kernel
theorem dX11_bestAim_108 : decode cX11_bestAim 108 = .ok (.iload 5, 2) := by decide +kernel
theorem dX11_bestAim_110 : decode cX11_bestAim 110 = .ok (.ireturn, 1) := by decide +kernel
theorem dX11_skilled_0 : decode cX11_skilled 0 = .ok (.aload_n 0, 1) := by decide +kernel
theorem dX11_skilled_1 : decode cX11_skilled 1 = .ok (.getfield 43, 3) := by decide +kernel
theorem dX11_skilled_4 : decode cX11_skilled 4 = .ok (.getfield 111, 3) := by decide +kernel
theorem dX11_skilled_7 : decode cX11_skilled 7 = .ok (.iload_n 1, 1) := by decide +kernel
theorem dX11_skilled_8 : decode cX11_skilled 8 = .ok (.invokevirtual 139, 3) := by decide +kernel
theorem dX11_skilled_11 : decode cX11_skilled 11 = .ok (.ifCond .ne 5, 3) := by decide +kernel
theorem dX11_skilled_14 : decode cX11_skilled 14 = .ok (.iconst (-1), 1) := by decide +kernel
theorem dX11_skilled_15 : decode cX11_skilled 15 = .ok (.ireturn, 1) := by decide +kernel
theorem dX11_skilled_16 : decode cX11_skilled 16 = .ok (.aload_n 0, 1) := by decide +kernel
theorem dX11_skilled_17 : decode cX11_skilled 17 = .ok (.getfield 75, 3) := by decide +kernel
theorem dX11_skilled_20 : decode cX11_skilled 20 = .ok (.aload_n 0, 1) := by decide +kernel
theorem dX11_skilled_21 : decode cX11_skilled 21 = .ok (.getfield 61, 3) := by decide +kernel
theorem dX11_skilled_24 : decode cX11_skilled 24 = .ok (.aload_n 0, 1) := by decide +kernel
theorem dX11_skilled_25 : decode cX11_skilled 25 = .ok (.getfield 43, 3) := by decide +kernel
theorem dX11_skilled_28 : decode cX11_skilled 28 = .ok (.aload_n 0, 1) := by decide +kernel
theorem dX11_skilled_29 : decode cX11_skilled 29 = .ok (.invokevirtual 159, 3) := by decide +kernel
theorem dX11_skilled_32 : decode cX11_skilled 32 = .ok (.bipush 43, 2) := by decide +kernel
theorem dX11_skilled_34 : decode cX11_skilled 34 = .ok (.iload_n 1, 1) := by decide +kernel
theorem dX11_skilled_35 : decode cX11_skilled 35 = .ok (.iadd, 1) := by decide +kernel
theorem dX11_skilled_36 : decode cX11_skilled 36 = .ok (.iconst 1, 1) := by decide +kernel
theorem dX11_skilled_37 : decode cX11_skilled 37 = .ok (.bipush 9, 2) := by decide +kernel
theorem dX11_skilled_39 : decode cX11_skilled 39 = .ok (.invokevirtual 239, 3) := by decide +kernel
theorem dX11_skilled_42 : decode cX11_skilled 42 = .ok (.ireturn, 1) := by decide +kernel
theorem dX12_bestAim_0 : decode cX12_bestAim 0 = .ok (.aload_n 0, 1) := by decide +kernel
theorem dX12_bestAim_1 : decode cX12_bestAim 1 = .ok (.iload_n 1, 1) := by decide +kernel
theorem dX12_bestAim_2 : decode cX12_bestAim 2 = .ok (.invokevirtual 314, 3) := by decide +kernel
theorem dX12_bestAim_5 : decode cX12_bestAim 5 = .ok (.ifCond .eq 13, 3) := by decide +kernel
theorem dX12_bestAim_8 : decode cX12_bestAim 8 = .ok (.iload_n 2, 1) := by decide +kernel
theorem dX12_bestAim_9 : decode cX12_bestAim 9 = .ok (.i2l, 1) := by decide +kernel
theorem dX12_bestAim_10 : decode cX12_bestAim 10 = .ok (.lconst 0, 1) := by decide +kernel
theorem dX12_bestAim_11 : decode cX12_bestAim 11 = .ok (.lconst 1, 1) := by decide +kernel
theorem dX12_bestAim_12 : decode cX12_bestAim 12 = .ok (.invokestatic 127, 3) := by decide +kernel
theorem dX12_bestAim_15 : decode cX12_bestAim 15 = .ok (.ifCond .ne 6, 3) := by decide +kernel
theorem dX12_bestAim_18 : decode cX12_bestAim 18 = .ok (.bipush (-2), 2) := by decide +kernel
theorem dX12_bestAim_20 : decode cX12_bestAim 20 = .ok (.ireturn, 1) := by decide +kernel
theorem dX12_bestAim_21 : decode cX12_bestAim 21 = .ok (.iconst (-1), 1) := by decide +kernel
theorem dX12_bestAim_22 : decode cX12_bestAim 22 = .ok (.istore_n 3, 1) := by decide +kernel
theorem dX12_bestAim_23 : decode cX12_bestAim 23 = .ok (.iconst 0, 1) := by decide +kernel
theorem dX12_bestAim_24 : decode cX12_bestAim 24 = .ok (.istore 4, 2) := by decide +kernel
theorem dX12_bestAim_26 : decode cX12_bestAim 26 = .ok (.iconst 0, 1) := by decide +kernel
theorem dX12_bestAim_27 : decode cX12_bestAim 27 = .ok (.istore 5, 2) := by decide +kernel
theorem dX12_bestAim_29 : decode cX12_bestAim 29 = .ok (.iload 5, 2) := by decide +kernel
theorem dX12_bestAim_31 : decode cX12_bestAim 31 = .ok (.aload_n 0, 1) := by decide +kernel
theorem dX12_bestAim_32 : decode cX12_bestAim 32 = .ok (.getfield 39, 3) := by decide +kernel
theorem dX12_bestAim_35 : decode cX12_bestAim 35 = .ok (.iconst 4, 1) := by decide +kernel
theorem dX12_bestAim_36 : decode cX12_bestAim 36 = .ok (.iaload, 1) := by decide +kernel
theorem dX12_bestAim_37 : decode cX12_bestAim 37 = .ok (.if_icmp .ge 36, 3) := by decide +kernel
theorem dX12_bestAim_40 : decode cX12_bestAim 40 = .ok (.aload_n 0, 1) := by decide +kernel
theorem dX12_bestAim_41 : decode cX12_bestAim 41 = .ok (.iload_n 1, 1) := by decide +kernel
theorem dX12_bestAim_42 : decode cX12_bestAim 42 = .ok (.iload 5, 2) := by decide +kernel
theorem dX12_bestAim_44 : decode cX12_bestAim 44 = .ok (.invokevirtual 387, 3) := by decide +kernel
theorem dX12_bestAim_47 : decode cX12_bestAim 47 = .ok (.iload 4, 2) := by decide +kernel
theorem dX12_bestAim_49 : decode cX12_bestAim 49 = .ok (.if_icmp .gt 6, 3) := by decide +kernel
theorem dX12_bestAim_52 : decode cX12_bestAim 52 = .ok (.goto 15, 3) := by decide +kernel
theorem dX12_bestAim_55 : decode cX12_bestAim 55 = .ok (.iload 5, 2) := by decide +kernel
theorem dX12_bestAim_57 : decode cX12_bestAim 57 = .ok (.istore_n 3, 1) := by decide +kernel
theorem dX12_bestAim_58 : decode cX12_bestAim 58 = .ok (.aload_n 0, 1) := by decide +kernel
theorem dX12_bestAim_59 : decode cX12_bestAim 59 = .ok (.iload_n 1, 1) := by decide +kernel
theorem dX12_bestAim_60 : decode cX12_bestAim 60 = .ok (.iload 5, 2) := by decide +kernel
theorem dX12_bestAim_62 : decode cX12_bestAim 62 = .ok (.invokevirtual 387, 3) := by decide +kernel
theorem dX12_bestAim_65 : decode cX12_bestAim 65 = .ok (.istore 4, 2) := by decide +kernel
theorem dX12_bestAim_67 : decode cX12_bestAim 67 = .ok (.iinc 5 1, 3) := by decide +kernel
theorem dX12_bestAim_70 : decode cX12_bestAim 70 = .ok (.goto (-41), 3) := by decide +kernel
theorem dX12_bestAim_73 : decode cX12_bestAim 73 = .ok (.iload_n 2, 1) := by decide +kernel
theorem dX12_bestAim_74 : decode cX12_bestAim 74 = .ok (.ifCond .ne 7, 3) := by decide +kernel
theorem dX12_bestAim_77 : decode cX12_bestAim 77 = .ok (.iload_n 3, 1) := by decide +kernel
theorem dX12_bestAim_78 : decode cX12_bestAim 78 = .ok (.goto 5, 3) := by decide +kernel
theorem dX12_bestAim_81 : decode cX12_bestAim 81 = .ok (.iload 4, 2) := by decide +kernel
theorem dX12_bestAim_83 : decode cX12_bestAim 83 = .ok (.ireturn, 1) := by decide +kernel
theorem dX12_isGreen_0 : decode cX12_isGreen 0 = .ok (.aload_n 0, 1) := by decide +kernel
theorem dX12_isGreen_1 : decode cX12_isGreen 1 = .ok (.getfield 39, 3) := by decide +kernel
theorem dX12_isGreen_4 : decode cX12_isGreen 4 = .ok (.iconst 0, 1) := by decide +kernel
theorem dX12_isGreen_5 : decode cX12_isGreen 5 = .ok (.iaload, 1) := by decide +kernel
theorem dX12_isGreen_6 : decode cX12_isGreen 6 = .ok (.iconst 1, 1) := by decide +kernel
theorem dX12_isGreen_7 : decode cX12_isGreen 7 = .ok (.if_icmp .ne 7, 3) := by decide +kernel
theorem dX12_isGreen_10 : decode cX12_isGreen 10 = .ok (.iconst 1, 1) := by decide +kernel
theorem dX12_isGreen_11 : decode cX12_isGreen 11 = .ok (.goto 4, 3) := by decide +kernel
theorem dX12_isGreen_14 : decode cX12_isGreen 14 = .ok (.iconst 0, 1) := by decide +kernel
theorem dX12_isGreen_15 : decode cX12_isGreen 15 = .ok (.ireturn, 1) := by decide +kernel
theorem dX12_skilled_0 : decode cX12_skilled 0 = .ok (.aload_n 0, 1) := by decide +kernel
theorem dX12_skilled_1 : decode cX12_skilled 1 = .ok (.iload_n 1, 1) := by decide +kernel
theorem dX12_skilled_2 : decode cX12_skilled 2 = .ok (.invokevirtual 314, 3) := by decide +kernel
theorem dX12_skilled_5 : decode cX12_skilled 5 = .ok (.ifCond .eq 19, 3) := by decide +kernel
theorem dX12_skilled_8 : decode cX12_skilled 8 = .ok (.aload_n 0, 1) := by decide +kernel
theorem dX12_skilled_9 : decode cX12_skilled 9 = .ok (.bipush 74, 2) := by decide +kernel
theorem dX12_skilled_11 : decode cX12_skilled 11 = .ok (.iconst 2, 1) := by decide +kernel
theorem dX12_skilled_12 : decode cX12_skilled 12 = .ok (.iload_n 1, 1) := by decide +kernel
theorem dX12_skilled_13 : decode cX12_skilled 13 = .ok (.imul, 1) := by decide +kernel
theorem dX12_skilled_14 : decode cX12_skilled 14 = .ok (.iadd, 1) := by decide +kernel
theorem dX12_skilled_15 : decode cX12_skilled 15 = .ok (.iconst 1, 1) := by decide +kernel
theorem dX12_skilled_16 : decode cX12_skilled 16 = .ok (.bipush 9, 2) := by decide +kernel
theorem dX12_skilled_18 : decode cX12_skilled 18 = .ok (.invokevirtual 438, 3) := by decide +kernel
theorem dX12_skilled_21 : decode cX12_skilled 21 = .ok (.goto 4, 3) := by decide +kernel
theorem dX12_skilled_24 : decode cX12_skilled 24 = .ok (.iconst (-1), 1) := by decide +kernel
theorem dX12_skilled_25 : decode cX12_skilled 25 = .ok (.ireturn, 1) := by decide +kernel
theorem dX12_sumOver_0 : decode cX12_sumOver 0 = .ok (.iconst 0, 1) := by decide +kernel
theorem dX12_sumOver_1 : decode cX12_sumOver 1 = .ok (.istore_n 2, 1) := by decide +kernel
theorem dX12_sumOver_2 : decode cX12_sumOver 2 = .ok (.iconst 0, 1) := by decide +kernel
theorem dX12_sumOver_3 : decode cX12_sumOver 3 = .ok (.istore_n 3, 1) := by decide +kernel
theorem dX12_sumOver_4 : decode cX12_sumOver 4 = .ok (.iload_n 3, 1) := by decide +kernel
theorem dX12_sumOver_5 : decode cX12_sumOver 5 = .ok (.aload_n 0, 1) := by decide +kernel
theorem dX12_sumOver_6 : decode cX12_sumOver 6 = .ok (.getfield 39, 3) := by decide +kernel
theorem dX12_sumOver_9 : decode cX12_sumOver 9 = .ok (.iconst 5, 1) := by decide +kernel
theorem dX12_sumOver_10 : decode cX12_sumOver 10 = .ok (.iaload, 1) := by decide +kernel
theorem dX12_sumOver_11 : decode cX12_sumOver 11 = .ok (.if_icmp .ge 25, 3) := by decide +kernel
theorem dX12_sumOver_14 : decode cX12_sumOver 14 = .ok (.iload_n 2, 1) := by decide +kernel
theorem dX12_sumOver_15 : decode cX12_sumOver 15 = .ok (.aload_n 0, 1) := by decide +kernel
theorem dX12_sumOver_16 : decode cX12_sumOver 16 = .ok (.getfield 39, 3) := by decide +kernel
theorem dX12_sumOver_19 : decode cX12_sumOver 19 = .ok (.bipush 25, 2) := by decide +kernel
theorem dX12_sumOver_21 : decode cX12_sumOver 21 = .ok (.iconst 3, 1) := by decide +kernel
theorem dX12_sumOver_22 : decode cX12_sumOver 22 = .ok (.iload_n 3, 1) := by decide +kernel
theorem dX12_sumOver_23 : decode cX12_sumOver 23 = .ok (.imul, 1) := by decide +kernel
theorem dX12_sumOver_24 : decode cX12_sumOver 24 = .ok (.iadd, 1) := by decide +kernel
theorem dX12_sumOver_25 : decode cX12_sumOver 25 = .ok (.iload_n 1, 1) := by decide +kernel
theorem dX12_sumOver_26 : decode cX12_sumOver 26 = .ok (.iadd, 1) := by decide +kernel
theorem dX12_sumOver_27 : decode cX12_sumOver 27 = .ok (.iaload, 1) := by decide +kernel
theorem dX12_sumOver_28 : decode cX12_sumOver 28 = .ok (.iadd, 1) := by decide +kernel
theorem dX12_sumOver_29 : decode cX12_sumOver 29 = .ok (.istore_n 2, 1) := by decide +kernel
theorem dX12_sumOver_30 : decode cX12_sumOver 30 = .ok (.iinc 3 1, 3) := by decide +kernel
theorem dX12_sumOver_33 : decode cX12_sumOver 33 = .ok (.goto (-29), 3) := by decide +kernel
theorem dX12_sumOver_36 : decode cX12_sumOver 36 = .ok (.iload_n 2, 1) := by decide +kernel
theorem dX12_sumOver_37 : decode cX12_sumOver 37 = .ok (.ireturn, 1) := by decide +kernel
theorem dX1_copyFrom_0 : decode cX1_copyFrom 0 = .ok (.aload_n 1, 1) := by decide +kernel
theorem dX1_copyFrom_1 : decode cX1_copyFrom 1 = .ok (.getfield 11, 3) := by decide +kernel
theorem dX1_copyFrom_4 : decode cX1_copyFrom 4 = .ok (.iconst 0, 1) := by decide +kernel
theorem dX1_copyFrom_5 : decode cX1_copyFrom 5 = .ok (.aload_n 0, 1) := by decide +kernel
theorem dX1_copyFrom_6 : decode cX1_copyFrom 6 = .ok (.getfield 11, 3) := by decide +kernel
theorem dX1_copyFrom_9 : decode cX1_copyFrom 9 = .ok (.iconst 0, 1) := by decide +kernel
theorem dX1_copyFrom_10 : decode cX1_copyFrom 10 = .ok (.bipush 63, 2) := by decide +kernel
theorem dX1_copyFrom_12 : decode cX1_copyFrom 12 = .ok (.invokestatic 15, 3) := by decide +kernel
theorem dX1_copyFrom_15 : decode cX1_copyFrom 15 = .ok (.return_, 1) := by decide +kernel
theorem dX3_readFrom_0 : decode cX3_readFrom 0 = .ok (.aload_n 1, 1) := by decide +kernel
theorem dX3_readFrom_1 : decode cX3_readFrom 1 = .ok (.invokevirtual 18, 3) := by decide +kernel
theorem dX3_readFrom_4 : decode cX3_readFrom 4 = .ok (.aload_n 0, 1) := by decide +kernel
theorem dX3_readFrom_5 : decode cX3_readFrom 5 = .ok (.getfield 12, 3) := by decide +kernel
theorem dX3_readFrom_8 : decode cX3_readFrom 8 = .ok (.invokevirtual 23, 3) := by decide +kernel
theorem dX3_readFrom_11 : decode cX3_readFrom 11 = .ok (.iconst 0, 1) := by decide +kernel
theorem dX3_readFrom_12 : decode cX3_readFrom 12 = .ok (.istore_n 2, 1) := by decide +kernel
theorem dX3_readFrom_13 : decode cX3_readFrom 13 = .ok (.aload_n 0, 1) := by decide +kernel
theorem dX3_readFrom_14 : decode cX3_readFrom 14 = .ok (.aload_n 1, 1) := by decide +kernel
theorem dX3_readFrom_15 : decode cX3_readFrom 15 = .ok (.iload_n 2, 1) := by decide +kernel
theorem dX3_readFrom_16 : decode cX3_readFrom 16 = .ok (.invokevirtual 26, 3) := by decide +kernel
theorem dX3_readFrom_19 : decode cX3_readFrom 19 = .ok (.iinc 2 1, 3) := by decide +kernel
theorem dX3_readFrom_22 : decode cX3_readFrom 22 = .ok (.iload_n 2, 1) := by decide +kernel
theorem dX3_readFrom_23 : decode cX3_readFrom 23 = .ok (.sipush 400, 3) := by decide +kernel
theorem dX3_readFrom_26 : decode cX3_readFrom 26 = .ok (.if_icmp .gt 10, 3) := by decide +kernel
theorem dX3_readFrom_29 : decode cX3_readFrom 29 = .ok (.aload_n 1, 1) := by decide +kernel
theorem dX3_readFrom_30 : decode cX3_readFrom 30 = .ok (.invokevirtual 30, 3) := by decide +kernel
theorem dX3_readFrom_33 : decode cX3_readFrom 33 = .ok (.ifCond .ne (-20), 3) := by decide +kernel
theorem dX3_readFrom_36 : decode cX3_readFrom 36 = .ok (.aload_n 1, 1) := by decide +kernel
theorem dX3_readFrom_37 : decode cX3_readFrom 37 = .ok (.getfield 34, 3) := by decide +kernel
theorem dX3_readFrom_40 : decode cX3_readFrom 40 = .ok (.ifCond .ne 7, 3) := by decide +kernel
theorem dX3_readFrom_43 : decode cX3_readFrom 43 = .ok (.aload_n 0, 1) := by decide +kernel
theorem dX3_readFrom_44 : decode cX3_readFrom 44 = .ok (.invokevirtual 38, 3) := by decide +kernel
theorem dX3_readFrom_47 : decode cX3_readFrom 47 = .ok (.aload_n 1, 1) := by decide +kernel
theorem dX3_readFrom_48 : decode cX3_readFrom 48 = .ok (.getfield 34, 3) := by decide +kernel
theorem dX3_readFrom_51 : decode cX3_readFrom 51 = .ok (.ireturn, 1) := by decide +kernel
theorem dX4_copyFrom_0 : decode cX4_copyFrom 0 = .ok (.aload_n 0, 1) := by decide +kernel
theorem dX4_copyFrom_1 : decode cX4_copyFrom 1 = .ok (.getfield 12, 3) := by decide +kernel
theorem dX4_copyFrom_4 : decode cX4_copyFrom 4 = .ok (.aload_n 1, 1) := by decide +kernel
theorem dX4_copyFrom_5 : decode cX4_copyFrom 5 = .ok (.getfield 12, 3) := by decide +kernel
theorem dX4_copyFrom_8 : decode cX4_copyFrom 8 = .ok (.invokevirtual 39, 3) := by decide +kernel
theorem dX4_copyFrom_11 : decode cX4_copyFrom 11 = .ok (.aload_n 0, 1) := by decide +kernel
theorem dX4_copyFrom_12 : decode cX4_copyFrom 12 = .ok (.getfield 18, 3) := by decide +kernel
theorem dX4_copyFrom_15 : decode cX4_copyFrom 15 = .ok (.aload_n 1, 1) := by decide +kernel
theorem dX4_copyFrom_16 : decode cX4_copyFrom 16 = .ok (.getfield 18, 3) := by decide +kernel
theorem dX4_copyFrom_19 : decode cX4_copyFrom 19 = .ok (.invokevirtual 39, 3) := by decide +kernel
theorem dX4_copyFrom_22 : decode cX4_copyFrom 22 = .ok (.aload_n 0, 1) := by decide +kernel
theorem dX4_copyFrom_23 : decode cX4_copyFrom 23 = .ok (.getfield 24, 3) := by decide +kernel
theorem dX4_copyFrom_26 : decode cX4_copyFrom 26 = .ok (.aload_n 1, 1) := by decide +kernel
theorem dX4_copyFrom_27 : decode cX4_copyFrom 27 = .ok (.getfield 24, 3) := by decide +kernel
theorem dX4_copyFrom_30 : decode cX4_copyFrom 30 = .ok (.invokevirtual 43, 3) := by decide +kernel
theorem dX4_copyFrom_33 : decode cX4_copyFrom 33 = .ok (.aload_n 0, 1) := by decide +kernel
theorem dX4_copyFrom_34 : decode cX4_copyFrom 34 = .ok (.aload_n 1, 1) := by decide +kernel
theorem dX4_copyFrom_35 : decode cX4_copyFrom 35 = .ok (.getfield 28, 3) := by decide +kernel
theorem dX4_copyFrom_38 : decode cX4_copyFrom 38 = .ok (.putfield 28, 3) := by decide +kernel
theorem dX4_copyFrom_41 : decode cX4_copyFrom 41 = .ok (.aload_n 0, 1) := by decide +kernel
theorem dX4_copyFrom_42 : decode cX4_copyFrom 42 = .ok (.aload_n 1, 1) := by decide +kernel
theorem dX4_copyFrom_43 : decode cX4_copyFrom 43 = .ok (.getfield 32, 3) := by decide +kernel
theorem dX4_copyFrom_46 : decode cX4_copyFrom 46 = .ok (.putfield 32, 3) := by decide +kernel
theorem dX4_copyFrom_49 : decode cX4_copyFrom 49 = .ok (.return_, 1) := by decide +kernel
theorem dX5_copyFrom_0 : decode cX5_copyFrom 0 = .ok (.aload_n 1, 1) := by decide +kernel
theorem dX5_copyFrom_1 : decode cX5_copyFrom 1 = .ok (.getfield 11, 3) := by decide +kernel
theorem dX5_copyFrom_4 : decode cX5_copyFrom 4 = .ok (.iconst 0, 1) := by decide +kernel
theorem dX5_copyFrom_5 : decode cX5_copyFrom 5 = .ok (.aload_n 0, 1) := by decide +kernel
theorem dX5_copyFrom_6 : decode cX5_copyFrom 6 = .ok (.getfield 11, 3) := by decide +kernel
theorem dX5_copyFrom_9 : decode cX5_copyFrom 9 = .ok (.iconst 0, 1) := by decide +kernel
theorem dX5_copyFrom_10 : decode cX5_copyFrom 10 = .ok (.bipush 10, 2) := by decide +kernel
theorem dX5_copyFrom_12 : decode cX5_copyFrom 12 = .ok (.invokestatic 25, 3) := by decide +kernel
theorem dX5_copyFrom_15 : decode cX5_copyFrom 15 = .ok (.aload_n 1, 1) := by decide +kernel
theorem dX5_copyFrom_16 : decode cX5_copyFrom 16 = .ok (.getfield 15, 3) := by decide +kernel
theorem dX5_copyFrom_19 : decode cX5_copyFrom 19 = .ok (.iconst 0, 1) := by decide +kernel
theorem dX5_copyFrom_20 : decode cX5_copyFrom 20 = .ok (.aload_n 0, 1) := by decide +kernel
theorem dX5_copyFrom_21 : decode cX5_copyFrom 21 = .ok (.getfield 15, 3) := by decide +kernel
theorem dX5_copyFrom_24 : decode cX5_copyFrom 24 = .ok (.iconst 0, 1) := by decide +kernel
theorem dX5_copyFrom_25 : decode cX5_copyFrom 25 = .ok (.bipush 10, 2) := by decide +kernel
theorem dX5_copyFrom_27 : decode cX5_copyFrom 27 = .ok (.invokestatic 25, 3) := by decide +kernel
theorem dX5_copyFrom_30 : decode cX5_copyFrom 30 = .ok (.aload_n 1, 1) := by decide +kernel
theorem dX5_copyFrom_31 : decode cX5_copyFrom 31 = .ok (.getfield 18, 3) := by decide +kernel
theorem dX5_copyFrom_34 : decode cX5_copyFrom 34 = .ok (.iconst 0, 1) := by decide +kernel
theorem dX5_copyFrom_35 : decode cX5_copyFrom 35 = .ok (.aload_n 0, 1) := by decide +kernel
theorem dX5_copyFrom_36 : decode cX5_copyFrom 36 = .ok (.getfield 18, 3) := by decide +kernel
theorem dX5_copyFrom_39 : decode cX5_copyFrom 39 = .ok (.iconst 0, 1) := by decide +kernel
theorem dX5_copyFrom_40 : decode cX5_copyFrom 40 = .ok (.bipush 10, 2) := by decide +kernel
theorem dX5_copyFrom_42 : decode cX5_copyFrom 42 = .ok (.invokestatic 25, 3) := by decide +kernel
theorem dX5_copyFrom_45 : decode cX5_copyFrom 45 = .ok (.aload_n 0, 1) := by decide +kernel
theorem dX5_copyFrom_46 : decode cX5_copyFrom 46 = .ok (.aload_n 1, 1) := by decide +kernel
theorem dX5_copyFrom_47 : decode cX5_copyFrom 47 = .ok (.getfield 21, 3) := by decide +kernel
theorem dX5_copyFrom_50 : decode cX5_copyFrom 50 = .ok (.putfield 21, 3) := by decide +kernel
theorem dX5_copyFrom_53 : decode cX5_copyFrom 53 = .ok (.return_, 1) := by decide +kernel
theorem dX8_readFrom_0 : decode cX8_readFrom 0 = .ok (.aload_n 1, 1) := by decide +kernel
theorem dX8_readFrom_1 : decode cX8_readFrom 1 = .ok (.invokevirtual 24, 3) := by decide +kernel
theorem dX8_readFrom_4 : decode cX8_readFrom 4 = .ok (.aload_n 0, 1) := by decide +kernel
theorem dX8_readFrom_5 : decode cX8_readFrom 5 = .ok (.iconst 0, 1) := by decide +kernel
theorem dX8_readFrom_6 : decode cX8_readFrom 6 = .ok (.putfield 17, 3) := by decide +kernel
theorem dX8_readFrom_9 : decode cX8_readFrom 9 = .ok (.aload_n 0, 1) := by decide +kernel
theorem dX8_readFrom_10 : decode cX8_readFrom 10 = .ok (.iconst 0, 1) := by decide +kernel
theorem dX8_readFrom_11 : decode cX8_readFrom 11 = .ok (.putfield 21, 3) := by decide +kernel
theorem dX8_readFrom_14 : decode cX8_readFrom 14 = .ok (.iconst 0, 1) := by decide +kernel
theorem dX8_readFrom_15 : decode cX8_readFrom 15 = .ok (.istore_n 2, 1) := by decide +kernel
theorem dX8_readFrom_16 : decode cX8_readFrom 16 = .ok (.aload_n 0, 1) := by decide +kernel
theorem dX8_readFrom_17 : decode cX8_readFrom 17 = .ok (.aload_n 1, 1) := by decide +kernel
theorem dX8_readFrom_18 : decode cX8_readFrom 18 = .ok (.iload_n 2, 1) := by decide +kernel
theorem dX8_readFrom_19 : decode cX8_readFrom 19 = .ok (.invokevirtual 27, 3) := by decide +kernel
theorem dX8_readFrom_22 : decode cX8_readFrom 22 = .ok (.iinc 2 1, 3) := by decide +kernel
theorem dX8_readFrom_25 : decode cX8_readFrom 25 = .ok (.iload_n 2, 1) := by decide +kernel
theorem dX8_readFrom_26 : decode cX8_readFrom 26 = .ok (.sipush 400, 3) := by decide +kernel
theorem dX8_readFrom_29 : decode cX8_readFrom 29 = .ok (.if_icmp .gt 10, 3) := by decide +kernel
theorem dX8_readFrom_32 : decode cX8_readFrom 32 = .ok (.aload_n 1, 1) := by decide +kernel
theorem dX8_readFrom_33 : decode cX8_readFrom 33 = .ok (.invokevirtual 31, 3) := by decide +kernel
theorem dX8_readFrom_36 : decode cX8_readFrom 36 = .ok (.ifCond .ne (-20), 3) := by decide +kernel
theorem dX8_readFrom_39 : decode cX8_readFrom 39 = .ok (.aload_n 1, 1) := by decide +kernel
theorem dX8_readFrom_40 : decode cX8_readFrom 40 = .ok (.getfield 35, 3) := by decide +kernel
theorem dX8_readFrom_43 : decode cX8_readFrom 43 = .ok (.ireturn, 1) := by decide +kernel
theorem dX10_addBytes_0 : decode cX10_addBytes 0 = .ok (.bipush 24, 2) := by decide +kernel
theorem dX10_addBytes_2 : decode cX10_addBytes 2 = .ok (.istore_n 2, 1) := by decide +kernel
theorem dX10_addBytes_3 : decode cX10_addBytes 3 = .ok (.iload_n 2, 1) := by decide +kernel
theorem dX10_addBytes_4 : decode cX10_addBytes 4 = .ok (.ifCond .lt 45, 3) := by decide +kernel
theorem dX10_addBytes_7 : decode cX10_addBytes 7 = .ok (.aload_n 0, 1) := by decide +kernel
theorem dX10_addBytes_8 : decode cX10_addBytes 8 = .ok (.getfield 15, 3) := by decide +kernel
theorem dX10_addBytes_11 : decode cX10_addBytes 11 = .ok (.sipush 400, 3) := by decide +kernel
theorem dX10_addBytes_14 : decode cX10_addBytes 14 = .ok (.if_icmp .ge 35, 3) := by decide +kernel
theorem dX10_addBytes_17 : decode cX10_addBytes 17 = .ok (.aload_n 0, 1) := by decide +kernel
theorem dX10_addBytes_18 : decode cX10_addBytes 18 = .ok (.getfield 11, 3) := by decide +kernel
theorem dX10_addBytes_21 : decode cX10_addBytes 21 = .ok (.aload_n 0, 1) := by decide +kernel
theorem dX10_addBytes_22 : decode cX10_addBytes 22 = .ok (.getfield 15, 3) := by decide +kernel
theorem dX10_addBytes_25 : decode cX10_addBytes 25 = .ok (.iload_n 1, 1) := by decide +kernel
theorem dX10_addBytes_26 : decode cX10_addBytes 26 = .ok (.iload_n 2, 1) := by decide +kernel
theorem dX10_addBytes_27 : decode cX10_addBytes 27 = .ok (.iushr, 1) := by decide +kernel
theorem dX10_addBytes_28 : decode cX10_addBytes 28 = .ok (.sipush 255, 3) := by decide +kernel
theorem dX10_addBytes_31 : decode cX10_addBytes 31 = .ok (.iand, 1) := by decide +kernel
theorem dX10_addBytes_32 : decode cX10_addBytes 32 = .ok (.iastore, 1) := by decide +kernel
theorem dX10_addBytes_33 : decode cX10_addBytes 33 = .ok (.aload_n 0, 1) := by decide +kernel
theorem dX10_addBytes_34 : decode cX10_addBytes 34 = .ok (.dup, 1) := by decide +kernel
theorem dX10_addBytes_35 : decode cX10_addBytes 35 = .ok (.getfield 15, 3) := by decide +kernel
theorem dX10_addBytes_38 : decode cX10_addBytes 38 = .ok (.iconst 1, 1) := by decide +kernel
theorem dX10_addBytes_39 : decode cX10_addBytes 39 = .ok (.iadd, 1) := by decide +kernel
theorem dX10_addBytes_40 : decode cX10_addBytes 40 = .ok (.putfield 15, 3) := by decide +kernel
theorem dX10_addBytes_43 : decode cX10_addBytes 43 = .ok (.iinc 2 (-8), 3) := by decide +kernel
theorem dX10_addBytes_46 : decode cX10_addBytes 46 = .ok (.goto (-43), 3) := by decide +kernel
theorem dX10_addBytes_49 : decode cX10_addBytes 49 = .ok (.return_, 1) := by decide +kernel
theorem dX10_addToken_0 : decode cX10_addToken 0 = .ok (.aload_n 0, 1) := by decide +kernel
theorem dX10_addToken_1 : decode cX10_addToken 1 = .ok (.getfield 28, 3) := by decide +kernel
theorem dX10_addToken_4 : decode cX10_addToken 4 = .ok (.sipush 400, 3) := by decide +kernel
theorem dX10_addToken_7 : decode cX10_addToken 7 = .ok (.if_icmp .gt 43, 3) := by decide +kernel
theorem dX10_addToken_10 : decode cX10_addToken 10 = .ok (.aload_n 0, 1) := by decide +kernel
theorem dX10_addToken_11 : decode cX10_addToken 11 = .ok (.getfield 19, 3) := by decide +kernel
theorem dX10_addToken_14 : decode cX10_addToken 14 = .ok (.aload_n 0, 1) := by decide +kernel
theorem dX10_addToken_15 : decode cX10_addToken 15 = .ok (.getfield 28, 3) := by decide +kernel
theorem dX10_addToken_18 : decode cX10_addToken 18 = .ok (.iload_n 1, 1) := by decide +kernel
theorem dX10_addToken_19 : decode cX10_addToken 19 = .ok (.iastore, 1) := by decide +kernel
theorem dX10_addToken_20 : decode cX10_addToken 20 = .ok (.aload_n 0, 1) := by decide +kernel
theorem dX10_addToken_21 : decode cX10_addToken 21 = .ok (.getfield 22, 3) := by decide +kernel
theorem dX10_addToken_24 : decode cX10_addToken 24 = .ok (.aload_n 0, 1) := by decide +kernel
theorem dX10_addToken_25 : decode cX10_addToken 25 = .ok (.getfield 28, 3) := by decide +kernel
theorem dX10_addToken_28 : decode cX10_addToken 28 = .ok (.iload_n 2, 1) := by decide +kernel
theorem dX10_addToken_29 : decode cX10_addToken 29 = .ok (.iastore, 1) := by decide +kernel
theorem dX10_addToken_30 : decode cX10_addToken 30 = .ok (.aload_n 0, 1) := by decide +kernel
theorem dX10_addToken_31 : decode cX10_addToken 31 = .ok (.getfield 25, 3) := by decide +kernel
theorem dX10_addToken_34 : decode cX10_addToken 34 = .ok (.aload_n 0, 1) := by decide +kernel
theorem dX10_addToken_35 : decode cX10_addToken 35 = .ok (.getfield 28, 3) := by decide +kernel
theorem dX10_addToken_38 : decode cX10_addToken 38 = .ok (.iload_n 3, 1) := by decide +kernel
theorem dX10_addToken_39 : decode cX10_addToken 39 = .ok (.iastore, 1) := by decide +kernel
theorem dX10_addToken_40 : decode cX10_addToken 40 = .ok (.aload_n 0, 1) := by decide +kernel
theorem dX10_addToken_41 : decode cX10_addToken 41 = .ok (.dup, 1) := by decide +kernel
theorem dX10_addToken_42 : decode cX10_addToken 42 = .ok (.getfield 28, 3) := by decide +kernel
theorem dX10_addToken_45 : decode cX10_addToken 45 = .ok (.iconst 1, 1) := by decide +kernel
theorem dX10_addToken_46 : decode cX10_addToken 46 = .ok (.iadd, 1) := by decide +kernel
theorem dX10_addToken_47 : decode cX10_addToken 47 = .ok (.putfield 28, 3) := by decide +kernel
theorem dX10_addToken_50 : decode cX10_addToken 50 = .ok (.return_, 1) := by decide +kernel
theorem dX11_allEased_0 : decode cX11_allEased 0 = .ok (.aload_n 0, 1) := by decide +kernel
theorem dX11_allEased_1 : decode cX11_allEased 1 = .ok (.getfield 43, 3) := by decide +kernel
theorem dX11_allEased_4 : decode cX11_allEased 4 = .ok (.getfield 111, 3) := by decide +kernel
theorem dX11_allEased_7 : decode cX11_allEased 7 = .ok (.invokevirtual 152, 3) := by decide +kernel
theorem dX11_allEased_10 : decode cX11_allEased 10 = .ok (.ifCond .ne 5, 3) := by decide +kernel
theorem dX11_allEased_13 : decode cX11_allEased 13 = .ok (.iconst (-1), 1) := by decide +kernel
theorem dX11_allEased_14 : decode cX11_allEased 14 = .ok (.ireturn, 1) := by decide +kernel
theorem dX11_allEased_15 : decode cX11_allEased 15 = .ok (.aload_n 0, 1) := by decide +kernel
theorem dX11_allEased_16 : decode cX11_allEased 16 = .ok (.getfield 61, 3) := by decide +kernel
theorem dX11_allEased_19 : decode cX11_allEased 19 = .ok (.aload_n 0, 1) := by decide +kernel
theorem dX11_allEased_20 : decode cX11_allEased 20 = .ok (.getfield 43, 3) := by decide +kernel
theorem dX11_allEased_23 : decode cX11_allEased 23 = .ok (.getfield 111, 3) := by decide +kernel
theorem dX11_allEased_26 : decode cX11_allEased 26 = .ok (.aload_n 0, 1) := by decide +kernel
theorem dX11_allEased_27 : decode cX11_allEased 27 = .ok (.invokevirtual 159, 3) := by decide +kernel
theorem dX11_allEased_30 : decode cX11_allEased 30 = .ok (.invokevirtual 162, 3) := by decide +kernel
theorem dX11_allEased_33 : decode cX11_allEased 33 = .ok (.aload_n 0, 1) := by decide +kernel
theorem dX11_allEased_34 : decode cX11_allEased 34 = .ok (.getfield 68, 3) := by decide +kernel
theorem dX11_allEased_37 : decode cX11_allEased 37 = .ok (.aload_n 0, 1) := by decide +kernel
theorem dX11_allEased_38 : decode cX11_allEased 38 = .ok (.getfield 61, 3) := by decide +kernel
theorem dX11_allEased_41 : decode cX11_allEased 41 = .ok (.iconst 0, 1) := by decide +kernel
theorem dX11_allEased_42 : decode cX11_allEased 42 = .ok (.aload_n 0, 1) := by decide +kernel
theorem dX11_allEased_43 : decode cX11_allEased 43 = .ok (.getfield 43, 3) := by decide +kernel
theorem dX11_allEased_46 : decode cX11_allEased 46 = .ok (.getfield 111, 3) := by decide +kernel
theorem dX11_allEased_49 : decode cX11_allEased 49 = .ok (.getfield 124, 3) := by decide +kernel
theorem dX11_allEased_52 : decode cX11_allEased 52 = .ok (.iconst 4, 1) := by decide +kernel
theorem dX11_allEased_53 : decode cX11_allEased 53 = .ok (.iaload, 1) := by decide +kernel
theorem dX11_allEased_54 : decode cX11_allEased 54 = .ok (.iconst 1, 1) := by decide +kernel
theorem dX11_allEased_55 : decode cX11_allEased 55 = .ok (.isub, 1) := by decide +kernel
theorem dX11_allEased_56 : decode cX11_allEased 56 = .ok (.invokevirtual 190, 3) := by decide +kernel
theorem dX11_allEased_59 : decode cX11_allEased 59 = .ok (.ireturn, 1) := by decide +kernel
theorem dX12_allEased_0 : decode cX12_allEased 0 = .ok (.aload_n 0, 1) := by decide +kernel
theorem dX12_allEased_1 : decode cX12_allEased 1 = .ok (.invokevirtual 294, 3) := by decide +kernel
theorem dX12_allEased_4 : decode cX12_allEased 4 = .ok (.ifCond .eq 11, 3) := by decide +kernel
theorem dX12_allEased_7 : decode cX12_allEased 7 = .ok (.aload_n 0, 1) := by decide +kernel
theorem dX12_allEased_8 : decode cX12_allEased 8 = .ok (.iconst (-1), 1) := by decide +kernel
theorem dX12_allEased_9 : decode cX12_allEased 9 = .ok (.invokevirtual 384, 3) := by decide +kernel
theorem dX12_allEased_12 : decode cX12_allEased 12 = .ok (.goto 4, 3) := by decide +kernel
theorem dX12_allEased_15 : decode cX12_allEased 15 = .ok (.iconst (-1), 1) := by decide +kernel
theorem dX12_allEased_16 : decode cX12_allEased 16 = .ok (.ireturn, 1) := by decide +kernel
theorem dX12_isArcher_0 : decode cX12_isArcher 0 = .ok (.iload_n 1, 1) := by decide +kernel
theorem dX12_isArcher_1 : decode cX12_isArcher 1 = .ok (.ifCond .lt 17, 3) := by decide +kernel
theorem dX12_isArcher_4 : decode cX12_isArcher 4 = .ok (.iload_n 1, 1) := by decide +kernel
theorem dX12_isArcher_5 : decode cX12_isArcher 5 = .ok (.aload_n 0, 1) := by decide +kernel
theorem dX12_isArcher_6 : decode cX12_isArcher 6 = .ok (.getfield 39, 3) := by decide +kernel
theorem dX12_isArcher_9 : decode cX12_isArcher 9 = .ok (.iconst 5, 1) := by decide +kernel
theorem dX12_isArcher_10 : decode cX12_isArcher 10 = .ok (.iaload, 1) := by decide +kernel
theorem dX12_isArcher_11 : decode cX12_isArcher 11 = .ok (.if_icmp .ge 7, 3) := by decide +kernel
theorem dX12_isArcher_14 : decode cX12_isArcher 14 = .ok (.iconst 1, 1) := by decide +kernel
theorem dX12_isArcher_15 : decode cX12_isArcher 15 = .ok (.goto 4, 3) := by decide +kernel
theorem dX12_isArcher_18 : decode cX12_isArcher 18 = .ok (.iconst 0, 1) := by decide +kernel
theorem dX12_isArcher_19 : decode cX12_isArcher 19 = .ok (.ireturn, 1) := by decide +kernel
theorem dX12_isLetter_0 : decode cX12_isLetter 0 = .ok (.iload_n 1, 1) := by decide +kernel
theorem dX12_isLetter_1 : decode cX12_isLetter 1 = .ok (.aload_n 0, 1) := by decide +kernel
theorem dX12_isLetter_2 : decode cX12_isLetter 2 = .ok (.getfield 89, 3) := by decide +kernel
theorem dX12_isLetter_5 : decode cX12_isLetter 5 = .ok (.if_icmp .ge 29, 3) := by decide +kernel
theorem dX12_isLetter_8 : decode cX12_isLetter 8 = .ok (.aload_n 0, 1) := by decide +kernel
theorem dX12_isLetter_9 : decode cX12_isLetter 9 = .ok (.getfield 7, 3) := by decide +kernel
theorem dX12_isLetter_12 : decode cX12_isLetter 12 = .ok (.iload_n 1, 1) := by decide +kernel
theorem dX12_isLetter_13 : decode cX12_isLetter 13 = .ok (.baload, 1) := by decide +kernel
theorem dX12_isLetter_14 : decode cX12_isLetter 14 = .ok (.bipush 97, 2) := by decide +kernel
theorem dX12_isLetter_16 : decode cX12_isLetter 16 = .ok (.if_icmp .lt 18, 3) := by decide +kernel
theorem dX12_isLetter_19 : decode cX12_isLetter 19 = .ok (.aload_n 0, 1) := by decide +kernel
theorem dX12_isLetter_20 : decode cX12_isLetter 20 = .ok (.getfield 7, 3) := by decide +kernel
theorem dX12_isLetter_23 : decode cX12_isLetter 23 = .ok (.iload_n 1, 1) := by decide +kernel
theorem dX12_isLetter_24 : decode cX12_isLetter 24 = .ok (.baload, 1) := by decide +kernel
theorem dX12_isLetter_25 : decode cX12_isLetter 25 = .ok (.bipush 122, 2) := by decide +kernel
theorem dX12_isLetter_27 : decode cX12_isLetter 27 = .ok (.if_icmp .gt 7, 3) := by decide +kernel
theorem dX12_isLetter_30 : decode cX12_isLetter 30 = .ok (.iconst 1, 1) := by decide +kernel
theorem dX12_isLetter_31 : decode cX12_isLetter 31 = .ok (.goto 4, 3) := by decide +kernel
theorem dX12_isLetter_34 : decode cX12_isLetter 34 = .ok (.iconst 0, 1) := by decide +kernel
theorem dX12_isLetter_35 : decode cX12_isLetter 35 = .ok (.ireturn, 1) := by decide +kernel
theorem dX12_readsAll_0 : decode cX12_readsAll 0 = .ok (.aload_n 0, 1) := by decide +kernel
theorem dX12_readsAll_1 : decode cX12_readsAll 1 = .ok (.getfield 17, 3) := by decide +kernel
theorem dX12_readsAll_4 : decode cX12_readsAll 4 = .ok (.aload_n 0, 1) := by decide +kernel
theorem dX12_readsAll_5 : decode cX12_readsAll 5 = .ok (.getfield 157, 3) := by decide +kernel
theorem dX12_readsAll_8 : decode cX12_readsAll 8 = .ok (.iconst 0, 1) := by decide +kernel
theorem dX12_readsAll_9 : decode cX12_readsAll 9 = .ok (.iastore, 1) := by decide +kernel
theorem dX12_readsAll_10 : decode cX12_readsAll 10 = .ok (.aload_n 0, 1) := by decide +kernel
theorem dX12_readsAll_11 : decode cX12_readsAll 11 = .ok (.iconst 0, 1) := by decide +kernel
theorem dX12_readsAll_12 : decode cX12_readsAll 12 = .ok (.putfield 255, 3) := by decide +kernel
theorem dX12_readsAll_15 : decode cX12_readsAll 15 = .ok (.aload_n 0, 1) := by decide +kernel
theorem dX12_readsAll_16 : decode cX12_readsAll 16 = .ok (.iconst 0, 1) := by decide +kernel
theorem dX12_readsAll_17 : decode cX12_readsAll 17 = .ok (.putfield 99, 3) := by decide +kernel
theorem dX12_readsAll_20 : decode cX12_readsAll 20 = .ok (.aload_n 0, 1) := by decide +kernel
theorem dX12_readsAll_21 : decode cX12_readsAll 21 = .ok (.iconst 0, 1) := by decide +kernel
theorem dX12_readsAll_22 : decode cX12_readsAll 22 = .ok (.putfield 96, 3) := by decide +kernel
theorem dX12_readsAll_25 : decode cX12_readsAll 25 = .ok (.aload_n 0, 1) := by decide +kernel
theorem dX12_readsAll_26 : decode cX12_readsAll 26 = .ok (.iconst 0, 1) := by decide +kernel
theorem dX12_readsAll_27 : decode cX12_readsAll 27 = .ok (.putfield 160, 3) := by decide +kernel
theorem dX12_readsAll_30 : decode cX12_readsAll 30 = .ok (.aload_n 0, 1) := by decide +kernel
theorem dX12_readsAll_31 : decode cX12_readsAll 31 = .ok (.invokevirtual 264, 3) := by decide +kernel
theorem dX12_readsAll_34 : decode cX12_readsAll 34 = .ok (.istore_n 1, 1) := by decide +kernel
theorem dX12_readsAll_35 : decode cX12_readsAll 35 = .ok (.iload_n 1, 1) := by decide +kernel
theorem dX12_readsAll_36 : decode cX12_readsAll 36 = .ok (.ifCond .eq 30, 3) := by decide +kernel
theorem dX12_readsAll_39 : decode cX12_readsAll 39 = .ok (.aload_n 0, 1) := by decide +kernel
theorem dX12_readsAll_40 : decode cX12_readsAll 40 = .ok (.invokevirtual 102, 3) := by decide +kernel
theorem dX12_readsAll_43 : decode cX12_readsAll 43 = .ok (.bipush 59, 2) := by decide +kernel
theorem dX12_readsAll_45 : decode cX12_readsAll 45 = .ok (.if_icmp .ne 21, 3) := by decide +kernel
theorem dX12_readsAll_48 : decode cX12_readsAll 48 = .ok (.aload_n 0, 1) := by decide +kernel
theorem dX12_readsAll_49 : decode cX12_readsAll 49 = .ok (.dup, 1) := by decide +kernel
theorem dX12_readsAll_50 : decode cX12_readsAll 50 = .ok (.getfield 99, 3) := by decide +kernel
theorem dX12_readsAll_53 : decode cX12_readsAll 53 = .ok (.iconst 1, 1) := by decide +kernel
theorem dX12_readsAll_54 : decode cX12_readsAll 54 = .ok (.iadd, 1) := by decide +kernel
theorem dX12_readsAll_55 : decode cX12_readsAll 55 = .ok (.putfield 99, 3) := by decide +kernel
theorem dX12_readsAll_58 : decode cX12_readsAll 58 = .ok (.aload_n 0, 1) := by decide +kernel
theorem dX12_readsAll_59 : decode cX12_readsAll 59 = .ok (.invokevirtual 264, 3) := by decide +kernel
theorem dX12_readsAll_62 : decode cX12_readsAll 62 = .ok (.istore_n 1, 1) := by decide +kernel
theorem dX12_readsAll_63 : decode cX12_readsAll 63 = .ok (.goto (-28), 3) := by decide +kernel
theorem dX12_readsAll_66 : decode cX12_readsAll 66 = .ok (.iload_n 1, 1) := by decide +kernel
theorem dX12_readsAll_67 : decode cX12_readsAll 67 = .ok (.ifCond .eq 21, 3) := by decide +kernel
theorem dX12_readsAll_70 : decode cX12_readsAll 70 = .ok (.aload_n 0, 1) := by decide +kernel
theorem dX12_readsAll_71 : decode cX12_readsAll 71 = .ok (.invokevirtual 102, 3) := by decide +kernel
theorem dX12_readsAll_74 : decode cX12_readsAll 74 = .ok (.iconst (-1), 1) := by decide +kernel
theorem dX12_readsAll_75 : decode cX12_readsAll 75 = .ok (.if_icmp .eq 13, 3) := by decide +kernel
theorem dX12_readsAll_78 : decode cX12_readsAll 78 = .ok (.aload_n 0, 1) := by decide +kernel
theorem dX12_readsAll_79 : decode cX12_readsAll 79 = .ok (.iconst 0, 1) := by decide +kernel
theorem dX12_readsAll_80 : decode cX12_readsAll 80 = .ok (.aload_n 0, 1) := by decide +kernel
theorem dX12_readsAll_81 : decode cX12_readsAll 81 = .ok (.getfield 99, 3) := by decide +kernel
theorem dX12_readsAll_84 : decode cX12_readsAll 84 = .ok (.invokevirtual 120, 3) := by decide +kernel
theorem dX12_readsAll_87 : decode cX12_readsAll 87 = .ok (.pop, 1) := by decide +kernel
theorem dX12_readsAll_88 : decode cX12_readsAll 88 = .ok (.aload_n 0, 1) := by decide +kernel
theorem dX12_readsAll_89 : decode cX12_readsAll 89 = .ok (.iconst 0, 1) := by decide +kernel
theorem dX12_readsAll_90 : decode cX12_readsAll 90 = .ok (.putfield 89, 3) := by decide +kernel
theorem dX12_readsAll_93 : decode cX12_readsAll 93 = .ok (.aload_n 0, 1) := by decide +kernel
theorem dX12_readsAll_94 : decode cX12_readsAll 94 = .ok (.getfield 96, 3) := by decide +kernel
theorem dX12_readsAll_97 : decode cX12_readsAll 97 = .ok (.ifCond .ne 7, 3) := by decide +kernel
theorem dX12_readsAll_100 : decode cX12_readsAll 100 = .ok (.iconst 1, 1) := by decide +kernel
theorem dX12_readsAll_101 : decode cX12_readsAll 101 = .ok (.goto 4, 3) := by decide +kernel
theorem dX12_readsAll_104 : decode cX12_readsAll 104 = .ok (.iconst 0, 1) := by decide +kernel
theorem dX12_readsAll_105 : decode cX12_readsAll 105 = .ok (.ireturn, 1) := by decide +kernel
theorem dX1_hasArcher_0 : decode cX1_hasArcher 0 = .ok (.iload_n 1, 1) := by decide +kernel
theorem dX1_hasArcher_1 : decode cX1_hasArcher 1 = .ok (.iconst 0, 1) := by decide +kernel
theorem dX1_hasArcher_2 : decode cX1_hasArcher 2 = .ok (.aload_n 0, 1) := by decide +kernel
theorem dX1_hasArcher_3 : decode cX1_hasArcher 3 = .ok (.getfield 11, 3) := by decide +kernel
theorem dX1_hasArcher_6 : decode cX1_hasArcher 6 = .ok (.iconst 4, 1) := by decide +kernel
theorem dX1_hasArcher_7 : decode cX1_hasArcher 7 = .ok (.iaload, 1) := by decide +kernel
theorem dX1_hasArcher_8 : decode cX1_hasArcher 8 = .ok (.iconst 1, 1) := by decide +kernel
theorem dX1_hasArcher_9 : decode cX1_hasArcher 9 = .ok (.isub, 1) := by decide +kernel
theorem dX1_hasArcher_10 : decode cX1_hasArcher 10 = .ok (.invokestatic 27, 3) := by decide +kernel
theorem dX1_hasArcher_13 : decode cX1_hasArcher 13 = .ok (.ireturn, 1) := by decide +kernel
theorem dJ7_fill_53178_0 : decode cJ7_fill_53178 0 = .ok (.iconst 0, 1) := by decide +kernel
theorem dJ7_fill_53178_1 : decode cJ7_fill_53178 1 = .ok (.istore_n 2, 1) := by decide +kernel
theorem dJ7_fill_53178_2 : decode cJ7_fill_53178 2 = .ok (.aload_n 0, 1) := by decide +kernel
theorem dJ7_fill_53178_3 : decode cJ7_fill_53178 3 = .ok (.arraylength, 1) := by decide +kernel
theorem dJ7_fill_53178_4 : decode cJ7_fill_53178 4 = .ok (.istore_n 3, 1) := by decide +kernel
theorem dJ7_fill_53178_5 : decode cJ7_fill_53178 5 = .ok (.iload_n 2, 1) := by decide +kernel
theorem dJ7_fill_53178_6 : decode cJ7_fill_53178 6 = .ok (.iload_n 3, 1) := by decide +kernel
theorem dJ7_fill_53178_7 : decode cJ7_fill_53178 7 = .ok (.if_icmp .ge 13, 3) := by decide +kernel
theorem dJ7_fill_53178_10 : decode cJ7_fill_53178 10 = .ok (.aload_n 0, 1) := by decide +kernel
theorem dJ7_fill_53178_11 : decode cJ7_fill_53178 11 = .ok (.iload_n 2, 1) := by decide +kernel
theorem dJ7_fill_53178_12 : decode cJ7_fill_53178 12 = .ok (.iload_n 1, 1) := by decide +kernel
theorem dJ7_fill_53178_13 : decode cJ7_fill_53178 13 = .ok (.iastore, 1) := by decide +kernel
theorem dJ7_fill_53178_14 : decode cJ7_fill_53178 14 = .ok (.iinc 2 1, 3) := by decide +kernel
theorem dJ7_fill_53178_17 : decode cJ7_fill_53178 17 = .ok (.goto (-12), 3) := by decide +kernel
theorem dJ7_fill_53178_20 : decode cJ7_fill_53178 20 = .ok (.return_, 1) := by decide +kernel
theorem dX3_readClause_0 : decode cX3_readClause 0 = .ok (.aload_n 1, 1) := by decide +kernel
theorem dX3_readClause_1 : decode cX3_readClause 1 = .ok (.getfield 41, 3) := by decide +kernel
theorem dX3_readClause_4 : decode cX3_readClause 4 = .ok (.iconst 3, 1) := by decide +kernel
theorem dX3_readClause_5 : decode cX3_readClause 5 = .ok (.if_icmp .ne 10, 3) := by decide +kernel
theorem dX3_readClause_8 : decode cX3_readClause 8 = .ok (.aload_n 1, 1) := by decide +kernel
theorem dX3_readClause_9 : decode cX3_readClause 9 = .ok (.getfield 44, 3) := by decide +kernel
theorem dX3_readClause_12 : decode cX3_readClause 12 = .ok (.goto 4, 3) := by decide +kernel
theorem dX3_readClause_15 : decode cX3_readClause 15 = .ok (.iconst (-1), 1) := by decide +kernel
theorem dX3_readClause_16 : decode cX3_readClause 16 = .ok (.istore_n 3, 1) := by decide +kernel
theorem dX3_readClause_17 : decode cX3_readClause 17 = .ok (.iload_n 3, 1) := by decide +kernel
theorem dX3_readClause_18 : decode cX3_readClause 18 = .ok (.invokestatic 47, 3) := by decide +kernel
theorem dX3_readClause_21 : decode cX3_readClause 21 = .ok (.ifCond .ne 15, 3) := by decide +kernel
theorem dX3_readClause_24 : decode cX3_readClause 24 = .ok (.aload_n 1, 1) := by decide +kernel
theorem dX3_readClause_25 : decode cX3_readClause 25 = .ok (.aload_n 1, 1) := by decide +kernel
theorem dX3_readClause_26 : decode cX3_readClause 26 = .ok (.getfield 51, 3) := by decide +kernel
theorem dX3_readClause_29 : decode cX3_readClause 29 = .ok (.iconst 0, 1) := by decide +kernel
theorem dX3_readClause_30 : decode cX3_readClause 30 = .ok (.invokevirtual 54, 3) := by decide +kernel
theorem dX3_readClause_33 : decode cX3_readClause 33 = .ok (.goto 62, 3) := by decide +kernel
theorem dX3_readClause_36 : decode cX3_readClause 36 = .ok (.iload_n 2, 1) := by decide +kernel
theorem dX3_readClause_37 : decode cX3_readClause 37 = .ok (.bipush 40, 2) := by decide +kernel
theorem dX3_readClause_39 : decode cX3_readClause 39 = .ok (.if_icmp .ge 34, 3) := by decide +kernel
theorem dX3_readClause_42 : decode cX3_readClause 42 = .ok (.iload_n 3, 1) := by decide +kernel
theorem dX3_readClause_43 : decode cX3_readClause 43 = .ok (.bipush 13, 2) := by decide +kernel
theorem dX3_readClause_45 : decode cX3_readClause 45 = .ok (.if_icmp .ne 7, 3) := by decide +kernel
theorem dX3_readClause_48 : decode cX3_readClause 48 = .ok (.iconst 1, 1) := by decide +kernel
theorem dX3_readClause_49 : decode cX3_readClause 49 = .ok (.goto 4, 3) := by decide +kernel
theorem dX3_readClause_52 : decode cX3_readClause 52 = .ok (.iconst 0, 1) := by decide +kernel
theorem dX3_readClause_53 : decode cX3_readClause 53 = .ok (.iload_n 2, 1) := by decide +kernel
theorem dX3_readClause_54 : decode cX3_readClause 54 = .ok (.ifCond .ne 7, 3) := by decide +kernel
theorem dX3_readClause_57 : decode cX3_readClause 57 = .ok (.iconst 1, 1) := by decide +kernel
theorem dX3_readClause_58 : decode cX3_readClause 58 = .ok (.goto 4, 3) := by decide +kernel
theorem dX3_readClause_61 : decode cX3_readClause 61 = .ok (.iconst 0, 1) := by decide +kernel
theorem dX3_readClause_62 : decode cX3_readClause 62 = .ok (.if_icmp .ne 11, 3) := by decide +kernel
theorem dX3_readClause_65 : decode cX3_readClause 65 = .ok (.aload_n 0, 1) := by decide +kernel
theorem dX3_readClause_66 : decode cX3_readClause 66 = .ok (.iload_n 3, 1) := by decide +kernel
theorem dX3_readClause_67 : decode cX3_readClause 67 = .ok (.invokevirtual 58, 3) := by decide +kernel
theorem dX3_readClause_70 : decode cX3_readClause 70 = .ok (.ifCond .eq 15, 3) := by decide +kernel
theorem dX3_readClause_73 : decode cX3_readClause 73 = .ok (.aload_n 1, 1) := by decide +kernel
theorem dX3_readClause_74 : decode cX3_readClause 74 = .ok (.aload_n 1, 1) := by decide +kernel
theorem dX3_readClause_75 : decode cX3_readClause 75 = .ok (.getfield 51, 3) := by decide +kernel
theorem dX3_readClause_78 : decode cX3_readClause 78 = .ok (.iconst 4, 1) := by decide +kernel
theorem dX3_readClause_79 : decode cX3_readClause 79 = .ok (.invokevirtual 54, 3) := by decide +kernel
theorem dX3_readClause_82 : decode cX3_readClause 82 = .ok (.goto 13, 3) := by decide +kernel
theorem dX3_readClause_85 : decode cX3_readClause 85 = .ok (.aload_n 1, 1) := by decide +kernel
theorem dX3_readClause_86 : decode cX3_readClause 86 = .ok (.invokevirtual 61, 3) := by decide +kernel
theorem dX3_readClause_89 : decode cX3_readClause 89 = .ok (.aload_n 0, 1) := by decide +kernel
theorem dX3_readClause_90 : decode cX3_readClause 90 = .ok (.aload_n 1, 1) := by decide +kernel
theorem dX3_readClause_91 : decode cX3_readClause 91 = .ok (.iload_n 3, 1) := by decide +kernel
theorem dX3_readClause_92 : decode cX3_readClause 92 = .ok (.invokevirtual 64, 3) := by decide +kernel
theorem dX3_readClause_95 : decode cX3_readClause 95 = .ok (.return_, 1) := by decide +kernel
theorem dX8_readClause_0 : decode cX8_readClause 0 = .ok (.aload_n 1, 1) := by decide +kernel
theorem dX8_readClause_1 : decode cX8_readClause 1 = .ok (.bipush 14, 2) := by decide +kernel
