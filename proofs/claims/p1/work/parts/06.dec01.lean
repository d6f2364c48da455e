theorem dX11_shoot_49 : decode cX11_shoot 49 = .ok (.iload_n 2, 1) := by decide +kernel
theorem dX11_shoot_50 : decode cX11_shoot 50 = .ok (.aload_n 3, 1) := by decide +kernel
theorem dX11_shoot_51 : decode cX11_shoot 51 = .ok (.aload_n 3, 1) := by decide +kernel
theorem dX11_shoot_52 : decode cX11_shoot 52 = .ok (.getfield 124, 3) := by decide +kernel
theorem dX11_shoot_55 : decode cX11_shoot 55 = .ok (.bipush 6, 2) := by decide +kernel
theorem dX11_shoot_57 : decode cX11_shoot 57 = .ok (.iaload, 1) := by decide +kernel
theorem dX11_shoot_58 : decode cX11_shoot 58 = .ok (.invokevirtual 142, 3) := by decide +kernel
theorem dX11_shoot_61 : decode cX11_shoot 61 = .ok (.invokevirtual 171, 3) := by decide +kernel
theorem dX11_shoot_64 : decode cX11_shoot 64 = .ok (.invokestatic 175, 3) := by decide +kernel
theorem dX11_shoot_67 : decode cX11_shoot 67 = .ok (.ireturn, 1) := by decide +kernel
theorem dX11_teach_0 : decode cX11_teach 0 = .ok (.aload_n 0, 1) := by decide +kernel
theorem dX11_teach_1 : decode cX11_teach 1 = .ok (.getfield 43, 3) := by decide +kernel
theorem dX11_teach_4 : decode cX11_teach 4 = .ok (.getfield 111, 3) := by decide +kernel
theorem dX11_teach_7 : decode cX11_teach 7 = .ok (.astore_n 3, 1) := by decide +kernel
theorem dX11_teach_8 : decode cX11_teach 8 = .ok (.aload_n 3, 1) := by decide +kernel
theorem dX11_teach_9 : decode cX11_teach 9 = .ok (.iload_n 1, 1) := by decide +kernel
theorem dX11_teach_10 : decode cX11_teach 10 = .ok (.invokevirtual 139, 3) := by decide +kernel
theorem dX11_teach_13 : decode cX11_teach 13 = .ok (.ifCond .eq 13, 3) := by decide +kernel
theorem dX11_teach_16 : decode cX11_teach 16 = .ok (.iload_n 2, 1) := by decide +kernel
theorem dX11_teach_17 : decode cX11_teach 17 = .ok (.iconst 1, 1) := by decide +kernel
theorem dX11_teach_18 : decode cX11_teach 18 = .ok (.bipush 9, 2) := by decide +kernel
theorem dX11_teach_20 : decode cX11_teach 20 = .ok (.invokestatic 90, 3) := by decide +kernel
theorem dX11_teach_23 : decode cX11_teach 23 = .ok (.ifCond .ne 5, 3) := by decide +kernel
theorem dX11_teach_26 : decode cX11_teach 26 = .ok (.iconst (-1), 1) := by decide +kernel
theorem dX11_teach_27 : decode cX11_teach 27 = .ok (.ireturn, 1) := by decide +kernel
theorem dX11_teach_28 : decode cX11_teach 28 = .ok (.aload_n 3, 1) := by decide +kernel
theorem dX11_teach_29 : decode cX11_teach 29 = .ok (.getfield 124, 3) := by decide +kernel
theorem dX11_teach_32 : decode cX11_teach 32 = .ok (.bipush 43, 2) := by decide +kernel
theorem dX11_teach_34 : decode cX11_teach 34 = .ok (.iload_n 1, 1) := by decide +kernel
theorem dX11_teach_35 : decode cX11_teach 35 = .ok (.iadd, 1) := by decide +kernel
theorem dX11_teach_36 : decode cX11_teach 36 = .ok (.iaload, 1) := by decide +kernel
theorem dX11_teach_37 : decode cX11_teach 37 = .ok (.istore 4, 2) := by decide +kernel
theorem dX11_teach_39 : decode cX11_teach 39 = .ok (.iload 4, 2) := by decide +kernel
theorem dX11_teach_41 : decode cX11_teach 41 = .ok (.iload_n 2, 1) := by decide +kernel
theorem dX11_teach_42 : decode cX11_teach 42 = .ok (.if_icmp .ne 5, 3) := by decide +kernel
theorem dX11_teach_45 : decode cX11_teach 45 = .ok (.iconst (-1), 1) := by decide +kernel
theorem dX11_teach_46 : decode cX11_teach 46 = .ok (.ireturn, 1) := by decide +kernel
theorem dX11_teach_47 : decode cX11_teach 47 = .ok (.aload_n 0, 1) := by decide +kernel
theorem dX11_teach_48 : decode cX11_teach 48 = .ok (.getfield 54, 3) := by decide +kernel
theorem dX11_teach_51 : decode cX11_teach 51 = .ok (.aload_n 3, 1) := by decide +kernel
theorem dX11_teach_52 : decode cX11_teach 52 = .ok (.invokevirtual 156, 3) := by decide +kernel
theorem dX11_teach_55 : decode cX11_teach 55 = .ok (.aload_n 3, 1) := by decide +kernel
theorem dX11_teach_56 : decode cX11_teach 56 = .ok (.getfield 124, 3) := by decide +kernel
theorem dX11_teach_59 : decode cX11_teach 59 = .ok (.bipush 43, 2) := by decide +kernel
theorem dX11_teach_61 : decode cX11_teach 61 = .ok (.iload_n 1, 1) := by decide +kernel
theorem dX11_teach_62 : decode cX11_teach 62 = .ok (.iadd, 1) := by decide +kernel
theorem dX11_teach_63 : decode cX11_teach 63 = .ok (.iload_n 2, 1) := by decide +kernel
theorem dX11_teach_64 : decode cX11_teach 64 = .ok (.iastore, 1) := by decide +kernel
theorem dX11_teach_65 : decode cX11_teach 65 = .ok (.iload 4, 2) := by decide +kernel
theorem dX11_teach_67 : decode cX11_teach 67 = .ok (.ireturn, 1) := by decide +kernel
theorem dX1_isTold_0 : decode cX1_isTold 0 = .ok (.aload_n 0, 1) := by decide +kernel
theorem dX1_isTold_1 : decode cX1_isTold 1 = .ok (.getfield 11, 3) := by decide +kernel
theorem dX1_isTold_4 : decode cX1_isTold 4 = .ok (.iconst 0, 1) := by decide +kernel
theorem dX1_isTold_5 : decode cX1_isTold 5 = .ok (.iaload, 1) := by decide +kernel
theorem dX1_isTold_6 : decode cX1_isTold 6 = .ok (.ifCond .le 7, 3) := by decide +kernel
theorem dX1_isTold_9 : decode cX1_isTold 9 = .ok (.iconst 1, 1) := by decide +kernel
theorem dX1_isTold_10 : decode cX1_isTold 10 = .ok (.goto 4, 3) := by decide +kernel
theorem dX1_isTold_13 : decode cX1_isTold 13 = .ok (.iconst 0, 1) := by decide +kernel
theorem dX1_isTold_14 : decode cX1_isTold 14 = .ok (.ireturn, 1) := by decide +kernel
theorem dX11_archer_0 : decode cX11_archer 0 = .ok (.aload_n 0, 1) := by decide +kernel
theorem dX11_archer_1 : decode cX11_archer 1 = .ok (.getfield 43, 3) := by decide +kernel
theorem dX11_archer_4 : decode cX11_archer 4 = .ok (.getfield 111, 3) := by decide +kernel
theorem dX11_archer_7 : decode cX11_archer 7 = .ok (.iload_n 1, 1) := by decide +kernel
theorem dX11_archer_8 : decode cX11_archer 8 = .ok (.invokevirtual 139, 3) := by decide +kernel
theorem dX11_archer_11 : decode cX11_archer 11 = .ok (.ifCond .ne 5, 3) := by decide +kernel
theorem dX11_archer_14 : decode cX11_archer 14 = .ok (.iconst (-1), 1) := by decide +kernel
theorem dX11_archer_15 : decode cX11_archer 15 = .ok (.ireturn, 1) := by decide +kernel
theorem dX11_archer_16 : decode cX11_archer 16 = .ok (.iload_n 2, 1) := by decide +kernel
theorem dX11_archer_17 : decode cX11_archer 17 = .ok (.tableswitch 115 0 4 #[35, 51, 67, 83, 99], 35) := by decide +kernel
theorem dX11_archer_52 : decode cX11_archer 52 = .ok (.aload_n 0, 1) := by decide +kernel
theorem dX11_archer_53 : decode cX11_archer 53 = .ok (.getfield 43, 3) := by decide +kernel
theorem dX11_archer_56 : decode cX11_archer 56 = .ok (.getfield 111, 3) := by decide +kernel
theorem dX11_archer_59 : decode cX11_archer 59 = .ok (.getfield 124, 3) := by decide +kernel
theorem dX11_archer_62 : decode cX11_archer 62 = .ok (.bipush 38, 2) := by decide +kernel
theorem dX11_archer_64 : decode cX11_archer 64 = .ok (.iload_n 1, 1) := by decide +kernel
theorem dX11_archer_65 : decode cX11_archer 65 = .ok (.iadd, 1) := by decide +kernel
theorem dX11_archer_66 : decode cX11_archer 66 = .ok (.iaload, 1) := by decide +kernel
theorem dX11_archer_67 : decode cX11_archer 67 = .ok (.ireturn, 1) := by decide +kernel
theorem dX11_archer_68 : decode cX11_archer 68 = .ok (.aload_n 0, 1) := by decide +kernel
theorem dX11_archer_69 : decode cX11_archer 69 = .ok (.getfield 43, 3) := by decide +kernel
theorem dX11_archer_72 : decode cX11_archer 72 = .ok (.getfield 111, 3) := by decide +kernel
theorem dX11_archer_75 : decode cX11_archer 75 = .ok (.getfield 124, 3) := by decide +kernel
theorem dX11_archer_78 : decode cX11_archer 78 = .ok (.bipush 43, 2) := by decide +kernel
theorem dX11_archer_80 : decode cX11_archer 80 = .ok (.iload_n 1, 1) := by decide +kernel
theorem dX11_archer_81 : decode cX11_archer 81 = .ok (.iadd, 1) := by decide +kernel
theorem dX11_archer_82 : decode cX11_archer 82 = .ok (.iaload, 1) := by decide +kernel
theorem dX11_archer_83 : decode cX11_archer 83 = .ok (.ireturn, 1) := by decide +kernel
theorem dX11_archer_84 : decode cX11_archer 84 = .ok (.aload_n 0, 1) := by decide +kernel
theorem dX11_archer_85 : decode cX11_archer 85 = .ok (.getfield 43, 3) := by decide +kernel
theorem dX11_archer_88 : decode cX11_archer 88 = .ok (.getfield 111, 3) := by decide +kernel
theorem dX11_archer_91 : decode cX11_archer 91 = .ok (.getfield 124, 3) := by decide +kernel
theorem dX11_archer_94 : decode cX11_archer 94 = .ok (.bipush 48, 2) := by decide +kernel
theorem dX11_archer_96 : decode cX11_archer 96 = .ok (.iload_n 1, 1) := by decide +kernel
theorem dX11_archer_97 : decode cX11_archer 97 = .ok (.iadd, 1) := by decide +kernel
theorem dX11_archer_98 : decode cX11_archer 98 = .ok (.iaload, 1) := by decide +kernel
theorem dX11_archer_99 : decode cX11_archer 99 = .ok (.ireturn, 1) := by decide +kernel
theorem dX11_archer_100 : decode cX11_archer 100 = .ok (.aload_n 0, 1) := by decide +kernel
theorem dX11_archer_101 : decode cX11_archer 101 = .ok (.getfield 43, 3) := by decide +kernel
theorem dX11_archer_104 : decode cX11_archer 104 = .ok (.getfield 111, 3) := by decide +kernel
theorem dX11_archer_107 : decode cX11_archer 107 = .ok (.getfield 124, 3) := by decide +kernel
theorem dX11_archer_110 : decode cX11_archer 110 = .ok (.bipush 53, 2) := by decide +kernel
theorem dX11_archer_112 : decode cX11_archer 112 = .ok (.iload_n 1, 1) := by decide +kernel
theorem dX11_archer_113 : decode cX11_archer 113 = .ok (.iadd, 1) := by decide +kernel
theorem dX11_archer_114 : decode cX11_archer 114 = .ok (.iaload, 1) := by decide +kernel
theorem dX11_archer_115 : decode cX11_archer 115 = .ok (.ireturn, 1) := by decide +kernel
theorem dX11_archer_116 : decode cX11_archer 116 = .ok (.aload_n 0, 1) := by decide +kernel
theorem dX11_archer_117 : decode cX11_archer 117 = .ok (.getfield 43, 3) := by decide +kernel
theorem dX11_archer_120 : decode cX11_archer 120 = .ok (.getfield 111, 3) := by decide +kernel
theorem dX11_archer_123 : decode cX11_archer 123 = .ok (.getfield 124, 3) := by decide +kernel
theorem dX11_archer_126 : decode cX11_archer 126 = .ok (.bipush 58, 2) := by decide +kernel
theorem dX11_archer_128 : decode cX11_archer 128 = .ok (.iload_n 1, 1) := by decide +kernel
theorem dX11_archer_129 : decode cX11_archer 129 = .ok (.iadd, 1) := by decide +kernel
theorem dX11_archer_130 : decode cX11_archer 130 = .ok (.iaload, 1) := by decide +kernel
theorem dX11_archer_131 : decode cX11_archer 131 = .ok (.ireturn, 1) := by decide +kernel
theorem dX11_archer_132 : decode cX11_archer 132 = .ok (.iconst (-1), 1) := by decide +kernel
theorem dX11_archer_133 : decode cX11_archer 133 = .ok (.ireturn, 1) := by decide +kernel
theorem dX11_breath_0 : decode cX11_breath 0 = .ok (.aload_n 0, 1) := by decide +kernel
theorem dX11_breath_1 : decode cX11_breath 1 = .ok (.getfield 43, 3) := by decide +kernel
theorem dX11_breath_4 : decode cX11_breath 4 = .ok (.getfield 111, 3) := by decide +kernel
theorem dX11_breath_7 : decode cX11_breath 7 = .ok (.astore_n 2, 1) := by decide +kernel
theorem dX11_breath_8 : decode cX11_breath 8 = .ok (.aload_n 2, 1) := by decide +kernel
theorem dX11_breath_9 : decode cX11_breath 9 = .ok (.invokevirtual 152, 3) := by decide +kernel
theorem dX11_breath_12 : decode cX11_breath 12 = .ok (.ifCond .eq 13, 3) := by decide +kernel
theorem dX11_breath_15 : decode cX11_breath 15 = .ok (.iload_n 1, 1) := by decide +kernel
theorem dX11_breath_16 : decode cX11_breath 16 = .ok (.iconst 1, 1) := by decide +kernel
theorem dX11_breath_17 : decode cX11_breath 17 = .ok (.bipush 20, 2) := by decide +kernel
theorem dX11_breath_19 : decode cX11_breath 19 = .ok (.invokestatic 90, 3) := by decide +kernel
theorem dX11_breath_22 : decode cX11_breath 22 = .ok (.ifCond .ne 5, 3) := by decide +kernel
theorem dX11_breath_25 : decode cX11_breath 25 = .ok (.iconst (-1), 1) := by decide +kernel
theorem dX11_breath_26 : decode cX11_breath 26 = .ok (.ireturn, 1) := by decide +kernel
theorem dX11_breath_27 : decode cX11_breath 27 = .ok (.aload_n 0, 1) := by decide +kernel
theorem dX11_breath_28 : decode cX11_breath 28 = .ok (.getfield 54, 3) := by decide +kernel
theorem dX11_breath_31 : decode cX11_breath 31 = .ok (.aload_n 2, 1) := by decide +kernel
theorem dX11_breath_32 : decode cX11_breath 32 = .ok (.invokevirtual 156, 3) := by decide +kernel
theorem dX11_breath_35 : decode cX11_breath 35 = .ok (.aload_n 2, 1) := by decide +kernel
theorem dX11_breath_36 : decode cX11_breath 36 = .ok (.getfield 124, 3) := by decide +kernel
theorem dX11_breath_39 : decode cX11_breath 39 = .ok (.bipush 6, 2) := by decide +kernel
theorem dX11_breath_41 : decode cX11_breath 41 = .ok (.dup2, 1) := by decide +kernel
theorem dX11_breath_42 : decode cX11_breath 42 = .ok (.iaload, 1) := by decide +kernel
theorem dX11_breath_43 : decode cX11_breath 43 = .ok (.iload_n 1, 1) := by decide +kernel
theorem dX11_breath_44 : decode cX11_breath 44 = .ok (.iadd, 1) := by decide +kernel
theorem dX11_breath_45 : decode cX11_breath 45 = .ok (.iastore, 1) := by decide +kernel
theorem dX11_breath_46 : decode cX11_breath 46 = .ok (.aload_n 2, 1) := by decide +kernel
theorem dX11_breath_47 : decode cX11_breath 47 = .ok (.getfield 124, 3) := by decide +kernel
theorem dX11_breath_50 : decode cX11_breath 50 = .ok (.bipush 6, 2) := by decide +kernel
theorem dX11_breath_52 : decode cX11_breath 52 = .ok (.iaload, 1) := by decide +kernel
theorem dX11_breath_53 : decode cX11_breath 53 = .ok (.ireturn, 1) := by decide +kernel
theorem dX11_within_0 : decode cX11_within 0 = .ok (.iload_n 0, 1) := by decide +kernel
theorem dX11_within_1 : decode cX11_within 1 = .ok (.iload_n 1, 1) := by decide +kernel
theorem dX11_within_2 : decode cX11_within 2 = .ok (.if_icmp .lt 12, 3) := by decide +kernel
theorem dX11_within_5 : decode cX11_within 5 = .ok (.iload_n 0, 1) := by decide +kernel
theorem dX11_within_6 : decode cX11_within 6 = .ok (.iload_n 2, 1) := by decide +kernel
theorem dX11_within_7 : decode cX11_within 7 = .ok (.if_icmp .gt 7, 3) := by decide +kernel
theorem dX11_within_10 : decode cX11_within 10 = .ok (.iconst 1, 1) := by decide +kernel
theorem dX11_within_11 : decode cX11_within 11 = .ok (.goto 4, 3) := by decide +kernel
theorem dX11_within_14 : decode cX11_within 14 = .ok (.iconst 0, 1) := by decide +kernel
theorem dX11_within_15 : decode cX11_within 15 = .ok (.ireturn, 1) := by decide +kernel
theorem dX1_hasRing_0 : decode cX1_hasRing 0 = .ok (.iload_n 1, 1) := by decide +kernel
theorem dX1_hasRing_1 : decode cX1_hasRing 1 = .ok (.iconst 0, 1) := by decide +kernel
theorem dX1_hasRing_2 : decode cX1_hasRing 2 = .ok (.aload_n 0, 1) := by decide +kernel
theorem dX1_hasRing_3 : decode cX1_hasRing 3 = .ok (.getfield 11, 3) := by decide +kernel
theorem dX1_hasRing_6 : decode cX1_hasRing 6 = .ok (.iconst 3, 1) := by decide +kernel
theorem dX1_hasRing_7 : decode cX1_hasRing 7 = .ok (.iaload, 1) := by decide +kernel
theorem dX1_hasRing_8 : decode cX1_hasRing 8 = .ok (.iconst 1, 1) := by decide +kernel
theorem dX1_hasRing_9 : decode cX1_hasRing 9 = .ok (.isub, 1) := by decide +kernel
theorem dX1_hasRing_10 : decode cX1_hasRing 10 = .ok (.invokestatic 27, 3) := by decide +kernel
theorem dX1_hasRing_13 : decode cX1_hasRing 13 = .ok (.ireturn, 1) := by decide +kernel
theorem dX11_bestAim_0 : decode cX11_bestAim 0 = .ok (.aload_n 0, 1) := by decide +kernel
theorem dX11_bestAim_1 : decode cX11_bestAim 1 = .ok (.getfield 43, 3) := by decide +kernel
theorem dX11_bestAim_4 : decode cX11_bestAim 4 = .ok (.getfield 111, 3) := by decide +kernel
theorem dX11_bestAim_7 : decode cX11_bestAim 7 = .ok (.astore_n 3, 1) := by decide +kernel
theorem dX11_bestAim_8 : decode cX11_bestAim 8 = .ok (.aload_n 3, 1) := by decide +kernel
theorem dX11_bestAim_9 : decode cX11_bestAim 9 = .ok (.iload_n 1, 1) := by decide +kernel
theorem dX11_bestAim_10 : decode cX11_bestAim 10 = .ok (.invokevirtual 139, 3) := by decide +kernel
theorem dX11_bestAim_13 : decode cX11_bestAim 13 = .ok (.ifCond .eq 12, 3) := by decide +kernel
theorem dX11_bestAim_16 : decode cX11_bestAim 16 = .ok (.iload_n 2, 1) := by decide +kernel
theorem dX11_bestAim_17 : decode cX11_bestAim 17 = .ok (.iconst 0, 1) := by decide +kernel
theorem dX11_bestAim_18 : decode cX11_bestAim 18 = .ok (.iconst 1, 1) := by decide +kernel
theorem dX11_bestAim_19 : decode cX11_bestAim 19 = .ok (.invokestatic 90, 3) := by decide +kernel
theorem dX11_bestAim_22 : decode cX11_bestAim 22 = .ok (.ifCond .ne 6, 3) := by decide +kernel
theorem dX11_bestAim_25 : decode cX11_bestAim 25 = .ok (.bipush (-2), 2) := by decide +kernel
theorem dX11_bestAim_27 : decode cX11_bestAim 27 = .ok (.ireturn, 1) := by decide +kernel
theorem dX11_bestAim_28 : decode cX11_bestAim 28 = .ok (.aload_n 3, 1) := by decide +kernel
theorem dX11_bestAim_29 : decode cX11_bestAim 29 = .ok (.getfield 124, 3) := by decide +kernel
theorem dX11_bestAim_32 : decode cX11_bestAim 32 = .ok (.bipush 38, 2) := by decide +kernel
theorem dX11_bestAim_34 : decode cX11_bestAim 34 = .ok (.iload_n 1, 1) := by decide +kernel
theorem dX11_bestAim_35 : decode cX11_bestAim 35 = .ok (.iadd, 1) := by decide +kernel
theorem dX11_bestAim_36 : decode cX11_bestAim 36 = .ok (.iaload, 1) := by decide +kernel
theorem dX11_bestAim_37 : decode cX11_bestAim 37 = .ok (.istore 4, 2) := by decide +kernel
theorem dX11_bestAim_39 : decode cX11_bestAim 39 = .ok (.aload_n 3, 1) := by decide +kernel
theorem dX11_bestAim_40 : decode cX11_bestAim 40 = .ok (.getfield 124, 3) := by decide +kernel
theorem dX11_bestAim_43 : decode cX11_bestAim 43 = .ok (.bipush 53, 2) := by decide +kernel
theorem dX11_bestAim_45 : decode cX11_bestAim 45 = .ok (.iload_n 1, 1) := by decide +kernel
theorem dX11_bestAim_46 : decode cX11_bestAim 46 = .ok (.iadd, 1) := by decide +kernel
theorem dX11_bestAim_47 : decode cX11_bestAim 47 = .ok (.iaload, 1) := by decide +kernel
theorem dX11_bestAim_48 : decode cX11_bestAim 48 = .ok (.aload_n 3, 1) := by decide +kernel
theorem dX11_bestAim_49 : decode cX11_bestAim 49 = .ok (.getfield 124, 3) := by decide +kernel
theorem dX11_bestAim_52 : decode cX11_bestAim 52 = .ok (.bipush 26, 2) := by decide +kernel
theorem dX11_bestAim_54 : decode cX11_bestAim 54 = .ok (.iload 4, 2) := by decide +kernel
theorem dX11_bestAim_56 : decode cX11_bestAim 56 = .ok (.iadd, 1) := by decide +kernel
theorem dX11_bestAim_57 : decode cX11_bestAim 57 = .ok (.iaload, 1) := by decide +kernel
theorem dX11_bestAim_58 : decode cX11_bestAim 58 = .ok (.invokestatic 178, 3) := by decide +kernel
theorem dX11_bestAim_61 : decode cX11_bestAim 61 = .ok (.istore 5, 2) := by decide +kernel
theorem dX11_bestAim_63 : decode cX11_bestAim 63 = .ok (.aload_n 3, 1) := by decide +kernel
theorem dX11_bestAim_64 : decode cX11_bestAim 64 = .ok (.iload_n 1, 1) := by decide +kernel
theorem dX11_bestAim_65 : decode cX11_bestAim 65 = .ok (.aload_n 3, 1) := by decide +kernel
theorem dX11_bestAim_66 : decode cX11_bestAim 66 = .ok (.getfield 124, 3) := by decide +kernel
theorem dX11_bestAim_69 : decode cX11_bestAim 69 = .ok (.bipush 6, 2) := by decide +kernel
theorem dX11_bestAim_71 : decode cX11_bestAim 71 = .ok (.iaload, 1) := by decide +kernel
theorem dX11_bestAim_72 : decode cX11_bestAim 72 = .ok (.invokevirtual 197, 3) := by decide +kernel
theorem dX11_bestAim_75 : decode cX11_bestAim 75 = .ok (.istore 6, 2) := by decide +kernel
theorem dX11_bestAim_77 : decode cX11_bestAim 77 = .ok (.iload 6, 2) := by decide +kernel
theorem dX11_bestAim_79 : decode cX11_bestAim 79 = .ok (.iconst (-1), 1) := by decide +kernel
theorem dX11_bestAim_80 : decode cX11_bestAim 80 = .ok (.if_icmp .eq 9, 3) := by decide +kernel
theorem dX11_bestAim_83 : decode cX11_bestAim 83 = .ok (.iload 5, 2) := by decide +kernel
theorem dX11_bestAim_85 : decode cX11_bestAim 85 = .ok (.iconst 1, 1) := by decide +kernel
theorem dX11_bestAim_86 : decode cX11_bestAim 86 = .ok (.if_icmp .ge 13, 3) := by decide +kernel
theorem dX11_bestAim_89 : decode cX11_bestAim 89 = .ok (.iload_n 2, 1) := by decide +kernel
theorem dX11_bestAim_90 : decode cX11_bestAim 90 = .ok (.ifCond .ne 7, 3) := by decide +kernel
theorem dX11_bestAim_93 : decode cX11_bestAim 93 = .ok (.iconst (-1), 1) := by decide +kernel
theorem dX11_bestAim_94 : decode cX11_bestAim 94 = .ok (.goto 4, 3) := by decide +kernel
theorem dX11_bestAim_97 : decode cX11_bestAim 97 = .ok (.iconst 0, 1) := by decide +kernel
theorem dX11_bestAim_98 : decode cX11_bestAim 98 = .ok (.ireturn, 1) := by decide +kernel
theorem dX11_bestAim_99 : decode cX11_bestAim 99 = .ok (.iload_n 2, 1) := by decide +kernel
theorem dX11_bestAim_100 : decode cX11_bestAim 100 = .ok (.ifCond .ne 8, 3) := by decide +kernel
theorem dX11_bestAim_103 : decode cX11_bestAim 103 = .ok (.iload 6, 2) := by decide +kernel
theorem dX11_bestAim_105 : decode cX11_bestAim 105 = .ok (.goto 5, 3) := by decide +kernel
theorem dX11_bestAim_108 : decode cX11_bestAim 108 = .ok (.iload 5, 2) := by decide +kernel
theorem dX11_bestAim_110 : decode cX11_bestAim 110 = .ok (.ireturn, 1) := by decide +kernel
theorem dX11_skilled_0 : decode cX11_skilled 0 = .ok (.aload_n 0, 1) := by decide +kernel
theorem dX11_skilled_1 : decode cX11_skilled 1 = .ok (.getfield 43, 3) := by decide +kernel
theorem dX11_skilled_4 : decode cX11_skilled 4 = .ok (.getfield 111, 3) := by decide +kernel
theorem dX11_skilled_7 : decode cX11_skilled 7 = .ok (.iload_n 1, 1) := by decide +kernel
theorem dX11_skilled_8 : decode cX11_skilled 8 = .ok (.invokevirtual 139, 3) := by decide +kernel
theorem dX11_skilled_11 : decode cX11_skilled 11 = .ok (.ifCond .ne 5, 3) := by decide +kernel
theorem dX11_skilled_14 : decode cX11_skilled 14 = .ok (.iconst (-1), 1) := by decide +kernel
theorem dX11_skilled_15 : decode cX11_skilled 15 = .ok (.ireturn, 1) := by decide +kernel
theorem dX11_skilled_16 : decode cX11_skilled 16 = .ok (.aload_n 0, 1) := by decide +kernel
theorem dX11_skilled_17 : decode cX11_skilled 17 = .ok (.getfield 75, 3) := by decide +kernel
theorem dX11_skilled_20 : decode cX11_skilled 20 = .ok (.aload_n 0, 1) := by decide +kernel
theorem dX11_skilled_21 : decode cX11_skilled 21 = .ok (.getfield 61, 3) := by decide +kernel
theorem dX11_skilled_24 : decode cX11_skilled 24 = .ok (.aload_n 0, 1) := by decide +kernel
theorem dX11_skilled_25 : decode cX11_skilled 25 = .ok (.getfield 43, 3) := by decide +kernel
theorem dX11_skilled_28 : decode cX11_skilled 28 = .ok (.aload_n 0, 1) := by decide +kernel
theorem dX11_skilled_29 : decode cX11_skilled 29 = .ok (.invokevirtual 159, 3) := by decide +kernel
theorem dX11_skilled_32 : decode cX11_skilled 32 = .ok (.bipush 43, 2) := by decide +kernel
theorem dX11_skilled_34 : decode cX11_skilled 34 = .ok (.iload_n 1, 1) := by decide +kernel
theorem dX11_skilled_35 : decode cX11_skilled 35 = .ok (.iadd, 1) := by decide +kernel
theorem dX11_skilled_36 : decode cX11_skilled 36 = .ok (.iconst 1, 1) := by decide +kernel
theorem dX11_skilled_37 : decode cX11_skilled 37 = .ok (.bipush 9, 2) := by decide +kernel
theorem dX11_skilled_39 : decode cX11_skilled 39 = .ok (.invokevirtual 239, 3) := by decide +kernel
theorem dX11_skilled_42 : decode cX11_skilled 42 = .ok (.ireturn, 1) := by decide +kernel
theorem dX11_allEased_0 : decode cX11_allEased 0 = .ok (.aload_n 0, 1) := by decide +kernel
theorem dX11_allEased_1 : decode cX11_allEased 1 = .ok (.getfield 43, 3) := by decide +kernel
theorem dX11_allEased_4 : decode cX11_allEased 4 = .ok (.getfield 111, 3) := by decide +kernel
theorem dX11_allEased_7 : decode cX11_allEased 7 = .ok (.invokevirtual 152, 3) := by decide +kernel
theorem dX11_allEased_10 : decode cX11_allEased 10 = .ok (.ifCond .ne 5, 3) := by decide +kernel
theorem dX11_allEased_13 : decode cX11_allEased 13 = .ok (.iconst (-1), 1) := by decide +kernel
theorem dX11_allEased_14 : decode cX11_allEased 14 = .ok (.ireturn, 1) := by decide +kernel
theorem dX11_allEased_15 : decode cX11_allEased 15 = .ok (.aload_n 0, 1) := by decide +kernel
theorem dX11_allEased_16 : decode cX11_allEased 16 = .ok (.getfield 61, 3) := by decide +kernel
theorem dX11_allEased_19 : decode cX11_allEased 19 = .ok (.aload_n 0, 1) := by decide +kernel
theorem dX11_allEased_20 : decode cX11_allEased 20 = .ok (.getfield 43, 3) := by decide +kernel
theorem dX11_allEased_23 : decode cX11_allEased 23 = .ok (.getfield 111, 3) := by decide +kernel
theorem dX11_allEased_26 : decode cX11_allEased 26 = .ok (.aload_n 0, 1) := by decide +kernel
theorem dX11_allEased_27 : decode cX11_allEased 27 = .ok (.invokevirtual 159, 3) := by decide +kernel
theorem dX11_allEased_30 : decode cX11_allEased 30 = .ok (.invokevirtual 162, 3) := by decide +kernel
theorem dX11_allEased_33 : decode cX11_allEased 33 = .ok (.aload_n 0, 1) := by decide +kernel
theorem dX11_allEased_34 : decode cX11_allEased 34 = .ok (.getfield 68, 3) := by decide +kernel
theorem dX11_allEased_37 : decode cX11_allEased 37 = .ok (.aload_n 0, 1) := by decide +kernel
theorem dX11_allEased_38 : decode cX11_allEased 38 = .ok (.getfield 61, 3) := by decide +kernel
theorem dX11_allEased_41 : decode cX11_allEased 41 = .ok (.iconst 0, 1) := by decide +kernel
theorem dX11_allEased_42 : decode cX11_allEased 42 = .ok (.aload_n 0, 1) := by decide +kernel
theorem dX11_allEased_43 : decode cX11_allEased 43 = .ok (.getfield 43, 3) := by decide +kernel
theorem dX11_allEased_46 : decode cX11_allEased 46 = .ok (.getfield 111, 3) := by decide +kernel
theorem dX11_allEased_49 : decode cX11_allEased 49 = .ok (.getfield 124, 3) := by decide +kernel
theorem dX11_allEased_52 : decode cX11_allEased 52 = .ok (.iconst 4, 1) := by decide +kernel
theorem dX11_allEased_53 : decode cX11_allEased 53 = .ok (.iaload, 1) := by decide +kernel
theorem dX11_allEased_54 : decode cX11_allEased 54 = .ok (.iconst 1, 1) := by decide +kernel
theorem dX11_allEased_55 : decode cX11_allEased 55 = .ok (.isub, 1) := by decide +kernel
theorem dX11_allEased_56 : decode cX11_allEased 56 = .ok (.invokevirtual 190, 3) := by decide +kernel
theorem dX11_allEased_59 : decode cX11_allEased 59 = .ok (.ireturn, 1) := by decide +kernel
theorem dX1_hasArcher_0 : decode cX1_hasArcher 0 = .ok (.iload_n 1, 1) := by decide +kernel
theorem dX1_hasArcher_1 : decode cX1_hasArcher 1 = .ok (.iconst 0, 1) := by decide +kernel
theorem dX1_hasArcher_2 : decode cX1_hasArcher 2 = .ok (.aload_n 0, 1) := by decide +kernel
theorem dX1_hasArcher_3 : decode cX1_hasArcher 3 = .ok (.getfield 11, 3) := by decide +kernel
theorem dX1_hasArcher_6 : decode cX1_hasArcher 6 = .ok (.iconst 4, 1) := by decide +kernel
theorem dX1_hasArcher_7 : decode cX1_hasArcher 7 = .ok (.iaload, 1) := by decide +kernel
theorem dX1_hasArcher_8 : decode cX1_hasArcher 8 = .ok (.iconst 1, 1) := by decide +kernel
theorem dX1_hasArcher_9 : decode cX1_hasArcher 9 = .ok (.isub, 1) := by decide +kernel
theorem dX1_hasArcher_10 : decode cX1_hasArcher 10 = .ok (.invokestatic 27, 3) := by decide +kernel
theorem dX1_hasArcher_13 : decode cX1_hasArcher 13 = .ok (.ireturn, 1) := by decide +kernel
theorem dX11_leastSkill_0 : decode cX11_leastSkill 0 = .ok (.aload_n 0, 1) := by decide +kernel
theorem dX11_leastSkill_1 : decode cX11_leastSkill 1 = .ok (.getfield 43, 3) := by decide +kernel
theorem dX11_leastSkill_4 : decode cX11_leastSkill 4 = .ok (.getfield 111, 3) := by decide +kernel
theorem dX11_leastSkill_7 : decode cX11_leastSkill 7 = .ok (.iload_n 1, 1) := by decide +kernel
theorem dX11_leastSkill_8 : decode cX11_leastSkill 8 = .ok (.invokevirtual 139, 3) := by decide +kernel
theorem dX11_leastSkill_11 : decode cX11_leastSkill 11 = .ok (.ifCond .eq 13, 3) := by decide +kernel
theorem dX11_leastSkill_14 : decode cX11_leastSkill 14 = .ok (.iload_n 2, 1) := by decide +kernel
theorem dX11_leastSkill_15 : decode cX11_leastSkill 15 = .ok (.iconst 1, 1) := by decide +kernel
theorem dX11_leastSkill_16 : decode cX11_leastSkill 16 = .ok (.bipush 40, 2) := by decide +kernel
theorem dX11_leastSkill_18 : decode cX11_leastSkill 18 = .ok (.invokestatic 90, 3) := by decide +kernel
theorem dX11_leastSkill_21 : decode cX11_leastSkill 21 = .ok (.ifCond .ne 5, 3) := by decide +kernel
theorem dX11_leastSkill_24 : decode cX11_leastSkill 24 = .ok (.iconst (-1), 1) := by decide +kernel
theorem dX11_leastSkill_25 : decode cX11_leastSkill 25 = .ok (.ireturn, 1) := by decide +kernel
theorem dX11_leastSkill_26 : decode cX11_leastSkill 26 = .ok (.iconst 1, 1) := by decide +kernel
theorem dX11_leastSkill_27 : decode cX11_leastSkill 27 = .ok (.istore_n 3, 1) := by decide +kernel
theorem dX11_leastSkill_28 : decode cX11_leastSkill 28 = .ok (.iload_n 3, 1) := by decide +kernel
theorem dX11_leastSkill_29 : decode cX11_leastSkill 29 = .ok (.bipush 9, 2) := by decide +kernel
theorem dX11_leastSkill_31 : decode cX11_leastSkill 31 = .ok (.if_icmp .gt 71, 3) := by decide +kernel
theorem dX11_leastSkill_34 : decode cX11_leastSkill 34 = .ok (.aload_n 0, 1) := by decide +kernel
theorem dX11_leastSkill_35 : decode cX11_leastSkill 35 = .ok (.getfield 61, 3) := by decide +kernel
theorem dX11_leastSkill_38 : decode cX11_leastSkill 38 = .ok (.aload_n 0, 1) := by decide +kernel
theorem dX11_leastSkill_39 : decode cX11_leastSkill 39 = .ok (.getfield 43, 3) := by decide +kernel
theorem dX11_leastSkill_42 : decode cX11_leastSkill 42 = .ok (.getfield 111, 3) := by decide +kernel
theorem dX11_leastSkill_45 : decode cX11_leastSkill 45 = .ok (.aload_n 0, 1) := by decide +kernel
theorem dX11_leastSkill_46 : decode cX11_leastSkill 46 = .ok (.invokevirtual 159, 3) := by decide +kernel
theorem dX11_leastSkill_49 : decode cX11_leastSkill 49 = .ok (.invokevirtual 162, 3) := by decide +kernel
theorem dX11_leastSkill_52 : decode cX11_leastSkill 52 = .ok (.aload_n 0, 1) := by decide +kernel
theorem dX11_leastSkill_53 : decode cX11_leastSkill 53 = .ok (.getfield 61, 3) := by decide +kernel
theorem dX11_leastSkill_56 : decode cX11_leastSkill 56 = .ok (.getfield 170, 3) := by decide +kernel
theorem dX11_leastSkill_59 : decode cX11_leastSkill 59 = .ok (.getfield 124, 3) := by decide +kernel
theorem dX11_leastSkill_62 : decode cX11_leastSkill 62 = .ok (.bipush 43, 2) := by decide +kernel
theorem dX11_leastSkill_64 : decode cX11_leastSkill 64 = .ok (.iload_n 1, 1) := by decide +kernel
theorem dX11_leastSkill_65 : decode cX11_leastSkill 65 = .ok (.iadd, 1) := by decide +kernel
theorem dX11_leastSkill_66 : decode cX11_leastSkill 66 = .ok (.iload_n 3, 1) := by decide +kernel
theorem dX11_leastSkill_67 : decode cX11_leastSkill 67 = .ok (.iastore, 1) := by decide +kernel
theorem dX11_leastSkill_68 : decode cX11_leastSkill 68 = .ok (.aload_n 0, 1) := by decide +kernel
theorem dX11_leastSkill_69 : decode cX11_leastSkill 69 = .ok (.getfield 61, 3) := by decide +kernel
theorem dX11_leastSkill_72 : decode cX11_leastSkill 72 = .ok (.iload_n 2, 1) := by decide +kernel
theorem dX11_leastSkill_73 : decode cX11_leastSkill 73 = .ok (.invokevirtual 187, 3) := by decide +kernel
theorem dX11_leastSkill_76 : decode cX11_leastSkill 76 = .ok (.aload_n 0, 1) := by decide +kernel
theorem dX11_leastSkill_77 : decode cX11_leastSkill 77 = .ok (.getfield 61, 3) := by decide +kernel
theorem dX11_leastSkill_80 : decode cX11_leastSkill 80 = .ok (.getfield 170, 3) := by decide +kernel
theorem dX11_leastSkill_83 : decode cX11_leastSkill 83 = .ok (.getfield 124, 3) := by decide +kernel
theorem dX11_leastSkill_86 : decode cX11_leastSkill 86 = .ok (.bipush 53, 2) := by decide +kernel
theorem dX11_leastSkill_88 : decode cX11_leastSkill 88 = .ok (.iload_n 1, 1) := by decide +kernel
theorem dX11_leastSkill_89 : decode cX11_leastSkill 89 = .ok (.iadd, 1) := by decide +kernel
theorem dX11_leastSkill_90 : decode cX11_leastSkill 90 = .ok (.iaload, 1) := by decide +kernel
theorem dX11_leastSkill_91 : decode cX11_leastSkill 91 = .ok (.ifCond .ne 5, 3) := by decide +kernel
theorem dX11_leastSkill_94 : decode cX11_leastSkill 94 = .ok (.iload_n 3, 1) := by decide +kernel
theorem dX11_leastSkill_95 : decode cX11_leastSkill 95 = .ok (.ireturn, 1) := by decide +kernel
theorem dX11_leastSkill_96 : decode cX11_leastSkill 96 = .ok (.iinc 3 1, 3) := by decide +kernel
theorem dX11_leastSkill_99 : decode cX11_leastSkill 99 = .ok (.goto (-71), 3) := by decide +kernel
theorem dX11_leastSkill_102 : decode cX11_leastSkill 102 = .ok (.bipush (-2), 2) := by decide +kernel
theorem dX11_leastSkill_104 : decode cX11_leastSkill 104 = .ok (.ireturn, 1) := by decide +kernel
theorem dX1_sumOfArchers_0 : decode cX1_sumOfArchers 0 = .ok (.iconst 0, 1) := by decide +kernel
theorem dX1_sumOfArchers_1 : decode cX1_sumOfArchers 1 = .ok (.istore_n 2, 1) := by decide +kernel
theorem dX1_sumOfArchers_2 : decode cX1_sumOfArchers 2 = .ok (.iconst 0, 1) := by decide +kernel
theorem dX1_sumOfArchers_3 : decode cX1_sumOfArchers 3 = .ok (.istore_n 3, 1) := by decide +kernel
theorem dX1_sumOfArchers_4 : decode cX1_sumOfArchers 4 = .ok (.iload_n 3, 1) := by decide +kernel
theorem dX1_sumOfArchers_5 : decode cX1_sumOfArchers 5 = .ok (.aload_n 0, 1) := by decide +kernel
theorem dX1_sumOfArchers_6 : decode cX1_sumOfArchers 6 = .ok (.getfield 11, 3) := by decide +kernel
theorem dX1_sumOfArchers_9 : decode cX1_sumOfArchers 9 = .ok (.iconst 4, 1) := by decide +kernel
theorem dX1_sumOfArchers_10 : decode cX1_sumOfArchers 10 = .ok (.iaload, 1) := by decide +kernel
theorem dX1_sumOfArchers_11 : decode cX1_sumOfArchers 11 = .ok (.if_icmp .ge 20, 3) := by decide +kernel
theorem dX1_sumOfArchers_14 : decode cX1_sumOfArchers 14 = .ok (.iload_n 2, 1) := by decide +kernel
theorem dX1_sumOfArchers_15 : decode cX1_sumOfArchers 15 = .ok (.aload_n 0, 1) := by decide +kernel
theorem dX1_sumOfArchers_16 : decode cX1_sumOfArchers 16 = .ok (.getfield 11, 3) := by decide +kernel
theorem dX1_sumOfArchers_19 : decode cX1_sumOfArchers 19 = .ok (.iload_n 1, 1) := by decide +kernel
theorem dX1_sumOfArchers_20 : decode cX1_sumOfArchers 20 = .ok (.iload_n 3, 1) := by decide +kernel
theorem dX1_sumOfArchers_21 : decode cX1_sumOfArchers 21 = .ok (.iadd, 1) := by decide +kernel
theorem dX1_sumOfArchers_22 : decode cX1_sumOfArchers 22 = .ok (.iaload, 1) := by decide +kernel
theorem dX1_sumOfArchers_23 : decode cX1_sumOfArchers 23 = .ok (.iadd, 1) := by decide +kernel
theorem dX1_sumOfArchers_24 : decode cX1_sumOfArchers 24 = .ok (.istore_n 2, 1) := by decide +kernel
theorem dX1_sumOfArchers_25 : decode cX1_sumOfArchers 25 = .ok (.iinc 3 1, 3) := by decide +kernel
theorem dX1_sumOfArchers_28 : decode cX1_sumOfArchers 28 = .ok (.goto (-24), 3) := by decide +kernel
theorem dX1_sumOfArchers_31 : decode cX1_sumOfArchers 31 = .ok (.iload_n 2, 1) := by decide +kernel
theorem dX1_sumOfArchers_32 : decode cX1_sumOfArchers 32 = .ok (.ireturn, 1) := by decide +kernel
