theorem dX12_layDown_4 : decode cX12_layDown 4 = .ok (.ifCond .le 72, 3) := by decide +kernel
theorem dX12_layDown_7 : decode cX12_layDown 7 = .ok (.aload_n 0, 1) := by decide +kernel
theorem dX12_layDown_8 : decode cX12_layDown 8 = .ok (.getfield 29, 3) := by decide +kernel
theorem dX12_layDown_11 : decode cX12_layDown 11 = .ok (.aload_n 0, 1) := by decide +kernel
theorem dX12_layDown_12 : decode cX12_layDown 12 = .ok (.getfield 166, 3) := by decide +kernel
theorem dX12_layDown_15 : decode cX12_layDown 15 = .ok (.iconst 1, 1) := by decide +kernel
theorem dX12_layDown_16 : decode cX12_layDown 16 = .ok (.isub, 1) := by decide +kernel
theorem dX12_layDown_17 : decode cX12_layDown 17 = .ok (.iaload, 1) := by decide +kernel
theorem dX12_layDown_18 : decode cX12_layDown 18 = .ok (.invokestatic 169, 3) := by decide +kernel
theorem dX12_layDown_21 : decode cX12_layDown 21 = .ok (.iload_n 1, 1) := by decide +kernel
theorem dX12_layDown_22 : decode cX12_layDown 22 = .ok (.if_icmp .lt 54, 3) := by decide +kernel
theorem dX12_layDown_25 : decode cX12_layDown 25 = .ok (.aload_n 0, 1) := by decide +kernel
theorem dX12_layDown_26 : decode cX12_layDown 26 = .ok (.dup, 1) := by decide +kernel
theorem dX12_layDown_27 : decode cX12_layDown 27 = .ok (.getfield 166, 3) := by decide +kernel
theorem dX12_layDown_30 : decode cX12_layDown 30 = .ok (.iconst 1, 1) := by decide +kernel
theorem dX12_layDown_31 : decode cX12_layDown 31 = .ok (.isub, 1) := by decide +kernel
theorem dX12_layDown_32 : decode cX12_layDown 32 = .ok (.putfield 166, 3) := by decide +kernel
theorem dX12_layDown_35 : decode cX12_layDown 35 = .ok (.aload_n 0, 1) := by decide +kernel
theorem dX12_layDown_36 : decode cX12_layDown 36 = .ok (.aload_n 0, 1) := by decide +kernel
theorem dX12_layDown_37 : decode cX12_layDown 37 = .ok (.getfield 29, 3) := by decide +kernel
theorem dX12_layDown_40 : decode cX12_layDown 40 = .ok (.aload_n 0, 1) := by decide +kernel
theorem dX12_layDown_41 : decode cX12_layDown 41 = .ok (.getfield 166, 3) := by decide +kernel
theorem dX12_layDown_44 : decode cX12_layDown 44 = .ok (.iaload, 1) := by decide +kernel
theorem dX12_layDown_45 : decode cX12_layDown 45 = .ok (.iconst 0, 1) := by decide +kernel
theorem dX12_layDown_46 : decode cX12_layDown 46 = .ok (.invokevirtual 173, 3) := by decide +kernel
theorem dX12_layDown_49 : decode cX12_layDown 49 = .ok (.aload_n 0, 1) := by decide +kernel
theorem dX12_layDown_50 : decode cX12_layDown 50 = .ok (.getfield 29, 3) := by decide +kernel
theorem dX12_layDown_53 : decode cX12_layDown 53 = .ok (.aload_n 0, 1) := by decide +kernel
theorem dX12_layDown_54 : decode cX12_layDown 54 = .ok (.getfield 166, 3) := by decide +kernel
theorem dX12_layDown_57 : decode cX12_layDown 57 = .ok (.iaload, 1) := by decide +kernel
theorem dX12_layDown_58 : decode cX12_layDown 58 = .ok (.bipush 11, 2) := by decide +kernel
theorem dX12_layDown_60 : decode cX12_layDown 60 = .ok (.if_icmp .ne (-60), 3) := by decide +kernel
theorem dX12_layDown_63 : decode cX12_layDown 63 = .ok (.aload_n 0, 1) := by decide +kernel
theorem dX12_layDown_64 : decode cX12_layDown 64 = .ok (.dup, 1) := by decide +kernel
theorem dX12_layDown_65 : decode cX12_layDown 65 = .ok (.getfield 163, 3) := by decide +kernel
theorem dX12_layDown_68 : decode cX12_layDown 68 = .ok (.iconst 1, 1) := by decide +kernel
theorem dX12_layDown_69 : decode cX12_layDown 69 = .ok (.isub, 1) := by decide +kernel
theorem dX12_layDown_70 : decode cX12_layDown 70 = .ok (.putfield 163, 3) := by decide +kernel
theorem dX12_layDown_73 : decode cX12_layDown 73 = .ok (.goto (-73), 3) := by decide +kernel
theorem dX12_layDown_76 : decode cX12_layDown 76 = .ok (.return_, 1) := by decide +kernel
theorem dX12_nextRow_0 : decode cX12_nextRow 0 = .ok (.iload_n 1, 1) := by decide +kernel
theorem dX12_nextRow_1 : decode cX12_nextRow 1 = .ok (.iconst 1, 1) := by decide +kernel
theorem dX12_nextRow_2 : decode cX12_nextRow 2 = .ok (.isub, 1) := by decide +kernel
theorem dX12_nextRow_3 : decode cX12_nextRow 3 = .ok (.istore_n 2, 1) := by decide +kernel
theorem dX12_nextRow_4 : decode cX12_nextRow 4 = .ok (.iload_n 2, 1) := by decide +kernel
theorem dX12_nextRow_5 : decode cX12_nextRow 5 = .ok (.ifCond .lt 33, 3) := by decide +kernel
theorem dX12_nextRow_8 : decode cX12_nextRow 8 = .ok (.aload_n 0, 1) := by decide +kernel
theorem dX12_nextRow_9 : decode cX12_nextRow 9 = .ok (.getfield 61, 3) := by decide +kernel
theorem dX12_nextRow_12 : decode cX12_nextRow 12 = .ok (.iload_n 2, 1) := by decide +kernel
theorem dX12_nextRow_13 : decode cX12_nextRow 13 = .ok (.iaload, 1) := by decide +kernel
theorem dX12_nextRow_14 : decode cX12_nextRow 14 = .ok (.aload_n 0, 1) := by decide +kernel
theorem dX12_nextRow_15 : decode cX12_nextRow 15 = .ok (.getfield 39, 3) := by decide +kernel
theorem dX12_nextRow_18 : decode cX12_nextRow 18 = .ok (.iconst 4, 1) := by decide +kernel
theorem dX12_nextRow_19 : decode cX12_nextRow 19 = .ok (.iaload, 1) := by decide +kernel
theorem dX12_nextRow_20 : decode cX12_nextRow 20 = .ok (.iconst 1, 1) := by decide +kernel
theorem dX12_nextRow_21 : decode cX12_nextRow 21 = .ok (.isub, 1) := by decide +kernel
theorem dX12_nextRow_22 : decode cX12_nextRow 22 = .ok (.if_icmp .ne 16, 3) := by decide +kernel
theorem dX12_nextRow_25 : decode cX12_nextRow 25 = .ok (.aload_n 0, 1) := by decide +kernel
theorem dX12_nextRow_26 : decode cX12_nextRow 26 = .ok (.getfield 61, 3) := by decide +kernel
theorem dX12_nextRow_29 : decode cX12_nextRow 29 = .ok (.iload_n 2, 1) := by decide +kernel
theorem dX12_nextRow_30 : decode cX12_nextRow 30 = .ok (.iconst (-1), 1) := by decide +kernel
theorem dX12_nextRow_31 : decode cX12_nextRow 31 = .ok (.iastore, 1) := by decide +kernel
theorem dX12_nextRow_32 : decode cX12_nextRow 32 = .ok (.iinc 2 (-1), 3) := by decide +kernel
theorem dX12_nextRow_35 : decode cX12_nextRow 35 = .ok (.goto (-31), 3) := by decide +kernel
theorem dX12_nextRow_38 : decode cX12_nextRow 38 = .ok (.iload_n 2, 1) := by decide +kernel
theorem dX12_nextRow_39 : decode cX12_nextRow 39 = .ok (.ifCond .ge 5, 3) := by decide +kernel
theorem dX12_nextRow_42 : decode cX12_nextRow 42 = .ok (.iconst 0, 1) := by decide +kernel
theorem dX12_nextRow_43 : decode cX12_nextRow 43 = .ok (.ireturn, 1) := by decide +kernel
theorem dX12_nextRow_44 : decode cX12_nextRow 44 = .ok (.aload_n 0, 1) := by decide +kernel
theorem dX12_nextRow_45 : decode cX12_nextRow 45 = .ok (.getfield 61, 3) := by decide +kernel
theorem dX12_nextRow_48 : decode cX12_nextRow 48 = .ok (.iload_n 2, 1) := by decide +kernel
theorem dX12_nextRow_49 : decode cX12_nextRow 49 = .ok (.dup2, 1) := by decide +kernel
theorem dX12_nextRow_50 : decode cX12_nextRow 50 = .ok (.iaload, 1) := by decide +kernel
theorem dX12_nextRow_51 : decode cX12_nextRow 51 = .ok (.iconst 1, 1) := by decide +kernel
theorem dX12_nextRow_52 : decode cX12_nextRow 52 = .ok (.iadd, 1) := by decide +kernel
theorem dX12_nextRow_53 : decode cX12_nextRow 53 = .ok (.iastore, 1) := by decide +kernel
theorem dX12_nextRow_54 : decode cX12_nextRow 54 = .ok (.iconst 1, 1) := by decide +kernel
theorem dX12_nextRow_55 : decode cX12_nextRow 55 = .ok (.ireturn, 1) := by decide +kernel
theorem dX12_reckons_0 : decode cX12_reckons 0 = .ok (.aload_n 0, 1) := by decide +kernel
theorem dX12_reckons_1 : decode cX12_reckons 1 = .ok (.iconst 0, 1) := by decide +kernel
theorem dX12_reckons_2 : decode cX12_reckons 2 = .ok (.putfield 279, 3) := by decide +kernel
theorem dX12_reckons_5 : decode cX12_reckons 5 = .ok (.iload_n 2, 1) := by decide +kernel
theorem dX12_reckons_6 : decode cX12_reckons 6 = .ok (.istore 4, 2) := by decide +kernel
theorem dX12_reckons_8 : decode cX12_reckons 8 = .ok (.iload 4, 2) := by decide +kernel
theorem dX12_reckons_10 : decode cX12_reckons 10 = .ok (.iload_n 3, 1) := by decide +kernel
theorem dX12_reckons_11 : decode cX12_reckons 11 = .ok (.if_icmp .ge 124, 3) := by decide +kernel
theorem dX12_reckons_14 : decode cX12_reckons 14 = .ok (.aload_n 0, 1) := by decide +kernel
theorem dX12_reckons_15 : decode cX12_reckons 15 = .ok (.getfield 13, 3) := by decide +kernel
theorem dX12_reckons_18 : decode cX12_reckons 18 = .ok (.sipush 400, 3) := by decide +kernel
theorem dX12_reckons_21 : decode cX12_reckons 21 = .ok (.iload_n 1, 1) := by decide +kernel
theorem dX12_reckons_22 : decode cX12_reckons 22 = .ok (.imul, 1) := by decide +kernel
theorem dX12_reckons_23 : decode cX12_reckons 23 = .ok (.iload 4, 2) := by decide +kernel
theorem dX12_reckons_25 : decode cX12_reckons 25 = .ok (.iadd, 1) := by decide +kernel
theorem dX12_reckons_26 : decode cX12_reckons 26 = .ok (.iaload, 1) := by decide +kernel
theorem dX12_reckons_27 : decode cX12_reckons 27 = .ok (.bipush 15, 2) := by decide +kernel
theorem dX12_reckons_29 : decode cX12_reckons 29 = .ok (.iand, 1) := by decide +kernel
theorem dX12_reckons_30 : decode cX12_reckons 30 = .ok (.istore 5, 2) := by decide +kernel
theorem dX12_reckons_32 : decode cX12_reckons 32 = .ok (.aload_n 0, 1) := by decide +kernel
theorem dX12_reckons_33 : decode cX12_reckons 33 = .ok (.getfield 13, 3) := by decide +kernel
theorem dX12_reckons_36 : decode cX12_reckons 36 = .ok (.sipush 400, 3) := by decide +kernel
theorem dX12_reckons_39 : decode cX12_reckons 39 = .ok (.iload_n 1, 1) := by decide +kernel
theorem dX12_reckons_40 : decode cX12_reckons 40 = .ok (.imul, 1) := by decide +kernel
theorem dX12_reckons_41 : decode cX12_reckons 41 = .ok (.iload 4, 2) := by decide +kernel
theorem dX12_reckons_43 : decode cX12_reckons 43 = .ok (.iadd, 1) := by decide +kernel
theorem dX12_reckons_44 : decode cX12_reckons 44 = .ok (.iaload, 1) := by decide +kernel
theorem dX12_reckons_45 : decode cX12_reckons 45 = .ok (.iconst 4, 1) := by decide +kernel
theorem dX12_reckons_46 : decode cX12_reckons 46 = .ok (.ishr, 1) := by decide +kernel
theorem dX12_reckons_47 : decode cX12_reckons 47 = .ok (.istore 6, 2) := by decide +kernel
theorem dX12_reckons_49 : decode cX12_reckons 49 = .ok (.iload 5, 2) := by decide +kernel
theorem dX12_reckons_51 : decode cX12_reckons 51 = .ok (.ifCond .ne 13, 3) := by decide +kernel
theorem dX12_reckons_54 : decode cX12_reckons 54 = .ok (.aload_n 0, 1) := by decide +kernel
theorem dX12_reckons_55 : decode cX12_reckons 55 = .ok (.iload 6, 2) := by decide +kernel
theorem dX12_reckons_57 : decode cX12_reckons 57 = .ok (.i2l, 1) := by decide +kernel
theorem dX12_reckons_58 : decode cX12_reckons 58 = .ok (.invokevirtual 282, 3) := by decide +kernel
theorem dX12_reckons_61 : decode cX12_reckons 61 = .ok (.goto 68, 3) := by decide +kernel
theorem dX12_reckons_64 : decode cX12_reckons 64 = .ok (.iload 5, 2) := by decide +kernel
theorem dX12_reckons_66 : decode cX12_reckons 66 = .ok (.iconst 1, 1) := by decide +kernel
theorem dX12_reckons_67 : decode cX12_reckons 67 = .ok (.if_icmp .ne 17, 3) := by decide +kernel
theorem dX12_reckons_70 : decode cX12_reckons 70 = .ok (.aload_n 0, 1) := by decide +kernel
theorem dX12_reckons_71 : decode cX12_reckons 71 = .ok (.aload_n 0, 1) := by decide +kernel
theorem dX12_reckons_72 : decode cX12_reckons 72 = .ok (.getfield 36, 3) := by decide +kernel
theorem dX12_reckons_75 : decode cX12_reckons 75 = .ok (.iload 6, 2) := by decide +kernel
theorem dX12_reckons_77 : decode cX12_reckons 77 = .ok (.laload, 1) := by decide +kernel
theorem dX12_reckons_78 : decode cX12_reckons 78 = .ok (.invokevirtual 282, 3) := by decide +kernel
theorem dX12_reckons_81 : decode cX12_reckons 81 = .ok (.goto 48, 3) := by decide +kernel
theorem dX12_reckons_84 : decode cX12_reckons 84 = .ok (.iload 5, 2) := by decide +kernel
theorem dX12_reckons_86 : decode cX12_reckons 86 = .ok (.bipush 11, 2) := by decide +kernel
theorem dX12_reckons_88 : decode cX12_reckons 88 = .ok (.if_icmp .ne 16, 3) := by decide +kernel
theorem dX12_reckons_91 : decode cX12_reckons 91 = .ok (.aload_n 0, 1) := by decide +kernel
theorem dX12_reckons_92 : decode cX12_reckons 92 = .ok (.lconst 1, 1) := by decide +kernel
theorem dX12_reckons_93 : decode cX12_reckons 93 = .ok (.aload_n 0, 1) := by decide +kernel
theorem dX12_reckons_94 : decode cX12_reckons 94 = .ok (.invokevirtual 286, 3) := by decide +kernel
theorem dX12_reckons_97 : decode cX12_reckons 97 = .ok (.lsub, 1) := by decide +kernel
theorem dX12_reckons_98 : decode cX12_reckons 98 = .ok (.invokevirtual 282, 3) := by decide +kernel
theorem dX12_reckons_101 : decode cX12_reckons 101 = .ok (.goto 28, 3) := by decide +kernel
theorem dX12_reckons_104 : decode cX12_reckons 104 = .ok (.aload_n 0, 1) := by decide +kernel
theorem dX12_reckons_105 : decode cX12_reckons 105 = .ok (.invokevirtual 286, 3) := by decide +kernel
theorem dX12_reckons_108 : decode cX12_reckons 108 = .ok (.lstore 7, 2) := by decide +kernel
theorem dX12_reckons_110 : decode cX12_reckons 110 = .ok (.aload_n 0, 1) := by decide +kernel
theorem dX12_reckons_111 : decode cX12_reckons 111 = .ok (.invokevirtual 286, 3) := by decide +kernel
theorem dX12_reckons_114 : decode cX12_reckons 114 = .ok (.lstore 9, 2) := by decide +kernel
theorem dX12_reckons_116 : decode cX12_reckons 116 = .ok (.aload_n 0, 1) := by decide +kernel
theorem dX12_reckons_117 : decode cX12_reckons 117 = .ok (.iload 5, 2) := by decide +kernel
theorem dX12_reckons_119 : decode cX12_reckons 119 = .ok (.lload 9, 2) := by decide +kernel
theorem dX12_reckons_121 : decode cX12_reckons 121 = .ok (.lload 7, 2) := by decide +kernel
theorem dX12_reckons_123 : decode cX12_reckons 123 = .ok (.invokestatic 290, 3) := by decide +kernel
theorem dX12_reckons_126 : decode cX12_reckons 126 = .ok (.invokevirtual 282, 3) := by decide +kernel
theorem dX12_reckons_129 : decode cX12_reckons 129 = .ok (.iinc 4 1, 3) := by decide +kernel
theorem dX12_reckons_132 : decode cX12_reckons 132 = .ok (.goto (-124), 3) := by decide +kernel
theorem dX12_reckons_135 : decode cX12_reckons 135 = .ok (.aload_n 0, 1) := by decide +kernel
theorem dX12_reckons_136 : decode cX12_reckons 136 = .ok (.invokevirtual 286, 3) := by decide +kernel
theorem dX12_reckons_139 : decode cX12_reckons 139 = .ok (.lreturn, 1) := by decide +kernel
theorem dX12_skillOf_0 : decode cX12_skillOf 0 = .ok (.aload_n 0, 1) := by decide +kernel
theorem dX12_skillOf_1 : decode cX12_skillOf 1 = .ok (.getfield 39, 3) := by decide +kernel
theorem dX12_skillOf_4 : decode cX12_skillOf 4 = .ok (.bipush 25, 2) := by decide +kernel
theorem dX12_skillOf_6 : decode cX12_skillOf 6 = .ok (.iconst 3, 1) := by decide +kernel
theorem dX12_skillOf_7 : decode cX12_skillOf 7 = .ok (.iload_n 1, 1) := by decide +kernel
theorem dX12_skillOf_8 : decode cX12_skillOf 8 = .ok (.imul, 1) := by decide +kernel
theorem dX12_skillOf_9 : decode cX12_skillOf 9 = .ok (.iadd, 1) := by decide +kernel
theorem dX12_skillOf_10 : decode cX12_skillOf 10 = .ok (.iaload, 1) := by decide +kernel
theorem dX12_skillOf_11 : decode cX12_skillOf 11 = .ok (.ireturn, 1) := by decide +kernel
theorem dX12_skilled_0 : decode cX12_skilled 0 = .ok (.aload_n 0, 1) := by decide +kernel
theorem dX12_skilled_1 : decode cX12_skilled 1 = .ok (.iload_n 1, 1) := by decide +kernel
theorem dX12_skilled_2 : decode cX12_skilled 2 = .ok (.invokevirtual 314, 3) := by decide +kernel
theorem dX12_skilled_5 : decode cX12_skilled 5 = .ok (.ifCond .eq 19, 3) := by decide +kernel
theorem dX12_skilled_8 : decode cX12_skilled 8 = .ok (.aload_n 0, 1) := by decide +kernel
theorem dX12_skilled_9 : decode cX12_skilled 9 = .ok (.bipush 74, 2) := by decide +kernel
theorem dX12_skilled_11 : decode cX12_skilled 11 = .ok (.iconst 2, 1) := by decide +kernel
theorem dX12_skilled_12 : decode cX12_skilled 12 = .ok (.iload_n 1, 1) := by decide +kernel
theorem dX12_skilled_13 : decode cX12_skilled 13 = .ok (.imul, 1) := by decide +kernel
theorem dX12_skilled_14 : decode cX12_skilled 14 = .ok (.iadd, 1) := by decide +kernel
theorem dX12_skilled_15 : decode cX12_skilled 15 = .ok (.iconst 1, 1) := by decide +kernel
theorem dX12_skilled_16 : decode cX12_skilled 16 = .ok (.bipush 9, 2) := by decide +kernel
theorem dX12_skilled_18 : decode cX12_skilled 18 = .ok (.invokevirtual 438, 3) := by decide +kernel
theorem dX12_skilled_21 : decode cX12_skilled 21 = .ok (.goto 4, 3) := by decide +kernel
theorem dX12_skilled_24 : decode cX12_skilled 24 = .ok (.iconst (-1), 1) := by decide +kernel
theorem dX12_skilled_25 : decode cX12_skilled 25 = .ok (.ireturn, 1) := by decide +kernel
theorem dX12_sumOver_0 : decode cX12_sumOver 0 = .ok (.iconst 0, 1) := by decide +kernel
theorem dX12_sumOver_1 : decode cX12_sumOver 1 = .ok (.istore_n 2, 1) := by decide +kernel
theorem dX12_sumOver_2 : decode cX12_sumOver 2 = .ok (.iconst 0, 1) := by decide +kernel
theorem dX12_sumOver_3 : decode cX12_sumOver 3 = .ok (.istore_n 3, 1) := by decide +kernel
theorem dX12_sumOver_4 : decode cX12_sumOver 4 = .ok (.iload_n 3, 1) := by decide +kernel
theorem dX12_sumOver_5 : decode cX12_sumOver 5 = .ok (.aload_n 0, 1) := by decide +kernel
theorem dX12_sumOver_6 : decode cX12_sumOver 6 = .ok (.getfield 39, 3) := by decide +kernel
theorem dX12_sumOver_9 : decode cX12_sumOver 9 = .ok (.iconst 5, 1) := by decide +kernel
theorem dX12_sumOver_10 : decode cX12_sumOver 10 = .ok (.iaload, 1) := by decide +kernel
theorem dX12_sumOver_11 : decode cX12_sumOver 11 = .ok (.if_icmp .ge 25, 3) := by decide +kernel
theorem dX12_sumOver_14 : decode cX12_sumOver 14 = .ok (.iload_n 2, 1) := by decide +kernel
theorem dX12_sumOver_15 : decode cX12_sumOver 15 = .ok (.aload_n 0, 1) := by decide +kernel
theorem dX12_sumOver_16 : decode cX12_sumOver 16 = .ok (.getfield 39, 3) := by decide +kernel
theorem dX12_sumOver_19 : decode cX12_sumOver 19 = .ok (.bipush 25, 2) := by decide +kernel
theorem dX12_sumOver_21 : decode cX12_sumOver 21 = .ok (.iconst 3, 1) := by decide +kernel
theorem dX12_sumOver_22 : decode cX12_sumOver 22 = .ok (.iload_n 3, 1) := by decide +kernel
theorem dX12_sumOver_23 : decode cX12_sumOver 23 = .ok (.imul, 1) := by decide +kernel
theorem dX12_sumOver_24 : decode cX12_sumOver 24 = .ok (.iadd, 1) := by decide +kernel
theorem dX12_sumOver_25 : decode cX12_sumOver 25 = .ok (.iload_n 1, 1) := by decide +kernel
theorem dX12_sumOver_26 : decode cX12_sumOver 26 = .ok (.iadd, 1) := by decide +kernel
theorem dX12_sumOver_27 : decode cX12_sumOver 27 = .ok (.iaload, 1) := by decide +kernel
theorem dX12_sumOver_28 : decode cX12_sumOver 28 = .ok (.iadd, 1) := by decide +kernel
theorem dX12_sumOver_29 : decode cX12_sumOver 29 = .ok (.istore_n 2, 1) := by decide +kernel
theorem dX12_sumOver_30 : decode cX12_sumOver 30 = .ok (.iinc 3 1, 3) := by decide +kernel
theorem dX12_sumOver_33 : decode cX12_sumOver 33 = .ok (.goto (-29), 3) := by decide +kernel
theorem dX12_sumOver_36 : decode cX12_sumOver 36 = .ok (.iload_n 2, 1) := by decide +kernel
theorem dX12_sumOver_37 : decode cX12_sumOver 37 = .ok (.ireturn, 1) := by decide +kernel
theorem dX12_windNow_0 : decode cX12_windNow 0 = .ok (.aload_n 0, 1) := by decide +kernel
theorem dX12_windNow_1 : decode cX12_windNow 1 = .ok (.getfield 46, 3) := by decide +kernel
theorem dX12_windNow_4 : decode cX12_windNow 4 = .ok (.ifCond .lt 10, 3) := by decide +kernel
theorem dX12_windNow_7 : decode cX12_windNow 7 = .ok (.aload_n 0, 1) := by decide +kernel
theorem dX12_windNow_8 : decode cX12_windNow 8 = .ok (.getfield 46, 3) := by decide +kernel
theorem dX12_windNow_11 : decode cX12_windNow 11 = .ok (.goto 14, 3) := by decide +kernel
theorem dX12_windNow_14 : decode cX12_windNow 14 = .ok (.aload_n 0, 1) := by decide +kernel
theorem dX12_windNow_15 : decode cX12_windNow 15 = .ok (.aload_n 0, 1) := by decide +kernel
theorem dX12_windNow_16 : decode cX12_windNow 16 = .ok (.getfield 39, 3) := by decide +kernel
theorem dX12_windNow_19 : decode cX12_windNow 19 = .ok (.bipush 11, 2) := by decide +kernel
theorem dX12_windNow_21 : decode cX12_windNow 21 = .ok (.iaload, 1) := by decide +kernel
theorem dX12_windNow_22 : decode cX12_windNow 22 = .ok (.invokevirtual 297, 3) := by decide +kernel
theorem dX12_windNow_25 : decode cX12_windNow 25 = .ok (.ireturn, 1) := by decide +kernel
theorem dX1_copyFrom_0 : decode cX1_copyFrom 0 = .ok (.aload_n 1, 1) := by decide +kernel
theorem dX1_copyFrom_1 : decode cX1_copyFrom 1 = .ok (.getfield 11, 3) := by decide +kernel
theorem dX1_copyFrom_4 : decode cX1_copyFrom 4 = .ok (.iconst 0, 1) := by decide +kernel
theorem dX1_copyFrom_5 : decode cX1_copyFrom 5 = .ok (.aload_n 0, 1) := by decide +kernel
theorem dX1_copyFrom_6 : decode cX1_copyFrom 6 = .ok (.getfield 11, 3) := by decide +kernel
theorem dX1_copyFrom_9 : decode cX1_copyFrom 9 = .ok (.iconst 0, 1) := by decide +kernel
theorem dX1_copyFrom_10 : decode cX1_copyFrom 10 = .ok (.bipush 63, 2) := by decide +kernel
theorem dX1_copyFrom_12 : decode cX1_copyFrom 12 = .ok (.invokestatic 15, 3) := by decide +kernel
theorem dX1_copyFrom_15 : decode cX1_copyFrom 15 = .ok (.return_, 1) := by decide +kernel
theorem dX2_findHeir_0 : decode cX2_findHeir 0 = .ok (.bipush 99, 2) := by decide +kernel
theorem dX2_findHeir_2 : decode cX2_findHeir 2 = .ok (.aload_n 2, 1) := by decide +kernel
theorem dX2_findHeir_3 : decode cX2_findHeir 3 = .ok (.bipush 58, 2) := by decide +kernel
theorem dX2_findHeir_5 : decode cX2_findHeir 5 = .ok (.invokevirtual 80, 3) := by decide +kernel
theorem dX2_findHeir_8 : decode cX2_findHeir 8 = .ok (.invokestatic 51, 3) := by decide +kernel
theorem dX2_findHeir_11 : decode cX2_findHeir 11 = .ok (.istore 5, 2) := by decide +kernel
theorem dX2_findHeir_13 : decode cX2_findHeir 13 = .ok (.aload_n 0, 1) := by decide +kernel
theorem dX2_findHeir_14 : decode cX2_findHeir 14 = .ok (.iconst (-1), 1) := by decide +kernel
theorem dX2_findHeir_15 : decode cX2_findHeir 15 = .ok (.putfield 9, 3) := by decide +kernel
theorem dX2_findHeir_18 : decode cX2_findHeir 18 = .ok (.aload_n 1, 1) := by decide +kernel
theorem dX2_findHeir_19 : decode cX2_findHeir 19 = .ok (.aload_n 2, 1) := by decide +kernel
theorem dX2_findHeir_20 : decode cX2_findHeir 20 = .ok (.aload_n 3, 1) := by decide +kernel
theorem dX2_findHeir_21 : decode cX2_findHeir 21 = .ok (.invokevirtual 60, 3) := by decide +kernel
theorem dX2_findHeir_24 : decode cX2_findHeir 24 = .ok (.aload_n 1, 1) := by decide +kernel
theorem dX2_findHeir_25 : decode cX2_findHeir 25 = .ok (.iload 4, 2) := by decide +kernel
theorem dX2_findHeir_27 : decode cX2_findHeir 27 = .ok (.invokevirtual 64, 3) := by decide +kernel
theorem dX2_findHeir_30 : decode cX2_findHeir 30 = .ok (.aload_n 0, 1) := by decide +kernel
theorem dX2_findHeir_31 : decode cX2_findHeir 31 = .ok (.aload_n 0, 1) := by decide +kernel
theorem dX2_findHeir_32 : decode cX2_findHeir 32 = .ok (.aload_n 2, 1) := by decide +kernel
theorem dX2_findHeir_33 : decode cX2_findHeir 33 = .ok (.aload_n 1, 1) := by decide +kernel
theorem dX2_findHeir_34 : decode cX2_findHeir 34 = .ok (.getfield 28, 3) := by decide +kernel
theorem dX2_findHeir_37 : decode cX2_findHeir 37 = .ok (.invokevirtual 68, 3) := by decide +kernel
theorem dX2_findHeir_40 : decode cX2_findHeir 40 = .ok (.putfield 15, 3) := by decide +kernel
theorem dX2_findHeir_43 : decode cX2_findHeir 43 = .ok (.iconst 0, 1) := by decide +kernel
theorem dX2_findHeir_44 : decode cX2_findHeir 44 = .ok (.istore 6, 2) := by decide +kernel
theorem dX2_findHeir_46 : decode cX2_findHeir 46 = .ok (.iload 6, 2) := by decide +kernel
theorem dX2_findHeir_48 : decode cX2_findHeir 48 = .ok (.aload_n 2, 1) := by decide +kernel
theorem dX2_findHeir_49 : decode cX2_findHeir 49 = .ok (.getfield 34, 3) := by decide +kernel
theorem dX2_findHeir_52 : decode cX2_findHeir 52 = .ok (.iconst 4, 1) := by decide +kernel
theorem dX2_findHeir_53 : decode cX2_findHeir 53 = .ok (.iaload, 1) := by decide +kernel
theorem dX2_findHeir_54 : decode cX2_findHeir 54 = .ok (.if_icmp .ge 82, 3) := by decide +kernel
theorem dX2_findHeir_57 : decode cX2_findHeir 57 = .ok (.aload_n 1, 1) := by decide +kernel
theorem dX2_findHeir_58 : decode cX2_findHeir 58 = .ok (.aload_n 2, 1) := by decide +kernel
theorem dX2_findHeir_59 : decode cX2_findHeir 59 = .ok (.aload_n 3, 1) := by decide +kernel
theorem dX2_findHeir_60 : decode cX2_findHeir 60 = .ok (.invokevirtual 60, 3) := by decide +kernel
theorem dX2_findHeir_63 : decode cX2_findHeir 63 = .ok (.iconst 0, 1) := by decide +kernel
theorem dX2_findHeir_64 : decode cX2_findHeir 64 = .ok (.istore 7, 2) := by decide +kernel
theorem dX2_findHeir_66 : decode cX2_findHeir 66 = .ok (.iload 7, 2) := by decide +kernel
theorem dX2_findHeir_68 : decode cX2_findHeir 68 = .ok (.aload_n 2, 1) := by decide +kernel
theorem dX2_findHeir_69 : decode cX2_findHeir 69 = .ok (.getfield 34, 3) := by decide +kernel
theorem dX2_findHeir_72 : decode cX2_findHeir 72 = .ok (.iconst 4, 1) := by decide +kernel
theorem dX2_findHeir_73 : decode cX2_findHeir 73 = .ok (.iaload, 1) := by decide +kernel
theorem dX2_findHeir_74 : decode cX2_findHeir 74 = .ok (.if_icmp .ge 35, 3) := by decide +kernel
theorem dX2_findHeir_77 : decode cX2_findHeir 77 = .ok (.aload_n 1, 1) := by decide +kernel
theorem dX2_findHeir_78 : decode cX2_findHeir 78 = .ok (.getfield 28, 3) := by decide +kernel
theorem dX2_findHeir_81 : decode cX2_findHeir 81 = .ok (.getfield 34, 3) := by decide +kernel
theorem dX2_findHeir_84 : decode cX2_findHeir 84 = .ok (.bipush 58, 2) := by decide +kernel
theorem dX2_findHeir_86 : decode cX2_findHeir 86 = .ok (.iload 7, 2) := by decide +kernel
theorem dX2_findHeir_88 : decode cX2_findHeir 88 = .ok (.iadd, 1) := by decide +kernel
theorem dX2_findHeir_89 : decode cX2_findHeir 89 = .ok (.iload 7, 2) := by decide +kernel
theorem dX2_findHeir_91 : decode cX2_findHeir 91 = .ok (.iload 6, 2) := by decide +kernel
theorem dX2_findHeir_93 : decode cX2_findHeir 93 = .ok (.if_icmp .ne 8, 3) := by decide +kernel
theorem dX2_findHeir_96 : decode cX2_findHeir 96 = .ok (.iload 5, 2) := by decide +kernel
theorem dX2_findHeir_98 : decode cX2_findHeir 98 = .ok (.goto 4, 3) := by decide +kernel
theorem dX2_findHeir_101 : decode cX2_findHeir 101 = .ok (.iconst 0, 1) := by decide +kernel
theorem dX2_findHeir_102 : decode cX2_findHeir 102 = .ok (.iastore, 1) := by decide +kernel
theorem dX2_findHeir_103 : decode cX2_findHeir 103 = .ok (.iinc 7 1, 3) := by decide +kernel
theorem dX2_findHeir_106 : decode cX2_findHeir 106 = .ok (.goto (-40), 3) := by decide +kernel
theorem dX2_findHeir_109 : decode cX2_findHeir 109 = .ok (.aload_n 1, 1) := by decide +kernel
theorem dX2_findHeir_110 : decode cX2_findHeir 110 = .ok (.iload 4, 2) := by decide +kernel
theorem dX2_findHeir_112 : decode cX2_findHeir 112 = .ok (.invokevirtual 64, 3) := by decide +kernel
theorem dX2_findHeir_115 : decode cX2_findHeir 115 = .ok (.aload_n 0, 1) := by decide +kernel
theorem dX2_findHeir_116 : decode cX2_findHeir 116 = .ok (.iload 6, 2) := by decide +kernel
theorem dX2_findHeir_118 : decode cX2_findHeir 118 = .ok (.aload_n 0, 1) := by decide +kernel
theorem dX2_findHeir_119 : decode cX2_findHeir 119 = .ok (.aload_n 2, 1) := by decide +kernel
theorem dX2_findHeir_120 : decode cX2_findHeir 120 = .ok (.aload_n 1, 1) := by decide +kernel
theorem dX2_findHeir_121 : decode cX2_findHeir 121 = .ok (.getfield 28, 3) := by decide +kernel
theorem dX2_findHeir_124 : decode cX2_findHeir 124 = .ok (.invokevirtual 68, 3) := by decide +kernel
theorem dX2_findHeir_127 : decode cX2_findHeir 127 = .ok (.invokevirtual 76, 3) := by decide +kernel
theorem dX2_findHeir_130 : decode cX2_findHeir 130 = .ok (.iinc 6 1, 3) := by decide +kernel
theorem dX2_findHeir_133 : decode cX2_findHeir 133 = .ok (.goto (-87), 3) := by decide +kernel
theorem dX2_findHeir_136 : decode cX2_findHeir 136 = .ok (.return_, 1) := by decide +kernel
theorem dX3_complete_0 : decode cX3_complete 0 = .ok (.aload_n 0, 1) := by decide +kernel
theorem dX3_complete_1 : decode cX3_complete 1 = .ok (.getfield 12, 3) := by decide +kernel
theorem dX3_complete_4 : decode cX3_complete 4 = .ok (.getfield 69, 3) := by decide +kernel
theorem dX3_complete_7 : decode cX3_complete 7 = .ok (.astore_n 1, 1) := by decide +kernel
theorem dX3_complete_8 : decode cX3_complete 8 = .ok (.aload_n 1, 1) := by decide +kernel
theorem dX3_complete_9 : decode cX3_complete 9 = .ok (.iconst 2, 1) := by decide +kernel
theorem dX3_complete_10 : decode cX3_complete 10 = .ok (.iaload, 1) := by decide +kernel
theorem dX3_complete_11 : decode cX3_complete 11 = .ok (.ifCond .ne 12, 3) := by decide +kernel
theorem dX3_complete_14 : decode cX3_complete 14 = .ok (.aload_n 1, 1) := by decide +kernel
theorem dX3_complete_15 : decode cX3_complete 15 = .ok (.iconst 2, 1) := by decide +kernel
theorem dX3_complete_16 : decode cX3_complete 16 = .ok (.iconst 1, 1) := by decide +kernel
theorem dX3_complete_17 : decode cX3_complete 17 = .ok (.iastore, 1) := by decide +kernel
theorem dX3_complete_18 : decode cX3_complete 18 = .ok (.aload_n 1, 1) := by decide +kernel
theorem dX3_complete_19 : decode cX3_complete 19 = .ok (.bipush 8, 2) := by decide +kernel
theorem dX3_complete_21 : decode cX3_complete 21 = .ok (.iconst 4, 1) := by decide +kernel
theorem dX3_complete_22 : decode cX3_complete 22 = .ok (.iastore, 1) := by decide +kernel
theorem dX3_complete_23 : decode cX3_complete 23 = .ok (.iconst 0, 1) := by decide +kernel
theorem dX3_complete_24 : decode cX3_complete 24 = .ok (.istore_n 2, 1) := by decide +kernel
theorem dX3_complete_25 : decode cX3_complete 25 = .ok (.iload_n 2, 1) := by decide +kernel
theorem dX3_complete_26 : decode cX3_complete 26 = .ok (.aload_n 1, 1) := by decide +kernel
theorem dX3_complete_27 : decode cX3_complete 27 = .ok (.iconst 4, 1) := by decide +kernel
theorem dX3_complete_28 : decode cX3_complete 28 = .ok (.iaload, 1) := by decide +kernel
theorem dX3_complete_29 : decode cX3_complete 29 = .ok (.if_icmp .ge 18, 3) := by decide +kernel
theorem dX3_complete_32 : decode cX3_complete 32 = .ok (.aload_n 1, 1) := by decide +kernel
theorem dX3_complete_33 : decode cX3_complete 33 = .ok (.bipush 58, 2) := by decide +kernel
theorem dX3_complete_35 : decode cX3_complete 35 = .ok (.iload_n 2, 1) := by decide +kernel
theorem dX3_complete_36 : decode cX3_complete 36 = .ok (.iadd, 1) := by decide +kernel
theorem dX3_complete_37 : decode cX3_complete 37 = .ok (.aload_n 1, 1) := by decide +kernel
theorem dX3_complete_38 : decode cX3_complete 38 = .ok (.iconst 1, 1) := by decide +kernel
theorem dX3_complete_39 : decode cX3_complete 39 = .ok (.iaload, 1) := by decide +kernel
theorem dX3_complete_40 : decode cX3_complete 40 = .ok (.iastore, 1) := by decide +kernel
theorem dX3_complete_41 : decode cX3_complete 41 = .ok (.iinc 2 1, 3) := by decide +kernel
theorem dX3_complete_44 : decode cX3_complete 44 = .ok (.goto (-19), 3) := by decide +kernel
theorem dX3_complete_47 : decode cX3_complete 47 = .ok (.return_, 1) := by decide +kernel
theorem dX3_isFullOf_0 : decode cX3_isFullOf 0 = .ok (.iload_n 1, 1) := by decide +kernel
theorem dX3_isFullOf_1 : decode cX3_isFullOf 1 = .ok (.lookupswitch 94 #[(0, 75), (1, 55), (10, 35)], 35) := by decide +kernel
theorem dX3_isFullOf_36 : decode cX3_isFullOf 36 = .ok (.aload_n 0, 1) := by decide +kernel
theorem dX3_isFullOf_37 : decode cX3_isFullOf 37 = .ok (.getfield 12, 3) := by decide +kernel
theorem dX3_isFullOf_40 : decode cX3_isFullOf 40 = .ok (.getfield 69, 3) := by decide +kernel
theorem dX3_isFullOf_43 : decode cX3_isFullOf 43 = .ok (.iconst 2, 1) := by decide +kernel
theorem dX3_isFullOf_44 : decode cX3_isFullOf 44 = .ok (.iaload, 1) := by decide +kernel
theorem dX3_isFullOf_45 : decode cX3_isFullOf 45 = .ok (.bipush 12, 2) := by decide +kernel
theorem dX3_isFullOf_47 : decode cX3_isFullOf 47 = .ok (.if_icmp .lt 7, 3) := by decide +kernel
theorem dX3_isFullOf_50 : decode cX3_isFullOf 50 = .ok (.iconst 1, 1) := by decide +kernel
theorem dX3_isFullOf_51 : decode cX3_isFullOf 51 = .ok (.goto 4, 3) := by decide +kernel
theorem dX3_isFullOf_54 : decode cX3_isFullOf 54 = .ok (.iconst 0, 1) := by decide +kernel
theorem dX3_isFullOf_55 : decode cX3_isFullOf 55 = .ok (.ireturn, 1) := by decide +kernel
theorem dX3_isFullOf_56 : decode cX3_isFullOf 56 = .ok (.aload_n 0, 1) := by decide +kernel
theorem dX3_isFullOf_57 : decode cX3_isFullOf 57 = .ok (.getfield 12, 3) := by decide +kernel
theorem dX3_isFullOf_60 : decode cX3_isFullOf 60 = .ok (.getfield 69, 3) := by decide +kernel
theorem dX3_isFullOf_63 : decode cX3_isFullOf 63 = .ok (.iconst 3, 1) := by decide +kernel
theorem dX3_isFullOf_64 : decode cX3_isFullOf 64 = .ok (.iaload, 1) := by decide +kernel
theorem dX3_isFullOf_65 : decode cX3_isFullOf 65 = .ok (.bipush 6, 2) := by decide +kernel
theorem dX3_isFullOf_67 : decode cX3_isFullOf 67 = .ok (.if_icmp .lt 7, 3) := by decide +kernel
theorem dX3_isFullOf_70 : decode cX3_isFullOf 70 = .ok (.iconst 1, 1) := by decide +kernel
theorem dX3_isFullOf_71 : decode cX3_isFullOf 71 = .ok (.goto 4, 3) := by decide +kernel
theorem dX3_isFullOf_74 : decode cX3_isFullOf 74 = .ok (.iconst 0, 1) := by decide +kernel
theorem dX3_isFullOf_75 : decode cX3_isFullOf 75 = .ok (.ireturn, 1) := by decide +kernel
theorem dX3_isFullOf_76 : decode cX3_isFullOf 76 = .ok (.aload_n 0, 1) := by decide +kernel
theorem dX3_isFullOf_77 : decode cX3_isFullOf 77 = .ok (.getfield 12, 3) := by decide +kernel
theorem dX3_isFullOf_80 : decode cX3_isFullOf 80 = .ok (.getfield 69, 3) := by decide +kernel
theorem dX3_isFullOf_83 : decode cX3_isFullOf 83 = .ok (.iconst 4, 1) := by decide +kernel
theorem dX3_isFullOf_84 : decode cX3_isFullOf 84 = .ok (.iaload, 1) := by decide +kernel
theorem dX3_isFullOf_85 : decode cX3_isFullOf 85 = .ok (.iconst 5, 1) := by decide +kernel
theorem dX3_isFullOf_86 : decode cX3_isFullOf 86 = .ok (.if_icmp .lt 7, 3) := by decide +kernel
theorem dX3_isFullOf_89 : decode cX3_isFullOf 89 = .ok (.iconst 1, 1) := by decide +kernel
theorem dX3_isFullOf_90 : decode cX3_isFullOf 90 = .ok (.goto 4, 3) := by decide +kernel
theorem dX3_isFullOf_93 : decode cX3_isFullOf 93 = .ok (.iconst 0, 1) := by decide +kernel
theorem dX3_isFullOf_94 : decode cX3_isFullOf 94 = .ok (.ireturn, 1) := by decide +kernel
theorem dX3_isFullOf_95 : decode cX3_isFullOf 95 = .ok (.iconst 0, 1) := by decide +kernel
theorem dX3_isFullOf_96 : decode cX3_isFullOf 96 = .ok (.ireturn, 1) := by decide +kernel
theorem dX3_readFrom_0 : decode cX3_readFrom 0 = .ok (.aload_n 1, 1) := by decide +kernel
theorem dX3_readFrom_1 : decode cX3_readFrom 1 = .ok (.invokevirtual 18, 3) := by decide +kernel
theorem dX3_readFrom_4 : decode cX3_readFrom 4 = .ok (.aload_n 0, 1) := by decide +kernel
theorem dX3_readFrom_5 : decode cX3_readFrom 5 = .ok (.getfield 12, 3) := by decide +kernel
theorem dX3_readFrom_8 : decode cX3_readFrom 8 = .ok (.invokevirtual 23, 3) := by decide +kernel
theorem dX3_readFrom_11 : decode cX3_readFrom 11 = .ok (.iconst 0, 1) := by decide +kernel
theorem dX3_readFrom_12 : decode cX3_readFrom 12 = .ok (.istore_n 2, 1) := by decide +kernel
theorem dX3_readFrom_13 : decode cX3_readFrom 13 = .ok (.aload_n 0, 1) := by decide +kernel
theorem dX3_readFrom_14 : decode cX3_readFrom 14 = .ok (.aload_n 1, 1) := by decide +kernel
theorem dX3_readFrom_15 : decode cX3_readFrom 15 = .ok (.iload_n 2, 1) := by decide +kernel
theorem dX3_readFrom_16 : decode cX3_readFrom 16 = .ok (.invokevirtual 26, 3) := by decide +kernel
theorem dX3_readFrom_19 : decode cX3_readFrom 19 = .ok (.iinc 2 1, 3) := by decide +kernel
theorem dX3_readFrom_22 : decode cX3_readFrom 22 = .ok (.iload_n 2, 1) := by decide +kernel
theorem dX3_readFrom_23 : decode cX3_readFrom 23 = .ok (.sipush 400, 3) := by decide +kernel
theorem dX3_readFrom_26 : decode cX3_readFrom 26 = .ok (.if_icmp .gt 10, 3) := by decide +kernel
theorem dX3_readFrom_29 : decode cX3_readFrom 29 = .ok (.aload_n 1, 1) := by decide +kernel
theorem dX3_readFrom_30 : decode cX3_readFrom 30 = .ok (.invokevirtual 30, 3) := by decide +kernel
theorem dX3_readFrom_33 : decode cX3_readFrom 33 = .ok (.ifCond .ne (-20), 3) := by decide +kernel
theorem dX3_readFrom_36 : decode cX3_readFrom 36 = .ok (.aload_n 1, 1) := by decide +kernel
theorem dX3_readFrom_37 : decode cX3_readFrom 37 = .ok (.getfield 34, 3) := by decide +kernel
theorem dX3_readFrom_40 : decode cX3_readFrom 40 = .ok (.ifCond .ne 7, 3) := by decide +kernel
theorem dX3_readFrom_43 : decode cX3_readFrom 43 = .ok (.aload_n 0, 1) := by decide +kernel
theorem dX3_readFrom_44 : decode cX3_readFrom 44 = .ok (.invokevirtual 38, 3) := by decide +kernel
theorem dX3_readFrom_47 : decode cX3_readFrom 47 = .ok (.aload_n 1, 1) := by decide +kernel
theorem dX3_readFrom_48 : decode cX3_readFrom 48 = .ok (.getfield 34, 3) := by decide +kernel
theorem dX3_readFrom_51 : decode cX3_readFrom 51 = .ok (.ireturn, 1) := by decide +kernel
theorem dX4_copyFrom_0 : decode cX4_copyFrom 0 = .ok (.aload_n 0, 1) := by decide +kernel
theorem dX4_copyFrom_1 : decode cX4_copyFrom 1 = .ok (.getfield 12, 3) := by decide +kernel
theorem dX4_copyFrom_4 : decode cX4_copyFrom 4 = .ok (.aload_n 1, 1) := by decide +kernel
theorem dX4_copyFrom_5 : decode cX4_copyFrom 5 = .ok (.getfield 12, 3) := by decide +kernel
theorem dX4_copyFrom_8 : decode cX4_copyFrom 8 = .ok (.invokevirtual 39, 3) := by decide +kernel
theorem dX4_copyFrom_11 : decode cX4_copyFrom 11 = .ok (.aload_n 0, 1) := by decide +kernel
theorem dX4_copyFrom_12 : decode cX4_copyFrom 12 = .ok (.getfield 18, 3) := by decide +kernel
theorem dX4_copyFrom_15 : decode cX4_copyFrom 15 = .ok (.aload_n 1, 1) := by decide +kernel
theorem dX4_copyFrom_16 : decode cX4_copyFrom 16 = .ok (.getfield 18, 3) := by decide +kernel
theorem dX4_copyFrom_19 : decode cX4_copyFrom 19 = .ok (.invokevirtual 39, 3) := by decide +kernel
theorem dX4_copyFrom_22 : decode cX4_copyFrom 22 = .ok (.aload_n 0, 1) := by decide +kernel
theorem dX4_copyFrom_23 : decode cX4_copyFrom 23 = .ok (.getfield 24, 3) := by decide +kernel
theorem dX4_copyFrom_26 : decode cX4_copyFrom 26 = .ok (.aload_n 1, 1) := by decide +kernel
theorem dX4_copyFrom_27 : decode cX4_copyFrom 27 = .ok (.getfield 24, 3) := by decide +kernel
theorem dX4_copyFrom_30 : decode cX4_copyFrom 30 = .ok (.invokevirtual 43, 3) := by decide +kernel
theorem dX4_copyFrom_33 : decode cX4_copyFrom 33 = .ok (.aload_n 0, 1) := by decide +kernel
theorem dX4_copyFrom_34 : decode cX4_copyFrom 34 = .ok (.aload_n 1, 1) := by decide +kernel
theorem dX4_copyFrom_35 : decode cX4_copyFrom 35 = .ok (.getfield 28, 3) := by decide +kernel
theorem dX4_copyFrom_38 : decode cX4_copyFrom 38 = .ok (.putfield 28, 3) := by decide +kernel
theorem dX4_copyFrom_41 : decode cX4_copyFrom 41 = .ok (.aload_n 0, 1) := by decide +kernel
theorem dX4_copyFrom_42 : decode cX4_copyFrom 42 = .ok (.aload_n 1, 1) := by decide +kernel
theorem dX4_copyFrom_43 : decode cX4_copyFrom 43 = .ok (.getfield 32, 3) := by decide +kernel
theorem dX4_copyFrom_46 : decode cX4_copyFrom 46 = .ok (.putfield 32, 3) := by decide +kernel
theorem dX4_copyFrom_49 : decode cX4_copyFrom 49 = .ok (.return_, 1) := by decide +kernel
theorem dX5_copyFrom_0 : decode cX5_copyFrom 0 = .ok (.aload_n 1, 1) := by decide +kernel
theorem dX5_copyFrom_1 : decode cX5_copyFrom 1 = .ok (.getfield 11, 3) := by decide +kernel
theorem dX5_copyFrom_4 : decode cX5_copyFrom 4 = .ok (.iconst 0, 1) := by decide +kernel
theorem dX5_copyFrom_5 : decode cX5_copyFrom 5 = .ok (.aload_n 0, 1) := by decide +kernel
theorem dX5_copyFrom_6 : decode cX5_copyFrom 6 = .ok (.getfield 11, 3) := by decide +kernel
theorem dX5_copyFrom_9 : decode cX5_copyFrom 9 = .ok (.iconst 0, 1) := by decide +kernel
theorem dX5_copyFrom_10 : decode cX5_copyFrom 10 = .ok (.bipush 10, 2) := by decide +kernel
theorem dX5_copyFrom_12 : decode cX5_copyFrom 12 = .ok (.invokestatic 25, 3) := by decide +kernel
theorem dX5_copyFrom_15 : decode cX5_copyFrom 15 = .ok (.aload_n 1, 1) := by decide +kernel
theorem dX5_copyFrom_16 : decode cX5_copyFrom 16 = .ok (.getfield 15, 3) := by decide +kernel
theorem dX5_copyFrom_19 : decode cX5_copyFrom 19 = .ok (.iconst 0, 1) := by decide +kernel
theorem dX5_copyFrom_20 : decode cX5_copyFrom 20 = .ok (.aload_n 0, 1) := by decide +kernel
theorem dX5_copyFrom_21 : decode cX5_copyFrom 21 = .ok (.getfield 15, 3) := by decide +kernel
theorem dX5_copyFrom_24 : decode cX5_copyFrom 24 = .ok (.iconst 0, 1) := by decide +kernel
theorem dX5_copyFrom_25 : decode cX5_copyFrom 25 = .ok (.bipush 10, 2) := by decide +kernel
theorem dX5_copyFrom_27 : decode cX5_copyFrom 27 = .ok (.invokestatic 25, 3) := by decide +kernel
theorem dX5_copyFrom_30 : decode cX5_copyFrom 30 = .ok (.aload_n 1, 1) := by decide +kernel
theorem dX5_copyFrom_31 : decode cX5_copyFrom 31 = .ok (.getfield 18, 3) := by decide +kernel
theorem dX5_copyFrom_34 : decode cX5_copyFrom 34 = .ok (.iconst 0, 1) := by decide +kernel
theorem dX5_copyFrom_35 : decode cX5_copyFrom 35 = .ok (.aload_n 0, 1) := by decide +kernel
theorem dX5_copyFrom_36 : decode cX5_copyFrom 36 = .ok (.getfield 18, 3) := by decide +kernel
theorem dX5_copyFrom_39 : decode cX5_copyFrom 39 = .ok (.iconst 0, 1) := by decide +kernel
theorem dX5_copyFrom_40 : decode cX5_copyFrom 40 = .ok (.bipush 10, 2) := by decide +kernel
theorem dX5_copyFrom_42 : decode cX5_copyFrom 42 = .ok (.invokestatic 25, 3) := by decide +kernel
theorem dX5_copyFrom_45 : decode cX5_copyFrom 45 = .ok (.aload_n 0, 1) := by decide +kernel
theorem dX5_copyFrom_46 : decode cX5_copyFrom 46 = .ok (.aload_n 1, 1) := by decide +kernel
theorem dX5_copyFrom_47 : decode cX5_copyFrom 47 = .ok (.getfield 21, 3) := by decide +kernel
theorem dX5_copyFrom_50 : decode cX5_copyFrom 50 = .ok (.putfield 21, 3) := by decide +kernel
theorem dX5_copyFrom_53 : decode cX5_copyFrom 53 = .ok (.return_, 1) := by decide +kernel
theorem dX6_takeTurn_0 : decode cX6_takeTurn 0 = .ok (.aload_n 0, 1) := by decide +kernel
theorem dX6_takeTurn_1 : decode cX6_takeTurn 1 = .ok (.getfield 25, 3) := by decide +kernel
theorem dX6_takeTurn_4 : decode cX6_takeTurn 4 = .ok (.iconst (-1), 1) := by decide +kernel
theorem dX6_takeTurn_5 : decode cX6_takeTurn 5 = .ok (.if_icmp .ne 23, 3) := by decide +kernel
theorem dX6_takeTurn_8 : decode cX6_takeTurn 8 = .ok (.aload_n 0, 1) := by decide +kernel
theorem dX6_takeTurn_9 : decode cX6_takeTurn 9 = .ok (.getfield 12, 3) := by decide +kernel
theorem dX6_takeTurn_12 : decode cX6_takeTurn 12 = .ok (.aload_n 0, 1) := by decide +kernel
theorem dX6_takeTurn_13 : decode cX6_takeTurn 13 = .ok (.getfield 12, 3) := by decide +kernel
theorem dX6_takeTurn_16 : decode cX6_takeTurn 16 = .ok (.getfield 56, 3) := by decide +kernel
theorem dX6_takeTurn_19 : decode cX6_takeTurn 19 = .ok (.bipush 6, 2) := by decide +kernel
theorem dX6_takeTurn_21 : decode cX6_takeTurn 21 = .ok (.iaload, 1) := by decide +kernel
theorem dX6_takeTurn_22 : decode cX6_takeTurn 22 = .ok (.invokevirtual 73, 3) := by decide +kernel
theorem dX6_takeTurn_25 : decode cX6_takeTurn 25 = .ok (.goto 7, 3) := by decide +kernel
theorem dX6_takeTurn_28 : decode cX6_takeTurn 28 = .ok (.aload_n 0, 1) := by decide +kernel
theorem dX6_takeTurn_29 : decode cX6_takeTurn 29 = .ok (.getfield 25, 3) := by decide +kernel
theorem dX6_takeTurn_32 : decode cX6_takeTurn 32 = .ok (.istore_n 2, 1) := by decide +kernel
theorem dX6_takeTurn_33 : decode cX6_takeTurn 33 = .ok (.aload_n 0, 1) := by decide +kernel
theorem dX6_takeTurn_34 : decode cX6_takeTurn 34 = .ok (.getfield 22, 3) := by decide +kernel
theorem dX6_takeTurn_37 : decode cX6_takeTurn 37 = .ok (.iload_n 1, 1) := by decide +kernel
theorem dX6_takeTurn_38 : decode cX6_takeTurn 38 = .ok (.iaload, 1) := by decide +kernel
theorem dX6_takeTurn_39 : decode cX6_takeTurn 39 = .ok (.istore_n 3, 1) := by decide +kernel
theorem dX6_takeTurn_40 : decode cX6_takeTurn 40 = .ok (.iload_n 3, 1) := by decide +kernel
theorem dX6_takeTurn_41 : decode cX6_takeTurn 41 = .ok (.iconst (-1), 1) := by decide +kernel
theorem dX6_takeTurn_42 : decode cX6_takeTurn 42 = .ok (.if_icmp .ne 32, 3) := by decide +kernel
theorem dX6_takeTurn_45 : decode cX6_takeTurn 45 = .ok (.aload_n 0, 1) := by decide +kernel
theorem dX6_takeTurn_46 : decode cX6_takeTurn 46 = .ok (.getfield 33, 3) := by decide +kernel
theorem dX6_takeTurn_49 : decode cX6_takeTurn 49 = .ok (.ifnonnull 18, 3) := by decide +kernel
theorem dX6_takeTurn_52 : decode cX6_takeTurn 52 = .ok (.aload_n 0, 1) := by decide +kernel
theorem dX6_takeTurn_53 : decode cX6_takeTurn 53 = .ok (.getfield 12, 3) := by decide +kernel
theorem dX6_takeTurn_56 : decode cX6_takeTurn 56 = .ok (.getfield 56, 3) := by decide +kernel
theorem dX6_takeTurn_59 : decode cX6_takeTurn 59 = .ok (.bipush 38, 2) := by decide +kernel
theorem dX6_takeTurn_61 : decode cX6_takeTurn 61 = .ok (.iload_n 1, 1) := by decide +kernel
theorem dX6_takeTurn_62 : decode cX6_takeTurn 62 = .ok (.iadd, 1) := by decide +kernel
theorem dX6_takeTurn_63 : decode cX6_takeTurn 63 = .ok (.iaload, 1) := by decide +kernel
theorem dX6_takeTurn_64 : decode cX6_takeTurn 64 = .ok (.goto 9, 3) := by decide +kernel
theorem dX6_takeTurn_67 : decode cX6_takeTurn 67 = .ok (.aload_n 0, 1) := by decide +kernel
theorem dX6_takeTurn_68 : decode cX6_takeTurn 68 = .ok (.iload_n 1, 1) := by decide +kernel
theorem dX6_takeTurn_69 : decode cX6_takeTurn 69 = .ok (.iload_n 2, 1) := by decide +kernel
theorem dX6_takeTurn_70 : decode cX6_takeTurn 70 = .ok (.invokevirtual 76, 3) := by decide +kernel
theorem dX6_takeTurn_73 : decode cX6_takeTurn 73 = .ok (.istore_n 3, 1) := by decide +kernel
theorem dX6_takeTurn_74 : decode cX6_takeTurn 74 = .ok (.iload_n 3, 1) := by decide +kernel
theorem dX6_takeTurn_75 : decode cX6_takeTurn 75 = .ok (.iconst (-1), 1) := by decide +kernel
theorem dX6_takeTurn_76 : decode cX6_takeTurn 76 = .ok (.if_icmp .ne 8, 3) := by decide +kernel
theorem dX6_takeTurn_79 : decode cX6_takeTurn 79 = .ok (.bipush 99, 2) := by decide +kernel
theorem dX6_takeTurn_81 : decode cX6_takeTurn 81 = .ok (.goto 13, 3) := by decide +kernel
theorem dX6_takeTurn_84 : decode cX6_takeTurn 84 = .ok (.aload_n 0, 1) := by decide +kernel
theorem dX6_takeTurn_85 : decode cX6_takeTurn 85 = .ok (.getfield 12, 3) := by decide +kernel
theorem dX6_takeTurn_88 : decode cX6_takeTurn 88 = .ok (.iload_n 1, 1) := by decide +kernel
theorem dX6_takeTurn_89 : decode cX6_takeTurn 89 = .ok (.iload_n 3, 1) := by decide +kernel
theorem dX6_takeTurn_90 : decode cX6_takeTurn 90 = .ok (.iload_n 2, 1) := by decide +kernel
theorem dX6_takeTurn_91 : decode cX6_takeTurn 91 = .ok (.invokevirtual 80, 3) := by decide +kernel
theorem dX6_takeTurn_94 : decode cX6_takeTurn 94 = .ok (.ireturn, 1) := by decide +kernel
theorem dX8_readFact_0 : decode cX8_readFact 0 = .ok (.aload_n 1, 1) := by decide +kernel
theorem dX8_readFact_1 : decode cX8_readFact 1 = .ok (.bipush 18, 2) := by decide +kernel
theorem dX8_readFact_3 : decode cX8_readFact 3 = .ok (.invokevirtual 49, 3) := by decide +kernel
theorem dX8_readFact_6 : decode cX8_readFact 6 = .ok (.istore_n 3, 1) := by decide +kernel
theorem dX8_readFact_7 : decode cX8_readFact 7 = .ok (.iload_n 3, 1) := by decide +kernel
theorem dX8_readFact_8 : decode cX8_readFact 8 = .ok (.ifCond .ne 39, 3) := by decide +kernel
theorem dX8_readFact_11 : decode cX8_readFact 11 = .ok (.aload_n 1, 1) := by decide +kernel
theorem dX8_readFact_12 : decode cX8_readFact 12 = .ok (.bipush 91, 2) := by decide +kernel
theorem dX8_readFact_14 : decode cX8_readFact 14 = .ok (.invokevirtual 76, 3) := by decide +kernel
theorem dX8_readFact_17 : decode cX8_readFact 17 = .ok (.ifCond .ne 30, 3) := by decide +kernel
theorem dX8_readFact_20 : decode cX8_readFact 20 = .ok (.aload_n 0, 1) := by decide +kernel
theorem dX8_readFact_21 : decode cX8_readFact 21 = .ok (.aload_n 1, 1) := by decide +kernel
theorem dX8_readFact_22 : decode cX8_readFact 22 = .ok (.invokevirtual 63, 3) := by decide +kernel
theorem dX8_readFact_25 : decode cX8_readFact 25 = .ok (.aload_n 0, 1) := by decide +kernel
theorem dX8_readFact_26 : decode cX8_readFact 26 = .ok (.aload_n 1, 1) := by decide +kernel
theorem dX8_readFact_27 : decode cX8_readFact 27 = .ok (.invokevirtual 79, 3) := by decide +kernel
theorem dX8_readFact_30 : decode cX8_readFact 30 = .ok (.istore 4, 2) := by decide +kernel
theorem dX8_readFact_32 : decode cX8_readFact 32 = .ok (.aload_n 0, 1) := by decide +kernel
theorem dX8_readFact_33 : decode cX8_readFact 33 = .ok (.aload_n 1, 1) := by decide +kernel
theorem dX8_readFact_34 : decode cX8_readFact 34 = .ok (.invokevirtual 63, 3) := by decide +kernel
theorem dX8_readFact_37 : decode cX8_readFact 37 = .ok (.aload_n 0, 1) := by decide +kernel
theorem dX8_readFact_38 : decode cX8_readFact 38 = .ok (.iload 4, 2) := by decide +kernel
theorem dX8_readFact_40 : decode cX8_readFact 40 = .ok (.iconst 0, 1) := by decide +kernel
theorem dX8_readFact_41 : decode cX8_readFact 41 = .ok (.invokevirtual 70, 3) := by decide +kernel
theorem dX8_readFact_44 : decode cX8_readFact 44 = .ok (.goto 80, 3) := by decide +kernel
theorem dX8_readFact_47 : decode cX8_readFact 47 = .ok (.iload_n 2, 1) := by decide +kernel
theorem dX8_readFact_48 : decode cX8_readFact 48 = .ok (.bipush 10, 2) := by decide +kernel
theorem dX8_readFact_50 : decode cX8_readFact 50 = .ok (.if_icmp .lt 15, 3) := by decide +kernel
theorem dX8_readFact_53 : decode cX8_readFact 53 = .ok (.aload_n 1, 1) := by decide +kernel
theorem dX8_readFact_54 : decode cX8_readFact 54 = .ok (.aload_n 1, 1) := by decide +kernel
theorem dX8_readFact_55 : decode cX8_readFact 55 = .ok (.getfield 53, 3) := by decide +kernel
theorem dX8_readFact_58 : decode cX8_readFact 58 = .ok (.iconst 2, 1) := by decide +kernel
theorem dX8_readFact_59 : decode cX8_readFact 59 = .ok (.invokevirtual 56, 3) := by decide +kernel
theorem dX8_readFact_62 : decode cX8_readFact 62 = .ok (.goto 62, 3) := by decide +kernel
theorem dX8_readFact_65 : decode cX8_readFact 65 = .ok (.iload_n 3, 1) := by decide +kernel
theorem dX8_readFact_66 : decode cX8_readFact 66 = .ok (.ifCond .eq 24, 3) := by decide +kernel
theorem dX8_readFact_69 : decode cX8_readFact 69 = .ok (.aload_n 1, 1) := by decide +kernel
theorem dX8_readFact_70 : decode cX8_readFact 70 = .ok (.invokevirtual 60, 3) := by decide +kernel
theorem dX8_readFact_73 : decode cX8_readFact 73 = .ok (.aload_n 0, 1) := by decide +kernel
theorem dX8_readFact_74 : decode cX8_readFact 74 = .ok (.aload_n 1, 1) := by decide +kernel
theorem dX8_readFact_75 : decode cX8_readFact 75 = .ok (.iload_n 2, 1) := by decide +kernel
theorem dX8_readFact_76 : decode cX8_readFact 76 = .ok (.iconst 1, 1) := by decide +kernel
theorem dX8_readFact_77 : decode cX8_readFact 77 = .ok (.iadd, 1) := by decide +kernel
theorem dX8_readFact_78 : decode cX8_readFact 78 = .ok (.invokevirtual 73, 3) := by decide +kernel
theorem dX8_readFact_81 : decode cX8_readFact 81 = .ok (.aload_n 0, 1) := by decide +kernel
theorem dX8_readFact_82 : decode cX8_readFact 82 = .ok (.iconst 2, 1) := by decide +kernel
theorem dX8_readFact_83 : decode cX8_readFact 83 = .ok (.iconst 0, 1) := by decide +kernel
theorem dX8_readFact_84 : decode cX8_readFact 84 = .ok (.invokevirtual 70, 3) := by decide +kernel
theorem dX8_readFact_87 : decode cX8_readFact 87 = .ok (.goto 37, 3) := by decide +kernel
theorem dX8_readFact_90 : decode cX8_readFact 90 = .ok (.aload_n 1, 1) := by decide +kernel
theorem dX8_readFact_91 : decode cX8_readFact 91 = .ok (.invokevirtual 60, 3) := by decide +kernel
theorem dX8_readFact_94 : decode cX8_readFact 94 = .ok (.aload_n 0, 1) := by decide +kernel
theorem dX8_readFact_95 : decode cX8_readFact 95 = .ok (.aload_n 1, 1) := by decide +kernel
theorem dX8_readFact_96 : decode cX8_readFact 96 = .ok (.iload_n 2, 1) := by decide +kernel
theorem dX8_readFact_97 : decode cX8_readFact 97 = .ok (.iconst 1, 1) := by decide +kernel
theorem dX8_readFact_98 : decode cX8_readFact 98 = .ok (.iadd, 1) := by decide +kernel
theorem dX8_readFact_99 : decode cX8_readFact 99 = .ok (.invokevirtual 67, 3) := by decide +kernel
theorem dX8_readFact_102 : decode cX8_readFact 102 = .ok (.aload_n 1, 1) := by decide +kernel
theorem dX8_readFact_103 : decode cX8_readFact 103 = .ok (.bipush 93, 2) := by decide +kernel
theorem dX8_readFact_105 : decode cX8_readFact 105 = .ok (.invokevirtual 76, 3) := by decide +kernel
theorem dX8_readFact_108 : decode cX8_readFact 108 = .ok (.ifCond .ne 12, 3) := by decide +kernel
theorem dX8_readFact_111 : decode cX8_readFact 111 = .ok (.aload_n 1, 1) := by decide +kernel
theorem dX8_readFact_112 : decode cX8_readFact 112 = .ok (.aload_n 1, 1) := by decide +kernel
theorem dX8_readFact_113 : decode cX8_readFact 113 = .ok (.getfield 53, 3) := by decide +kernel
theorem dX8_readFact_116 : decode cX8_readFact 116 = .ok (.iconst 0, 1) := by decide +kernel
theorem dX8_readFact_117 : decode cX8_readFact 117 = .ok (.invokevirtual 56, 3) := by decide +kernel
theorem dX8_readFact_120 : decode cX8_readFact 120 = .ok (.aload_n 1, 1) := by decide +kernel
theorem dX8_readFact_121 : decode cX8_readFact 121 = .ok (.invokevirtual 60, 3) := by decide +kernel
theorem dX8_readFact_124 : decode cX8_readFact 124 = .ok (.return_, 1) := by decide +kernel
theorem dX8_readFrom_0 : decode cX8_readFrom 0 = .ok (.aload_n 1, 1) := by decide +kernel
theorem dX8_readFrom_1 : decode cX8_readFrom 1 = .ok (.invokevirtual 24, 3) := by decide +kernel
theorem dX8_readFrom_4 : decode cX8_readFrom 4 = .ok (.aload_n 0, 1) := by decide +kernel
theorem dX8_readFrom_5 : decode cX8_readFrom 5 = .ok (.iconst 0, 1) := by decide +kernel
theorem dX8_readFrom_6 : decode cX8_readFrom 6 = .ok (.putfield 17, 3) := by decide +kernel
theorem dX8_readFrom_9 : decode cX8_readFrom 9 = .ok (.aload_n 0, 1) := by decide +kernel
theorem dX8_readFrom_10 : decode cX8_readFrom 10 = .ok (.iconst 0, 1) := by decide +kernel
theorem dX8_readFrom_11 : decode cX8_readFrom 11 = .ok (.putfield 21, 3) := by decide +kernel
theorem dX8_readFrom_14 : decode cX8_readFrom 14 = .ok (.iconst 0, 1) := by decide +kernel
theorem dX8_readFrom_15 : decode cX8_readFrom 15 = .ok (.istore_n 2, 1) := by decide +kernel
theorem dX8_readFrom_16 : decode cX8_readFrom 16 = .ok (.aload_n 0, 1) := by decide +kernel
theorem dX8_readFrom_17 : decode cX8_readFrom 17 = .ok (.aload_n 1, 1) := by decide +kernel
theorem dX8_readFrom_18 : decode cX8_readFrom 18 = .ok (.iload_n 2, 1) := by decide +kernel
theorem dX8_readFrom_19 : decode cX8_readFrom 19 = .ok (.invokevirtual 27, 3) := by decide +kernel
theorem dX8_readFrom_22 : decode cX8_readFrom 22 = .ok (.iinc 2 1, 3) := by decide +kernel
theorem dX8_readFrom_25 : decode cX8_readFrom 25 = .ok (.iload_n 2, 1) := by decide +kernel
theorem dX8_readFrom_26 : decode cX8_readFrom 26 = .ok (.sipush 400, 3) := by decide +kernel
theorem dX8_readFrom_29 : decode cX8_readFrom 29 = .ok (.if_icmp .gt 10, 3) := by decide +kernel
theorem dX8_readFrom_32 : decode cX8_readFrom 32 = .ok (.aload_n 1, 1) := by decide +kernel
theorem dX8_readFrom_33 : decode cX8_readFrom 33 = .ok (.invokevirtual 31, 3) := by decide +kernel
theorem dX8_readFrom_36 : decode cX8_readFrom 36 = .ok (.ifCond .ne (-20), 3) := by decide +kernel
theorem dX8_readFrom_39 : decode cX8_readFrom 39 = .ok (.aload_n 1, 1) := by decide +kernel
theorem dX8_readFrom_40 : decode cX8_readFrom 40 = .ok (.getfield 35, 3) := by decide +kernel
theorem dX8_readFrom_43 : decode cX8_readFrom 43 = .ok (.ireturn, 1) := by decide +kernel
theorem dX8_readTest_0 : decode cX8_readTest 0 = .ok (.iconst 0, 1) := by decide +kernel
theorem dX8_readTest_1 : decode cX8_readTest 1 = .ok (.istore_n 3, 1) := by decide +kernel
theorem dX8_readTest_2 : decode cX8_readTest 2 = .ok (.aload_n 0, 1) := by decide +kernel
theorem dX8_readTest_3 : decode cX8_readTest 3 = .ok (.aload_n 1, 1) := by decide +kernel
theorem dX8_readTest_4 : decode cX8_readTest 4 = .ok (.iload_n 2, 1) := by decide +kernel
theorem dX8_readTest_5 : decode cX8_readTest 5 = .ok (.invokevirtual 73, 3) := by decide +kernel
theorem dX8_readTest_8 : decode cX8_readTest 8 = .ok (.iconst 0, 1) := by decide +kernel
theorem dX8_readTest_9 : decode cX8_readTest 9 = .ok (.istore 4, 2) := by decide +kernel
theorem dX8_readTest_11 : decode cX8_readTest 11 = .ok (.iload 4, 2) := by decide +kernel
theorem dX8_readTest_13 : decode cX8_readTest 13 = .ok (.sipush 400, 3) := by decide +kernel
theorem dX8_readTest_16 : decode cX8_readTest 16 = .ok (.if_icmp .ge 77, 3) := by decide +kernel
theorem dX8_readTest_19 : decode cX8_readTest 19 = .ok (.aload_n 1, 1) := by decide +kernel
theorem dX8_readTest_20 : decode cX8_readTest 20 = .ok (.getfield 35, 3) := by decide +kernel
theorem dX8_readTest_23 : decode cX8_readTest 23 = .ok (.ifCond .ne 70, 3) := by decide +kernel
theorem dX8_readTest_26 : decode cX8_readTest 26 = .ok (.aload_n 1, 1) := by decide +kernel
theorem dX8_readTest_27 : decode cX8_readTest 27 = .ok (.bipush 17, 2) := by decide +kernel
theorem dX8_readTest_29 : decode cX8_readTest 29 = .ok (.invokevirtual 49, 3) := by decide +kernel
theorem dX8_readTest_32 : decode cX8_readTest 32 = .ok (.ifCond .eq 23, 3) := by decide +kernel
theorem dX8_readTest_35 : decode cX8_readTest 35 = .ok (.aload_n 1, 1) := by decide +kernel
theorem dX8_readTest_36 : decode cX8_readTest 36 = .ok (.invokevirtual 60, 3) := by decide +kernel
theorem dX8_readTest_39 : decode cX8_readTest 39 = .ok (.aload_n 0, 1) := by decide +kernel
theorem dX8_readTest_40 : decode cX8_readTest 40 = .ok (.aload_n 1, 1) := by decide +kernel
theorem dX8_readTest_41 : decode cX8_readTest 41 = .ok (.iload_n 2, 1) := by decide +kernel
theorem dX8_readTest_42 : decode cX8_readTest 42 = .ok (.invokevirtual 73, 3) := by decide +kernel
theorem dX8_readTest_45 : decode cX8_readTest 45 = .ok (.aload_n 0, 1) := by decide +kernel
theorem dX8_readTest_46 : decode cX8_readTest 46 = .ok (.bipush 15, 2) := by decide +kernel
theorem dX8_readTest_48 : decode cX8_readTest 48 = .ok (.iconst 0, 1) := by decide +kernel
theorem dX8_readTest_49 : decode cX8_readTest 49 = .ok (.invokevirtual 70, 3) := by decide +kernel
theorem dX8_readTest_52 : decode cX8_readTest 52 = .ok (.goto 35, 3) := by decide +kernel
theorem dX8_readTest_55 : decode cX8_readTest 55 = .ok (.aload_n 1, 1) := by decide +kernel
theorem dX8_readTest_56 : decode cX8_readTest 56 = .ok (.bipush 16, 2) := by decide +kernel
theorem dX8_readTest_58 : decode cX8_readTest 58 = .ok (.invokevirtual 49, 3) := by decide +kernel
theorem dX8_readTest_61 : decode cX8_readTest 61 = .ok (.ifCond .eq 32, 3) := by decide +kernel
theorem dX8_readTest_64 : decode cX8_readTest 64 = .ok (.aload_n 1, 1) := by decide +kernel
theorem dX8_readTest_65 : decode cX8_readTest 65 = .ok (.invokevirtual 60, 3) := by decide +kernel
theorem dX8_readTest_68 : decode cX8_readTest 68 = .ok (.iload_n 3, 1) := by decide +kernel
theorem dX8_readTest_69 : decode cX8_readTest 69 = .ok (.ifCond .eq 10, 3) := by decide +kernel
theorem dX8_readTest_72 : decode cX8_readTest 72 = .ok (.aload_n 0, 1) := by decide +kernel
theorem dX8_readTest_73 : decode cX8_readTest 73 = .ok (.bipush 16, 2) := by decide +kernel
theorem dX8_readTest_75 : decode cX8_readTest 75 = .ok (.iconst 0, 1) := by decide +kernel
theorem dX8_readTest_76 : decode cX8_readTest 76 = .ok (.invokevirtual 70, 3) := by decide +kernel
theorem dX8_readTest_79 : decode cX8_readTest 79 = .ok (.iconst 1, 1) := by decide +kernel
theorem dX8_readTest_80 : decode cX8_readTest 80 = .ok (.istore_n 3, 1) := by decide +kernel
theorem dX8_readTest_81 : decode cX8_readTest 81 = .ok (.aload_n 0, 1) := by decide +kernel
theorem dX8_readTest_82 : decode cX8_readTest 82 = .ok (.aload_n 1, 1) := by decide +kernel
theorem dX8_readTest_83 : decode cX8_readTest 83 = .ok (.iload_n 2, 1) := by decide +kernel
theorem dX8_readTest_84 : decode cX8_readTest 84 = .ok (.invokevirtual 73, 3) := by decide +kernel
theorem dX8_readTest_87 : decode cX8_readTest 87 = .ok (.iinc 4 1, 3) := by decide +kernel
theorem dX8_readTest_90 : decode cX8_readTest 90 = .ok (.goto (-79), 3) := by decide +kernel
theorem dX8_readTest_93 : decode cX8_readTest 93 = .ok (.iload_n 3, 1) := by decide +kernel
theorem dX8_readTest_94 : decode cX8_readTest 94 = .ok (.ifCond .eq 10, 3) := by decide +kernel
theorem dX8_readTest_97 : decode cX8_readTest 97 = .ok (.aload_n 0, 1) := by decide +kernel
theorem dX8_readTest_98 : decode cX8_readTest 98 = .ok (.bipush 16, 2) := by decide +kernel
theorem dX8_readTest_100 : decode cX8_readTest 100 = .ok (.iconst 0, 1) := by decide +kernel
theorem dX8_readTest_101 : decode cX8_readTest 101 = .ok (.invokevirtual 70, 3) := by decide +kernel
theorem dX8_readTest_104 : decode cX8_readTest 104 = .ok (.return_, 1) := by decide +kernel
theorem dJ9_max_7cf53_0 : decode cJ9_max_7cf53 0 = .ok (.iload_n 0, 1) := by decide +kernel
theorem dJ9_max_7cf53_1 : decode cJ9_max_7cf53 1 = .ok (.iload_n 1, 1) := by decide +kernel
theorem dJ9_max_7cf53_2 : decode cJ9_max_7cf53 2 = .ok (.if_icmp .lt 7, 3) := by decide +kernel
theorem dJ9_max_7cf53_5 : decode cJ9_max_7cf53 5 = .ok (.iload_n 0, 1) := by decide +kernel
theorem dJ9_max_7cf53_6 : decode cJ9_max_7cf53 6 = .ok (.goto 4, 3) := by decide +kernel
theorem dJ9_max_7cf53_9 : decode cJ9_max_7cf53 9 = .ok (.iload_n 1, 1) := by decide +kernel
theorem dJ9_max_7cf53_10 : decode cJ9_max_7cf53 10 = .ok (.ireturn, 1) := by decide +kernel
theorem dJ9_min_7cf53_0 : decode cJ9_min_7cf53 0 = .ok (.iload_n 0, 1) := by decide +kernel
theorem dJ9_min_7cf53_1 : decode cJ9_min_7cf53 1 = .ok (.iload_n 1, 1) := by decide +kernel
theorem dJ9_min_7cf53_2 : decode cJ9_min_7cf53 2 = .ok (.if_icmp .gt 7, 3) := by decide +kernel
theorem dJ9_min_7cf53_5 : decode cJ9_min_7cf53 5 = .ok (.iload_n 0, 1) := by decide +kernel
theorem dJ9_min_7cf53_6 : decode cJ9_min_7cf53 6 = .ok (.goto 4, 3) := by decide +kernel
theorem dJ9_min_7cf53_9 : decode cJ9_min_7cf53 9 = .ok (.iload_n 1, 1) := by decide +kernel
theorem dJ9_min_7cf53_10 : decode cJ9_min_7cf53 10 = .ok (.ireturn, 1) := by decide +kernel
theorem dX10_addBytes_0 : decode cX10_addBytes 0 = .ok (.bipush 24, 2) := by decide +kernel
theorem dX10_addBytes_2 : decode cX10_addBytes 2 = .ok (.istore_n 2, 1) := by decide +kernel
theorem dX10_addBytes_3 : decode cX10_addBytes 3 = .ok (.iload_n 2, 1) := by decide +kernel
theorem dX10_addBytes_4 : decode cX10_addBytes 4 = .ok (.ifCond .lt 45, 3) := by decide +kernel
theorem dX10_addBytes_7 : decode cX10_addBytes 7 = .ok (.aload_n 0, 1) := by decide +kernel
theorem dX10_addBytes_8 : decode cX10_addBytes 8 = .ok (.getfield 15, 3) := by decide +kernel
theorem dX10_addBytes_11 : decode cX10_addBytes 11 = .ok (.sipush 400, 3) := by decide +kernel
theorem dX10_addBytes_14 : decode cX10_addBytes 14 = .ok (.if_icmp .ge 35, 3) := by decide +kernel
theorem dX10_addBytes_17 : decode cX10_addBytes 17 = .ok (.aload_n 0, 1) := by decide +kernel
theorem dX10_addBytes_18 : decode cX10_addBytes 18 = .ok (.getfield 11, 3) := by decide +kernel
theorem dX10_addBytes_21 : decode cX10_addBytes 21 = .ok (.aload_n 0, 1) := by decide +kernel
theorem dX10_addBytes_22 : decode cX10_addBytes 22 = .ok (.getfield 15, 3) := by decide +kernel
theorem dX10_addBytes_25 : decode cX10_addBytes 25 = .ok (.iload_n 1, 1) := by decide +kernel
theorem dX10_addBytes_26 : decode cX10_addBytes 26 = .ok (.iload_n 2, 1) := by decide +kernel
theorem dX10_addBytes_27 : decode cX10_addBytes 27 = .ok (.iushr, 1) := by decide +kernel
theorem dX10_addBytes_28 : decode cX10_addBytes 28 = .ok (.sipush 255, 3) := by decide +kernel
theorem dX10_addBytes_31 : decode cX10_addBytes 31 = .ok (.iand, 1) := by decide +kernel
theorem dX10_addBytes_32 : decode cX10_addBytes 32 = .ok (.iastore, 1) := by decide +kernel
theorem dX10_addBytes_33 : decode cX10_addBytes 33 = .ok (.aload_n 0, 1) := by decide +kernel
theorem dX10_addBytes_34 : decode cX10_addBytes 34 = .ok (.dup, 1) := by decide +kernel
theorem dX10_addBytes_35 : decode cX10_addBytes 35 = .ok (.getfield 15, 3) := by decide +kernel
theorem dX10_addBytes_38 : decode cX10_addBytes 38 = .ok (.iconst 1, 1) := by decide +kernel
theorem dX10_addBytes_39 : decode cX10_addBytes 39 = .ok (.iadd, 1) := by decide +kernel
theorem dX10_addBytes_40 : decode cX10_addBytes 40 = .ok (.putfield 15, 3) := by decide +kernel
theorem dX10_addBytes_43 : decode cX10_addBytes 43 = .ok (.iinc 2 (-8), 3) := by decide +kernel
theorem dX10_addBytes_46 : decode cX10_addBytes 46 = .ok (.goto (-43), 3) := by decide +kernel
theorem dX10_addBytes_49 : decode cX10_addBytes 49 = .ok (.return_, 1) := by decide +kernel
theorem dX10_addToken_0 : decode cX10_addToken 0 = .ok (.aload_n 0, 1) := by decide +kernel
theorem dX10_addToken_1 : decode cX10_addToken 1 = .ok (.getfield 28, 3) := by decide +kernel
theorem dX10_addToken_4 : decode cX10_addToken 4 = .ok (.sipush 400, 3) := by decide +kernel
theorem dX10_addToken_7 : decode cX10_addToken 7 = .ok (.if_icmp .gt 43, 3) := by decide +kernel
theorem dX10_addToken_10 : decode cX10_addToken 10 = .ok (.aload_n 0, 1) := by decide +kernel
theorem dX10_addToken_11 : decode cX10_addToken 11 = .ok (.getfield 19, 3) := by decide +kernel
theorem dX10_addToken_14 : decode cX10_addToken 14 = .ok (.aload_n 0, 1) := by decide +kernel
theorem dX10_addToken_15 : decode cX10_addToken 15 = .ok (.getfield 28, 3) := by decide +kernel
theorem dX10_addToken_18 : decode cX10_addToken 18 = .ok (.iload_n 1, 1) := by decide +kernel
theorem dX10_addToken_19 : decode cX10_addToken 19 = .ok (.iastore, 1) := by decide +kernel
theorem dX10_addToken_20 : decode cX10_addToken 20 = .ok (.aload_n 0, 1) := by decide +kernel
theorem dX10_addToken_21 : decode cX10_addToken 21 = .ok (.getfield 22, 3) := by decide +kernel
theorem dX10_addToken_24 : decode cX10_addToken 24 = .ok (.aload_n 0, 1) := by decide +kernel
theorem dX10_addToken_25 : decode cX10_addToken 25 = .ok (.getfield 28, 3) := by decide +kernel
theorem dX10_addToken_28 : decode cX10_addToken 28 = .ok (.iload_n 2, 1) := by decide +kernel
theorem dX10_addToken_29 : decode cX10_addToken 29 = .ok (.iastore, 1) := by decide +kernel
theorem dX10_addToken_30 : decode cX10_addToken 30 = .ok (.aload_n 0, 1) := by decide +kernel
theorem dX10_addToken_31 : decode cX10_addToken 31 = .ok (.getfield 25, 3) := by decide +kernel
theorem dX10_addToken_34 : decode cX10_addToken 34 = .ok (.aload_n 0, 1) := by decide +kernel
theorem dX10_addToken_35 : decode cX10_addToken 35 = .ok (.getfield 28, 3) := by decide +kernel
theorem dX10_addToken_38 : decode cX10_addToken 38 = .ok (.iload_n 3, 1) := by decide +kernel
theorem dX10_addToken_39 : decode cX10_addToken 39 = .ok (.iastore, 1) := by decide +kernel
theorem dX10_addToken_40 : decode cX10_addToken 40 = .ok (.aload_n 0, 1) := by decide +kernel
theorem dX10_addToken_41 : decode cX10_addToken 41 = .ok (.dup, 1) := by decide +kernel
theorem dX10_addToken_42 : decode cX10_addToken 42 = .ok (.getfield 28, 3) := by decide +kernel
theorem dX10_addToken_45 : decode cX10_addToken 45 = .ok (.iconst 1, 1) := by decide +kernel
theorem dX10_addToken_46 : decode cX10_addToken 46 = .ok (.iadd, 1) := by decide +kernel
theorem dX10_addToken_47 : decode cX10_addToken 47 = .ok (.putfield 28, 3) := by decide +kernel
theorem dX10_addToken_50 : decode cX10_addToken 50 = .ok (.return_, 1) := by decide +kernel
theorem dX10_isLetter_0 : decode cX10_isLetter 0 = .ok (.aload_n 0, 1) := by decide +kernel
theorem dX10_isLetter_1 : decode cX10_isLetter 1 = .ok (.getfield 11, 3) := by decide +kernel
theorem dX10_isLetter_4 : decode cX10_isLetter 4 = .ok (.iload_n 1, 1) := by decide +kernel
theorem dX10_isLetter_5 : decode cX10_isLetter 5 = .ok (.iaload, 1) := by decide +kernel
theorem dX10_isLetter_6 : decode cX10_isLetter 6 = .ok (.bipush 97, 2) := by decide +kernel
theorem dX10_isLetter_8 : decode cX10_isLetter 8 = .ok (.if_icmp .lt 18, 3) := by decide +kernel
theorem dX10_isLetter_11 : decode cX10_isLetter 11 = .ok (.aload_n 0, 1) := by decide +kernel
theorem dX10_isLetter_12 : decode cX10_isLetter 12 = .ok (.getfield 11, 3) := by decide +kernel
theorem dX10_isLetter_15 : decode cX10_isLetter 15 = .ok (.iload_n 1, 1) := by decide +kernel
theorem dX10_isLetter_16 : decode cX10_isLetter 16 = .ok (.iaload, 1) := by decide +kernel
theorem dX10_isLetter_17 : decode cX10_isLetter 17 = .ok (.bipush 122, 2) := by decide +kernel
theorem dX10_isLetter_19 : decode cX10_isLetter 19 = .ok (.if_icmp .gt 7, 3) := by decide +kernel
theorem dX10_isLetter_22 : decode cX10_isLetter 22 = .ok (.iconst 1, 1) := by decide +kernel
theorem dX10_isLetter_23 : decode cX10_isLetter 23 = .ok (.goto 4, 3) := by decide +kernel
theorem dX10_isLetter_26 : decode cX10_isLetter 26 = .ok (.iconst 0, 1) := by decide +kernel
theorem dX10_isLetter_27 : decode cX10_isLetter 27 = .ok (.ireturn, 1) := by decide +kernel
theorem dX10_scanWord_0 : decode cX10_scanWord 0 = .ok (.iload_n 1, 1) := by decide +kernel
theorem dX10_scanWord_1 : decode cX10_scanWord 1 = .ok (.istore_n 2, 1) := by decide +kernel
theorem dX10_scanWord_2 : decode cX10_scanWord 2 = .ok (.iload_n 2, 1) := by decide +kernel
theorem dX10_scanWord_3 : decode cX10_scanWord 3 = .ok (.aload_n 0, 1) := by decide +kernel
theorem dX10_scanWord_4 : decode cX10_scanWord 4 = .ok (.getfield 15, 3) := by decide +kernel
theorem dX10_scanWord_7 : decode cX10_scanWord 7 = .ok (.if_icmp .ge 17, 3) := by decide +kernel
theorem dX10_scanWord_10 : decode cX10_scanWord 10 = .ok (.aload_n 0, 1) := by decide +kernel
theorem dX10_scanWord_11 : decode cX10_scanWord 11 = .ok (.iload_n 2, 1) := by decide +kernel
theorem dX10_scanWord_12 : decode cX10_scanWord 12 = .ok (.invokevirtual 71, 3) := by decide +kernel
theorem dX10_scanWord_15 : decode cX10_scanWord 15 = .ok (.ifCond .eq 9, 3) := by decide +kernel
theorem dX10_scanWord_18 : decode cX10_scanWord 18 = .ok (.iinc 2 1, 3) := by decide +kernel
theorem dX10_scanWord_21 : decode cX10_scanWord 21 = .ok (.goto (-19), 3) := by decide +kernel
theorem dX10_scanWord_24 : decode cX10_scanWord 24 = .ok (.aload_n 0, 1) := by decide +kernel
theorem dX10_scanWord_25 : decode cX10_scanWord 25 = .ok (.iload_n 1, 1) := by decide +kernel
theorem dX10_scanWord_26 : decode cX10_scanWord 26 = .ok (.iload_n 2, 1) := by decide +kernel
theorem dX10_scanWord_27 : decode cX10_scanWord 27 = .ok (.invokevirtual 77, 3) := by decide +kernel
theorem dX10_scanWord_30 : decode cX10_scanWord 30 = .ok (.istore_n 3, 1) := by decide +kernel
theorem dX10_scanWord_31 : decode cX10_scanWord 31 = .ok (.aload_n 0, 1) := by decide +kernel
theorem dX10_scanWord_32 : decode cX10_scanWord 32 = .ok (.iload_n 3, 1) := by decide +kernel
theorem dX10_scanWord_33 : decode cX10_scanWord 33 = .ok (.iconst (-1), 1) := by decide +kernel
theorem dX10_scanWord_34 : decode cX10_scanWord 34 = .ok (.if_icmp .ne 7, 3) := by decide +kernel
theorem dX10_scanWord_37 : decode cX10_scanWord 37 = .ok (.iconst 5, 1) := by decide +kernel
theorem dX10_scanWord_38 : decode cX10_scanWord 38 = .ok (.goto 4, 3) := by decide +kernel
theorem dX10_scanWord_41 : decode cX10_scanWord 41 = .ok (.iconst 3, 1) := by decide +kernel
theorem dX10_scanWord_42 : decode cX10_scanWord 42 = .ok (.iload_n 3, 1) := by decide +kernel
theorem dX10_scanWord_43 : decode cX10_scanWord 43 = .ok (.iload_n 1, 1) := by decide +kernel
theorem dX10_scanWord_44 : decode cX10_scanWord 44 = .ok (.invokevirtual 50, 3) := by decide +kernel
theorem dX10_scanWord_47 : decode cX10_scanWord 47 = .ok (.iload_n 2, 1) := by decide +kernel
theorem dX10_scanWord_48 : decode cX10_scanWord 48 = .ok (.ireturn, 1) := by decide +kernel
theorem dX11_allEased_0 : decode cX11_allEased 0 = .ok (.aload_n 0, 1) := by decide +kernel
theorem dX11_allEased_1 : decode cX11_allEased 1 = .ok (.getfield 43, 3) := by decide +kernel
theorem dX11_allEased_4 : decode cX11_allEased 4 = .ok (.getfield 111, 3) := by decide +kernel
theorem dX11_allEased_7 : decode cX11_allEased 7 = .ok (.invokevirtual 152, 3) := by decide +kernel
theorem dX11_allEased_10 : decode cX11_allEased 10 = .ok (.ifCond .ne 5, 3) := by decide +kernel
theorem dX11_allEased_13 : decode cX11_allEased 13 = .ok (.iconst (-1), 1) := by decide +kernel
theorem dX11_allEased_14 : decode cX11_allEased 14 = .ok (.ireturn, 1) := by decide +kernel
theorem dX11_allEased_15 : decode cX11_allEased 15 = .ok (.aload_n 0, 1) := by decide +kernel
theorem dX11_allEased_16 : decode cX11_allEased 16 = .ok (.getfield 61, 3) := by decide +kernel
theorem dX11_allEased_19 : decode cX11_allEased 19 = .ok (.aload_n 0, 1) := by decide +kernel
theorem dX11_allEased_20 : decode cX11_allEased 20 = .ok (.getfield 43, 3) := by decide +kernel
theorem dX11_allEased_23 : decode cX11_allEased 23 = .ok (.getfield 111, 3) := by decide +kernel
theorem dX11_allEased_26 : decode cX11_allEased 26 = .ok (.aload_n 0, 1) := by decide +kernel
theorem dX11_allEased_27 : decode cX11_allEased 27 = .ok (.invokevirtual 159, 3) := by decide +kernel
theorem dX11_allEased_30 : decode cX11_allEased 30 = .ok (.invokevirtual 162, 3) := by decide +kernel
theorem dX11_allEased_33 : decode cX11_allEased 33 = .ok (.aload_n 0, 1) := by decide +kernel
theorem dX11_allEased_34 : decode cX11_allEased 34 = .ok (.getfield 68, 3) := by decide +kernel
theorem dX11_allEased_37 : decode cX11_allEased 37 = .ok (.aload_n 0, 1) := by decide +kernel
theorem dX11_allEased_38 : decode cX11_allEased 38 = .ok (.getfield 61, 3) := by decide +kernel
theorem dX11_allEased_41 : decode cX11_allEased 41 = .ok (.iconst 0, 1) := by decide +kernel
theorem dX11_allEased_42 : decode cX11_allEased 42 = .ok (.aload_n 0, 1) := by decide +kernel
theorem dX11_allEased_43 : decode cX11_allEased 43 = .ok (.getfield 43, 3) := by decide +kernel
theorem dX11_allEased_46 : decode cX11_allEased 46 = .ok (.getfield 111, 3) := by decide +kernel
theorem dX11_allEased_49 : decode cX11_allEased 49 = .ok (.getfield 124, 3) := by decide +kernel
theorem dX11_allEased_52 : decode cX11_allEased 52 = .ok (.iconst 4, 1) := by decide +kernel
theorem dX11_allEased_53 : decode cX11_allEased 53 = .ok (.iaload, 1) := by decide +kernel
theorem dX11_allEased_54 : decode cX11_allEased 54 = .ok (.iconst 1, 1) := by decide +kernel
theorem dX11_allEased_55 : decode cX11_allEased 55 = .ok (.isub, 1) := by decide +kernel
theorem dX11_allEased_56 : decode cX11_allEased 56 = .ok (.invokevirtual 190, 3) := by decide +kernel
theorem dX11_allEased_59 : decode cX11_allEased 59 = .ok (.ireturn, 1) := by decide +kernel
theorem dX12_allEased_0 : decode cX12_allEased 0 = .ok (.aload_n 0, 1) := by decide +kernel
theorem dX12_allEased_1 : decode cX12_allEased 1 = .ok (.invokevirtual 294, 3) := by decide +kernel
theorem dX12_allEased_4 : decode cX12_allEased 4 = .ok (.ifCond .eq 11, 3) := by decide +kernel
theorem dX12_allEased_7 : decode cX12_allEased 7 = .ok (.aload_n 0, 1) := by decide +kernel
theorem dX12_allEased_8 : decode cX12_allEased 8 = .ok (.iconst (-1), 1) := by decide +kernel
theorem dX12_allEased_9 : decode cX12_allEased 9 = .ok (.invokevirtual 384, 3) := by decide +kernel
theorem dX12_allEased_12 : decode cX12_allEased 12 = .ok (.goto 4, 3) := by decide +kernel
theorem dX12_allEased_15 : decode cX12_allEased 15 = .ok (.iconst (-1), 1) := by decide +kernel
theorem dX12_allEased_16 : decode cX12_allEased 16 = .ok (.ireturn, 1) := by decide +kernel
theorem dX12_areAllSo_0 : decode cX12_areAllSo 0 = .ok (.iconst 1, 1) := by decide +kernel
theorem dX12_areAllSo_1 : decode cX12_areAllSo 1 = .ok (.istore_n 3, 1) := by decide +kernel
theorem dX12_areAllSo_2 : decode cX12_areAllSo 2 = .ok (.iconst 0, 1) := by decide +kernel
theorem dX12_areAllSo_3 : decode cX12_areAllSo 3 = .ok (.istore 4, 2) := by decide +kernel
theorem dX12_areAllSo_5 : decode cX12_areAllSo 5 = .ok (.iload 4, 2) := by decide +kernel
theorem dX12_areAllSo_7 : decode cX12_areAllSo 7 = .ok (.bipush 40, 2) := by decide +kernel
theorem dX12_areAllSo_9 : decode cX12_areAllSo 9 = .ok (.if_icmp .gt 77, 3) := by decide +kernel
theorem dX12_areAllSo_12 : decode cX12_areAllSo 12 = .ok (.aload_n 0, 1) := by decide +kernel
theorem dX12_areAllSo_13 : decode cX12_areAllSo 13 = .ok (.invokevirtual 360, 3) := by decide +kernel
theorem dX12_areAllSo_16 : decode cX12_areAllSo 16 = .ok (.pop, 1) := by decide +kernel
theorem dX12_areAllSo_17 : decode cX12_areAllSo 17 = .ok (.iload_n 3, 1) := by decide +kernel
theorem dX12_areAllSo_18 : decode cX12_areAllSo 18 = .ok (.ifCond .eq 16, 3) := by decide +kernel
theorem dX12_areAllSo_21 : decode cX12_areAllSo 21 = .ok (.aload_n 0, 1) := by decide +kernel
theorem dX12_areAllSo_22 : decode cX12_areAllSo 22 = .ok (.iload 4, 2) := by decide +kernel
theorem dX12_areAllSo_24 : decode cX12_areAllSo 24 = .ok (.invokevirtual 426, 3) := by decide +kernel
theorem dX12_areAllSo_27 : decode cX12_areAllSo 27 = .ok (.ifCond .eq 7, 3) := by decide +kernel
theorem dX12_areAllSo_30 : decode cX12_areAllSo 30 = .ok (.iconst 1, 1) := by decide +kernel
theorem dX12_areAllSo_31 : decode cX12_areAllSo 31 = .ok (.goto 4, 3) := by decide +kernel
theorem dX12_areAllSo_34 : decode cX12_areAllSo 34 = .ok (.iconst 0, 1) := by decide +kernel
theorem dX12_areAllSo_35 : decode cX12_areAllSo 35 = .ok (.istore_n 3, 1) := by decide +kernel
theorem dX12_areAllSo_36 : decode cX12_areAllSo 36 = .ok (.iconst 0, 1) := by decide +kernel
theorem dX12_areAllSo_37 : decode cX12_areAllSo 37 = .ok (.istore 5, 2) := by decide +kernel
theorem dX12_areAllSo_39 : decode cX12_areAllSo 39 = .ok (.iload 5, 2) := by decide +kernel
theorem dX12_areAllSo_41 : decode cX12_areAllSo 41 = .ok (.aload_n 0, 1) := by decide +kernel
theorem dX12_areAllSo_42 : decode cX12_areAllSo 42 = .ok (.getfield 39, 3) := by decide +kernel
theorem dX12_areAllSo_45 : decode cX12_areAllSo 45 = .ok (.iconst 5, 1) := by decide +kernel
theorem dX12_areAllSo_46 : decode cX12_areAllSo 46 = .ok (.iaload, 1) := by decide +kernel
theorem dX12_areAllSo_47 : decode cX12_areAllSo 47 = .ok (.if_icmp .ge 33, 3) := by decide +kernel
theorem dX12_areAllSo_50 : decode cX12_areAllSo 50 = .ok (.iload 4, 2) := by decide +kernel
theorem dX12_areAllSo_52 : decode cX12_areAllSo 52 = .ok (.iload_n 2, 1) := by decide +kernel
theorem dX12_areAllSo_53 : decode cX12_areAllSo 53 = .ok (.if_icmp .ne 27, 3) := by decide +kernel
theorem dX12_areAllSo_56 : decode cX12_areAllSo 56 = .ok (.aload_n 0, 1) := by decide +kernel
theorem dX12_areAllSo_57 : decode cX12_areAllSo 57 = .ok (.getfield 74, 3) := by decide +kernel
theorem dX12_areAllSo_60 : decode cX12_areAllSo 60 = .ok (.iconst 5, 1) := by decide +kernel
theorem dX12_areAllSo_61 : decode cX12_areAllSo 61 = .ok (.iload_n 1, 1) := by decide +kernel
theorem dX12_areAllSo_62 : decode cX12_areAllSo 62 = .ok (.imul, 1) := by decide +kernel
theorem dX12_areAllSo_63 : decode cX12_areAllSo 63 = .ok (.iload 5, 2) := by decide +kernel
theorem dX12_areAllSo_65 : decode cX12_areAllSo 65 = .ok (.iadd, 1) := by decide +kernel
theorem dX12_areAllSo_66 : decode cX12_areAllSo 66 = .ok (.aload_n 0, 1) := by decide +kernel
theorem dX12_areAllSo_67 : decode cX12_areAllSo 67 = .ok (.getfield 52, 3) := by decide +kernel
theorem dX12_areAllSo_70 : decode cX12_areAllSo 70 = .ok (.iload 5, 2) := by decide +kernel
theorem dX12_areAllSo_72 : decode cX12_areAllSo 72 = .ok (.iaload, 1) := by decide +kernel
theorem dX12_areAllSo_73 : decode cX12_areAllSo 73 = .ok (.iastore, 1) := by decide +kernel
theorem dX12_areAllSo_74 : decode cX12_areAllSo 74 = .ok (.iinc 5 1, 3) := by decide +kernel
theorem dX12_areAllSo_77 : decode cX12_areAllSo 77 = .ok (.goto (-38), 3) := by decide +kernel
theorem dX12_areAllSo_80 : decode cX12_areAllSo 80 = .ok (.iinc 4 1, 3) := by decide +kernel
theorem dX12_areAllSo_83 : decode cX12_areAllSo 83 = .ok (.goto (-78), 3) := by decide +kernel
theorem dX12_areAllSo_86 : decode cX12_areAllSo 86 = .ok (.iload_n 3, 1) := by decide +kernel
theorem dX12_areAllSo_87 : decode cX12_areAllSo 87 = .ok (.ireturn, 1) := by decide +kernel
theorem dX12_arrowsIn_0 : decode cX12_arrowsIn 0 = .ok (.iconst 0, 1) := by decide +kernel
theorem dX12_arrowsIn_1 : decode cX12_arrowsIn 1 = .ok (.istore_n 2, 1) := by decide +kernel
theorem dX12_arrowsIn_2 : decode cX12_arrowsIn 2 = .ok (.iconst 0, 1) := by decide +kernel
theorem dX12_arrowsIn_3 : decode cX12_arrowsIn 3 = .ok (.istore_n 3, 1) := by decide +kernel
theorem dX12_arrowsIn_4 : decode cX12_arrowsIn 4 = .ok (.iload_n 3, 1) := by decide +kernel
theorem dX12_arrowsIn_5 : decode cX12_arrowsIn 5 = .ok (.iload_n 1, 1) := by decide +kernel
theorem dX12_arrowsIn_6 : decode cX12_arrowsIn 6 = .ok (.if_icmp .ge 26, 3) := by decide +kernel
theorem dX12_arrowsIn_9 : decode cX12_arrowsIn 9 = .ok (.iload_n 2, 1) := by decide +kernel
theorem dX12_arrowsIn_10 : decode cX12_arrowsIn 10 = .ok (.aload_n 0, 1) := by decide +kernel
theorem dX12_arrowsIn_11 : decode cX12_arrowsIn 11 = .ok (.getfield 61, 3) := by decide +kernel
theorem dX12_arrowsIn_14 : decode cX12_arrowsIn 14 = .ok (.iload_n 3, 1) := by decide +kernel
theorem dX12_arrowsIn_15 : decode cX12_arrowsIn 15 = .ok (.iaload, 1) := by decide +kernel
theorem dX12_arrowsIn_16 : decode cX12_arrowsIn 16 = .ok (.ifCond .lt 7, 3) := by decide +kernel
theorem dX12_arrowsIn_19 : decode cX12_arrowsIn 19 = .ok (.iconst 1, 1) := by decide +kernel
theorem dX12_arrowsIn_20 : decode cX12_arrowsIn 20 = .ok (.goto 4, 3) := by decide +kernel
theorem dX12_arrowsIn_23 : decode cX12_arrowsIn 23 = .ok (.iconst 0, 1) := by decide +kernel
theorem dX12_arrowsIn_24 : decode cX12_arrowsIn 24 = .ok (.iadd, 1) := by decide +kernel
theorem dX12_arrowsIn_25 : decode cX12_arrowsIn 25 = .ok (.istore_n 2, 1) := by decide +kernel
theorem dX12_arrowsIn_26 : decode cX12_arrowsIn 26 = .ok (.iinc 3 1, 3) := by decide +kernel
theorem dX12_arrowsIn_29 : decode cX12_arrowsIn 29 = .ok (.goto (-25), 3) := by decide +kernel
theorem dX12_arrowsIn_32 : decode cX12_arrowsIn 32 = .ok (.iload_n 2, 1) := by decide +kernel
theorem dX12_arrowsIn_33 : decode cX12_arrowsIn 33 = .ok (.ireturn, 1) := by decide +kernel
theorem dX12_arrowsOf_0 : decode cX12_arrowsOf 0 = .ok (.aload_n 0, 1) := by decide +kernel
theorem dX12_arrowsOf_1 : decode cX12_arrowsOf 1 = .ok (.getfield 39, 3) := by decide +kernel
theorem dX12_arrowsOf_4 : decode cX12_arrowsOf 4 = .ok (.bipush 25, 2) := by decide +kernel
theorem dX12_arrowsOf_6 : decode cX12_arrowsOf 6 = .ok (.iconst 3, 1) := by decide +kernel
theorem dX12_arrowsOf_7 : decode cX12_arrowsOf 7 = .ok (.iload_n 1, 1) := by decide +kernel
theorem dX12_arrowsOf_8 : decode cX12_arrowsOf 8 = .ok (.imul, 1) := by decide +kernel
theorem dX12_arrowsOf_9 : decode cX12_arrowsOf 9 = .ok (.iadd, 1) := by decide +kernel
theorem dX12_arrowsOf_10 : decode cX12_arrowsOf 10 = .ok (.iconst 2, 1) := by decide +kernel
theorem dX12_arrowsOf_11 : decode cX12_arrowsOf 11 = .ok (.iadd, 1) := by decide +kernel
theorem dX12_arrowsOf_12 : decode cX12_arrowsOf 12 = .ok (.iaload, 1) := by decide +kernel
theorem dX12_arrowsOf_13 : decode cX12_arrowsOf 13 = .ok (.ireturn, 1) := by decide +kernel
theorem dX12_cellHere_0 : decode cX12_cellHere 0 = .ok (.aload_n 0, 1) := by decide +kernel
theorem dX12_cellHere_1 : decode cX12_cellHere 1 = .ok (.iload_n 2, 1) := by decide +kernel
theorem dX12_cellHere_2 : decode cX12_cellHere 2 = .ok (.iload_n 3, 1) := by decide +kernel
theorem dX12_cellHere_3 : decode cX12_cellHere 3 = .ok (.invokevirtual 178, 3) := by decide +kernel
theorem dX12_cellHere_6 : decode cX12_cellHere 6 = .ok (.ifCond .ne 5, 3) := by decide +kernel
theorem dX12_cellHere_9 : decode cX12_cellHere 9 = .ok (.iconst 0, 1) := by decide +kernel
theorem dX12_cellHere_10 : decode cX12_cellHere 10 = .ok (.ireturn, 1) := by decide +kernel
theorem dX12_cellHere_11 : decode cX12_cellHere 11 = .ok (.aload_n 0, 1) := by decide +kernel
theorem dX12_cellHere_12 : decode cX12_cellHere 12 = .ok (.getfield 26, 3) := by decide +kernel
theorem dX12_cellHere_15 : decode cX12_cellHere 15 = .ok (.iload_n 1, 1) := by decide +kernel
theorem dX12_cellHere_16 : decode cX12_cellHere 16 = .ok (.aload_n 0, 1) := by decide +kernel
theorem dX12_cellHere_17 : decode cX12_cellHere 17 = .ok (.getfield 124, 3) := by decide +kernel
theorem dX12_cellHere_20 : decode cX12_cellHere 20 = .ok (.iastore, 1) := by decide +kernel
theorem dX12_cellHere_21 : decode cX12_cellHere 21 = .ok (.iconst 1, 1) := by decide +kernel
theorem dX12_cellHere_22 : decode cX12_cellHere 22 = .ok (.ireturn, 1) := by decide +kernel
