theorem dX1_hasRing_3 : decode cX1_hasRing 3 = .ok (.getfield 11, 3) := by decide +kernel
theorem dX1_hasRing_6 : decode cX1_hasRing 6 = .ok (.iconst 3, 1) := by decide +kernel
theorem dX1_hasRing_7 : decode cX1_hasRing 7 = .ok (.iaload, 1) := by decide +kernel
theorem dX1_hasRing_8 : decode cX1_hasRing 8 = .ok (.iconst 1, 1) := by decide +kernel
theorem dX1_hasRing_9 : decode cX1_hasRing 9 = .ok (.isub, 1) := by decide +kernel
theorem dX1_hasRing_10 : decode cX1_hasRing 10 = .ok (.invokestatic 27, 3) := by decide +kernel
theorem dX1_hasRing_13 : decode cX1_hasRing 13 = .ok (.ireturn, 1) := by decide +kernel
theorem dX1_landing_0 : decode cX1_landing 0 = .ok (.aload_n 0, 1) := by decide +kernel
theorem dX1_landing_1 : decode cX1_landing 1 = .ok (.getfield 11, 3) := by decide +kernel
theorem dX1_landing_4 : decode cX1_landing 4 = .ok (.bipush 20, 2) := by decide +kernel
theorem dX1_landing_6 : decode cX1_landing 6 = .ok (.iload_n 2, 1) := by decide +kernel
theorem dX1_landing_7 : decode cX1_landing 7 = .ok (.iadd, 1) := by decide +kernel
theorem dX1_landing_8 : decode cX1_landing 8 = .ok (.iaload, 1) := by decide +kernel
theorem dX1_landing_9 : decode cX1_landing 9 = .ok (.aload_n 0, 1) := by decide +kernel
theorem dX1_landing_10 : decode cX1_landing 10 = .ok (.iload_n 1, 1) := by decide +kernel
theorem dX1_landing_11 : decode cX1_landing 11 = .ok (.iload_n 3, 1) := by decide +kernel
theorem dX1_landing_12 : decode cX1_landing 12 = .ok (.invokevirtual 31, 3) := by decide +kernel
theorem dX1_landing_15 : decode cX1_landing 15 = .ok (.iadd, 1) := by decide +kernel
theorem dX1_landing_16 : decode cX1_landing 16 = .ok (.istore 4, 2) := by decide +kernel
theorem dX1_landing_18 : decode cX1_landing 18 = .ok (.iload 4, 2) := by decide +kernel
theorem dX1_landing_20 : decode cX1_landing 20 = .ok (.iconst 0, 1) := by decide +kernel
theorem dX1_landing_21 : decode cX1_landing 21 = .ok (.aload_n 0, 1) := by decide +kernel
theorem dX1_landing_22 : decode cX1_landing 22 = .ok (.getfield 11, 3) := by decide +kernel
theorem dX1_landing_25 : decode cX1_landing 25 = .ok (.iconst 0, 1) := by decide +kernel
theorem dX1_landing_26 : decode cX1_landing 26 = .ok (.iaload, 1) := by decide +kernel
theorem dX1_landing_27 : decode cX1_landing 27 = .ok (.iconst 1, 1) := by decide +kernel
theorem dX1_landing_28 : decode cX1_landing 28 = .ok (.isub, 1) := by decide +kernel
theorem dX1_landing_29 : decode cX1_landing 29 = .ok (.invokestatic 27, 3) := by decide +kernel
theorem dX1_landing_32 : decode cX1_landing 32 = .ok (.ifCond .eq 8, 3) := by decide +kernel
theorem dX1_landing_35 : decode cX1_landing 35 = .ok (.iload 4, 2) := by decide +kernel
theorem dX1_landing_37 : decode cX1_landing 37 = .ok (.goto 4, 3) := by decide +kernel
theorem dX1_landing_40 : decode cX1_landing 40 = .ok (.iconst (-1), 1) := by decide +kernel
theorem dX1_landing_41 : decode cX1_landing 41 = .ok (.ireturn, 1) := by decide +kernel
theorem dX2_areWell_0 : decode cX2_areWell 0 = .ok (.iload_n 1, 1) := by decide +kernel
theorem dX2_areWell_1 : decode cX2_areWell 1 = .ok (.istore_n 3, 1) := by decide +kernel
theorem dX2_areWell_2 : decode cX2_areWell 2 = .ok (.iload_n 3, 1) := by decide +kernel
theorem dX2_areWell_3 : decode cX2_areWell 3 = .ok (.iload_n 2, 1) := by decide +kernel
theorem dX2_areWell_4 : decode cX2_areWell 4 = .ok (.if_icmp .gt 23, 3) := by decide +kernel
theorem dX2_areWell_7 : decode cX2_areWell 7 = .ok (.aload_n 0, 1) := by decide +kernel
theorem dX2_areWell_8 : decode cX2_areWell 8 = .ok (.getfield 34, 3) := by decide +kernel
theorem dX2_areWell_11 : decode cX2_areWell 11 = .ok (.bipush 53, 2) := by decide +kernel
theorem dX2_areWell_13 : decode cX2_areWell 13 = .ok (.iload_n 3, 1) := by decide +kernel
theorem dX2_areWell_14 : decode cX2_areWell 14 = .ok (.iadd, 1) := by decide +kernel
theorem dX2_areWell_15 : decode cX2_areWell 15 = .ok (.iaload, 1) := by decide +kernel
theorem dX2_areWell_16 : decode cX2_areWell 16 = .ok (.ifCond .le 5, 3) := by decide +kernel
theorem dX2_areWell_19 : decode cX2_areWell 19 = .ok (.iconst 0, 1) := by decide +kernel
theorem dX2_areWell_20 : decode cX2_areWell 20 = .ok (.ireturn, 1) := by decide +kernel
theorem dX2_areWell_21 : decode cX2_areWell 21 = .ok (.iinc 3 1, 3) := by decide +kernel
theorem dX2_areWell_24 : decode cX2_areWell 24 = .ok (.goto (-22), 3) := by decide +kernel
theorem dX2_areWell_27 : decode cX2_areWell 27 = .ok (.iconst 1, 1) := by decide +kernel
theorem dX2_areWell_28 : decode cX2_areWell 28 = .ok (.ireturn, 1) := by decide +kernel
theorem dX2_bestRow_0 : decode cX2_bestRow 0 = .ok (.aload_n 1, 1) := by decide +kernel
theorem dX2_bestRow_1 : decode cX2_bestRow 1 = .ok (.getfield 34, 3) := by decide +kernel
theorem dX2_bestRow_4 : decode cX2_bestRow 4 = .ok (.bipush 6, 2) := by decide +kernel
theorem dX2_bestRow_6 : decode cX2_bestRow 6 = .ok (.iaload, 1) := by decide +kernel
theorem dX2_bestRow_7 : decode cX2_bestRow 7 = .ok (.istore 5, 2) := by decide +kernel
theorem dX2_bestRow_9 : decode cX2_bestRow 9 = .ok (.aload_n 1, 1) := by decide +kernel
theorem dX2_bestRow_10 : decode cX2_bestRow 10 = .ok (.getfield 34, 3) := by decide +kernel
theorem dX2_bestRow_13 : decode cX2_bestRow 13 = .ok (.bipush 53, 2) := by decide +kernel
theorem dX2_bestRow_15 : decode cX2_bestRow 15 = .ok (.iload_n 2, 1) := by decide +kernel
theorem dX2_bestRow_16 : decode cX2_bestRow 16 = .ok (.iadd, 1) := by decide +kernel
theorem dX2_bestRow_17 : decode cX2_bestRow 17 = .ok (.iaload, 1) := by decide +kernel
theorem dX2_bestRow_18 : decode cX2_bestRow 18 = .ok (.istore 6, 2) := by decide +kernel
theorem dX2_bestRow_20 : decode cX2_bestRow 20 = .ok (.aload_n 1, 1) := by decide +kernel
theorem dX2_bestRow_21 : decode cX2_bestRow 21 = .ok (.getfield 34, 3) := by decide +kernel
theorem dX2_bestRow_24 : decode cX2_bestRow 24 = .ok (.bipush 26, 2) := by decide +kernel
theorem dX2_bestRow_26 : decode cX2_bestRow 26 = .ok (.aload_n 1, 1) := by decide +kernel
theorem dX2_bestRow_27 : decode cX2_bestRow 27 = .ok (.getfield 34, 3) := by decide +kernel
theorem dX2_bestRow_30 : decode cX2_bestRow 30 = .ok (.bipush 38, 2) := by decide +kernel
theorem dX2_bestRow_32 : decode cX2_bestRow 32 = .ok (.iload_n 2, 1) := by decide +kernel
theorem dX2_bestRow_33 : decode cX2_bestRow 33 = .ok (.iadd, 1) := by decide +kernel
theorem dX2_bestRow_34 : decode cX2_bestRow 34 = .ok (.iaload, 1) := by decide +kernel
theorem dX2_bestRow_35 : decode cX2_bestRow 35 = .ok (.iadd, 1) := by decide +kernel
theorem dX2_bestRow_36 : decode cX2_bestRow 36 = .ok (.iaload, 1) := by decide +kernel
theorem dX2_bestRow_37 : decode cX2_bestRow 37 = .ok (.istore 7, 2) := by decide +kernel
theorem dX2_bestRow_39 : decode cX2_bestRow 39 = .ok (.iload 7, 2) := by decide +kernel
theorem dX2_bestRow_41 : decode cX2_bestRow 41 = .ok (.iconst 1, 1) := by decide +kernel
theorem dX2_bestRow_42 : decode cX2_bestRow 42 = .ok (.if_icmp .ge 7, 3) := by decide +kernel
theorem dX2_bestRow_45 : decode cX2_bestRow 45 = .ok (.iconst 0, 1) := by decide +kernel
theorem dX2_bestRow_46 : decode cX2_bestRow 46 = .ok (.goto 13, 3) := by decide +kernel
theorem dX2_bestRow_49 : decode cX2_bestRow 49 = .ok (.iload 6, 2) := by decide +kernel
theorem dX2_bestRow_51 : decode cX2_bestRow 51 = .ok (.iload 7, 2) := by decide +kernel
theorem dX2_bestRow_53 : decode cX2_bestRow 53 = .ok (.iadd, 1) := by decide +kernel
theorem dX2_bestRow_54 : decode cX2_bestRow 54 = .ok (.iconst 1, 1) := by decide +kernel
theorem dX2_bestRow_55 : decode cX2_bestRow 55 = .ok (.isub, 1) := by decide +kernel
theorem dX2_bestRow_56 : decode cX2_bestRow 56 = .ok (.iload 7, 2) := by decide +kernel
theorem dX2_bestRow_58 : decode cX2_bestRow 58 = .ok (.idiv, 1) := by decide +kernel
theorem dX2_bestRow_59 : decode cX2_bestRow 59 = .ok (.istore 8, 2) := by decide +kernel
theorem dX2_bestRow_61 : decode cX2_bestRow 61 = .ok (.iload 8, 2) := by decide +kernel
theorem dX2_bestRow_63 : decode cX2_bestRow 63 = .ok (.aload_n 1, 1) := by decide +kernel
theorem dX2_bestRow_64 : decode cX2_bestRow 64 = .ok (.getfield 34, 3) := by decide +kernel
theorem dX2_bestRow_67 : decode cX2_bestRow 67 = .ok (.bipush 58, 2) := by decide +kernel
theorem dX2_bestRow_69 : decode cX2_bestRow 69 = .ok (.iload_n 2, 1) := by decide +kernel
theorem dX2_bestRow_70 : decode cX2_bestRow 70 = .ok (.iadd, 1) := by decide +kernel
theorem dX2_bestRow_71 : decode cX2_bestRow 71 = .ok (.iaload, 1) := by decide +kernel
theorem dX2_bestRow_72 : decode cX2_bestRow 72 = .ok (.invokestatic 51, 3) := by decide +kernel
theorem dX2_bestRow_75 : decode cX2_bestRow 75 = .ok (.istore 9, 2) := by decide +kernel
theorem dX2_bestRow_77 : decode cX2_bestRow 77 = .ok (.iconst 0, 1) := by decide +kernel
theorem dX2_bestRow_78 : decode cX2_bestRow 78 = .ok (.istore 10, 2) := by decide +kernel
theorem dX2_bestRow_80 : decode cX2_bestRow 80 = .ok (.iconst (-1), 1) := by decide +kernel
theorem dX2_bestRow_81 : decode cX2_bestRow 81 = .ok (.istore 11, 2) := by decide +kernel
theorem dX2_bestRow_83 : decode cX2_bestRow 83 = .ok (.iload_n 3, 1) := by decide +kernel
theorem dX2_bestRow_84 : decode cX2_bestRow 84 = .ok (.istore 12, 2) := by decide +kernel
theorem dX2_bestRow_86 : decode cX2_bestRow 86 = .ok (.iload 12, 2) := by decide +kernel
theorem dX2_bestRow_88 : decode cX2_bestRow 88 = .ok (.iconst 1, 1) := by decide +kernel
theorem dX2_bestRow_89 : decode cX2_bestRow 89 = .ok (.if_icmp .lt 55, 3) := by decide +kernel
theorem dX2_bestRow_92 : decode cX2_bestRow 92 = .ok (.iload 10, 2) := by decide +kernel
theorem dX2_bestRow_94 : decode cX2_bestRow 94 = .ok (.iload 9, 2) := by decide +kernel
theorem dX2_bestRow_96 : decode cX2_bestRow 96 = .ok (.if_icmp .ge 48, 3) := by decide +kernel
theorem dX2_bestRow_99 : decode cX2_bestRow 99 = .ok (.aload_n 1, 1) := by decide +kernel
theorem dX2_bestRow_100 : decode cX2_bestRow 100 = .ok (.iload_n 2, 1) := by decide +kernel
theorem dX2_bestRow_101 : decode cX2_bestRow 101 = .ok (.iload 5, 2) := by decide +kernel
theorem dX2_bestRow_103 : decode cX2_bestRow 103 = .ok (.iload 12, 2) := by decide +kernel
theorem dX2_bestRow_105 : decode cX2_bestRow 105 = .ok (.iadd, 1) := by decide +kernel
theorem dX2_bestRow_106 : decode cX2_bestRow 106 = .ok (.iconst 1, 1) := by decide +kernel
theorem dX2_bestRow_107 : decode cX2_bestRow 107 = .ok (.isub, 1) := by decide +kernel
theorem dX2_bestRow_108 : decode cX2_bestRow 108 = .ok (.invokevirtual 57, 3) := by decide +kernel
theorem dX2_bestRow_111 : decode cX2_bestRow 111 = .ok (.istore 13, 2) := by decide +kernel
theorem dX2_bestRow_113 : decode cX2_bestRow 113 = .ok (.iload 13, 2) := by decide +kernel
theorem dX2_bestRow_115 : decode cX2_bestRow 115 = .ok (.iconst (-1), 1) := by decide +kernel
theorem dX2_bestRow_116 : decode cX2_bestRow 116 = .ok (.if_icmp .eq 22, 3) := by decide +kernel
theorem dX2_bestRow_119 : decode cX2_bestRow 119 = .ok (.iinc 10 1, 3) := by decide +kernel
theorem dX2_bestRow_122 : decode cX2_bestRow 122 = .ok (.iload 12, 2) := by decide +kernel
theorem dX2_bestRow_124 : decode cX2_bestRow 124 = .ok (.iload 4, 2) := by decide +kernel
theorem dX2_bestRow_126 : decode cX2_bestRow 126 = .ok (.if_icmp .ne 8, 3) := by decide +kernel
theorem dX2_bestRow_129 : decode cX2_bestRow 129 = .ok (.iload 13, 2) := by decide +kernel
theorem dX2_bestRow_131 : decode cX2_bestRow 131 = .ok (.goto 5, 3) := by decide +kernel
theorem dX2_bestRow_134 : decode cX2_bestRow 134 = .ok (.iload 11, 2) := by decide +kernel
theorem dX2_bestRow_136 : decode cX2_bestRow 136 = .ok (.istore 11, 2) := by decide +kernel
theorem dX2_bestRow_138 : decode cX2_bestRow 138 = .ok (.iinc 12 (-1), 3) := by decide +kernel
theorem dX2_bestRow_141 : decode cX2_bestRow 141 = .ok (.goto (-55), 3) := by decide +kernel
theorem dX2_bestRow_144 : decode cX2_bestRow 144 = .ok (.iload 4, 2) := by decide +kernel
theorem dX2_bestRow_146 : decode cX2_bestRow 146 = .ok (.ifCond .ne 16, 3) := by decide +kernel
theorem dX2_bestRow_149 : decode cX2_bestRow 149 = .ok (.iload 6, 2) := by decide +kernel
theorem dX2_bestRow_151 : decode cX2_bestRow 151 = .ok (.iload 10, 2) := by decide +kernel
theorem dX2_bestRow_153 : decode cX2_bestRow 153 = .ok (.iload 7, 2) := by decide +kernel
theorem dX2_bestRow_155 : decode cX2_bestRow 155 = .ok (.imul, 1) := by decide +kernel
theorem dX2_bestRow_156 : decode cX2_bestRow 156 = .ok (.invokestatic 51, 3) := by decide +kernel
theorem dX2_bestRow_159 : decode cX2_bestRow 159 = .ok (.goto 5, 3) := by decide +kernel
theorem dX2_bestRow_162 : decode cX2_bestRow 162 = .ok (.iload 11, 2) := by decide +kernel
theorem dX2_bestRow_164 : decode cX2_bestRow 164 = .ok (.ireturn, 1) := by decide +kernel
theorem dX2_penceOf_0 : decode cX2_penceOf 0 = .ok (.aload_n 1, 1) := by decide +kernel
theorem dX2_penceOf_1 : decode cX2_penceOf 1 = .ok (.getfield 34, 3) := by decide +kernel
theorem dX2_penceOf_4 : decode cX2_penceOf 4 = .ok (.iconst 3, 1) := by decide +kernel
theorem dX2_penceOf_5 : decode cX2_penceOf 5 = .ok (.iaload, 1) := by decide +kernel
theorem dX2_penceOf_6 : decode cX2_penceOf 6 = .ok (.istore 4, 2) := by decide +kernel
theorem dX2_penceOf_8 : decode cX2_penceOf 8 = .ok (.iconst 0, 1) := by decide +kernel
theorem dX2_penceOf_9 : decode cX2_penceOf 9 = .ok (.istore 5, 2) := by decide +kernel
theorem dX2_penceOf_11 : decode cX2_penceOf 11 = .ok (.iconst 0, 1) := by decide +kernel
theorem dX2_penceOf_12 : decode cX2_penceOf 12 = .ok (.istore 6, 2) := by decide +kernel
theorem dX2_penceOf_14 : decode cX2_penceOf 14 = .ok (.iload 6, 2) := by decide +kernel
theorem dX2_penceOf_16 : decode cX2_penceOf 16 = .ok (.iload 4, 2) := by decide +kernel
theorem dX2_penceOf_18 : decode cX2_penceOf 18 = .ok (.if_icmp .ge 24, 3) := by decide +kernel
theorem dX2_penceOf_21 : decode cX2_penceOf 21 = .ok (.iload 5, 2) := by decide +kernel
theorem dX2_penceOf_23 : decode cX2_penceOf 23 = .ok (.aload_n 1, 1) := by decide +kernel
theorem dX2_penceOf_24 : decode cX2_penceOf 24 = .ok (.getfield 34, 3) := by decide +kernel
theorem dX2_penceOf_27 : decode cX2_penceOf 27 = .ok (.bipush 32, 2) := by decide +kernel
theorem dX2_penceOf_29 : decode cX2_penceOf 29 = .ok (.iload 6, 2) := by decide +kernel
theorem dX2_penceOf_31 : decode cX2_penceOf 31 = .ok (.iadd, 1) := by decide +kernel
theorem dX2_penceOf_32 : decode cX2_penceOf 32 = .ok (.iaload, 1) := by decide +kernel
theorem dX2_penceOf_33 : decode cX2_penceOf 33 = .ok (.iadd, 1) := by decide +kernel
theorem dX2_penceOf_34 : decode cX2_penceOf 34 = .ok (.istore 5, 2) := by decide +kernel
theorem dX2_penceOf_36 : decode cX2_penceOf 36 = .ok (.iinc 6 1, 3) := by decide +kernel
theorem dX2_penceOf_39 : decode cX2_penceOf 39 = .ok (.goto (-25), 3) := by decide +kernel
theorem dX2_penceOf_42 : decode cX2_penceOf 42 = .ok (.iload 5, 2) := by decide +kernel
theorem dX2_penceOf_44 : decode cX2_penceOf 44 = .ok (.iconst 1, 1) := by decide +kernel
theorem dX2_penceOf_45 : decode cX2_penceOf 45 = .ok (.if_icmp .ge 5, 3) := by decide +kernel
theorem dX2_penceOf_48 : decode cX2_penceOf 48 = .ok (.iconst 0, 1) := by decide +kernel
theorem dX2_penceOf_49 : decode cX2_penceOf 49 = .ok (.ireturn, 1) := by decide +kernel
theorem dX2_penceOf_50 : decode cX2_penceOf 50 = .ok (.iload_n 2, 1) := by decide +kernel
theorem dX2_penceOf_51 : decode cX2_penceOf 51 = .ok (.aload_n 1, 1) := by decide +kernel
theorem dX2_penceOf_52 : decode cX2_penceOf 52 = .ok (.getfield 34, 3) := by decide +kernel
theorem dX2_penceOf_55 : decode cX2_penceOf 55 = .ok (.bipush 32, 2) := by decide +kernel
theorem dX2_penceOf_57 : decode cX2_penceOf 57 = .ok (.iload_n 3, 1) := by decide +kernel
theorem dX2_penceOf_58 : decode cX2_penceOf 58 = .ok (.iadd, 1) := by decide +kernel
theorem dX2_penceOf_59 : decode cX2_penceOf 59 = .ok (.iaload, 1) := by decide +kernel
theorem dX2_penceOf_60 : decode cX2_penceOf 60 = .ok (.imul, 1) := by decide +kernel
theorem dX2_penceOf_61 : decode cX2_penceOf 61 = .ok (.iload 5, 2) := by decide +kernel
theorem dX2_penceOf_63 : decode cX2_penceOf 63 = .ok (.irem, 1) := by decide +kernel
theorem dX2_penceOf_64 : decode cX2_penceOf 64 = .ok (.istore 6, 2) := by decide +kernel
theorem dX2_penceOf_66 : decode cX2_penceOf 66 = .ok (.iload_n 2, 1) := by decide +kernel
theorem dX2_penceOf_67 : decode cX2_penceOf 67 = .ok (.istore 7, 2) := by decide +kernel
theorem dX2_penceOf_69 : decode cX2_penceOf 69 = .ok (.iconst 0, 1) := by decide +kernel
theorem dX2_penceOf_70 : decode cX2_penceOf 70 = .ok (.istore 8, 2) := by decide +kernel
theorem dX2_penceOf_72 : decode cX2_penceOf 72 = .ok (.iconst 0, 1) := by decide +kernel
theorem dX2_penceOf_73 : decode cX2_penceOf 73 = .ok (.istore 9, 2) := by decide +kernel
theorem dX2_penceOf_75 : decode cX2_penceOf 75 = .ok (.iload 9, 2) := by decide +kernel
theorem dX2_penceOf_77 : decode cX2_penceOf 77 = .ok (.iload 4, 2) := by decide +kernel
theorem dX2_penceOf_79 : decode cX2_penceOf 79 = .ok (.if_icmp .ge 81, 3) := by decide +kernel
theorem dX2_penceOf_82 : decode cX2_penceOf 82 = .ok (.iload_n 2, 1) := by decide +kernel
theorem dX2_penceOf_83 : decode cX2_penceOf 83 = .ok (.aload_n 1, 1) := by decide +kernel
theorem dX2_penceOf_84 : decode cX2_penceOf 84 = .ok (.getfield 34, 3) := by decide +kernel
theorem dX2_penceOf_87 : decode cX2_penceOf 87 = .ok (.bipush 32, 2) := by decide +kernel
theorem dX2_penceOf_89 : decode cX2_penceOf 89 = .ok (.iload 9, 2) := by decide +kernel
theorem dX2_penceOf_91 : decode cX2_penceOf 91 = .ok (.iadd, 1) := by decide +kernel
theorem dX2_penceOf_92 : decode cX2_penceOf 92 = .ok (.iaload, 1) := by decide +kernel
theorem dX2_penceOf_93 : decode cX2_penceOf 93 = .ok (.imul, 1) := by decide +kernel
theorem dX2_penceOf_94 : decode cX2_penceOf 94 = .ok (.istore 10, 2) := by decide +kernel
theorem dX2_penceOf_96 : decode cX2_penceOf 96 = .ok (.iload 7, 2) := by decide +kernel
theorem dX2_penceOf_98 : decode cX2_penceOf 98 = .ok (.iload 10, 2) := by decide +kernel
theorem dX2_penceOf_100 : decode cX2_penceOf 100 = .ok (.iload 5, 2) := by decide +kernel
theorem dX2_penceOf_102 : decode cX2_penceOf 102 = .ok (.idiv, 1) := by decide +kernel
theorem dX2_penceOf_103 : decode cX2_penceOf 103 = .ok (.isub, 1) := by decide +kernel
theorem dX2_penceOf_104 : decode cX2_penceOf 104 = .ok (.istore 7, 2) := by decide +kernel
theorem dX2_penceOf_106 : decode cX2_penceOf 106 = .ok (.iload 10, 2) := by decide +kernel
theorem dX2_penceOf_108 : decode cX2_penceOf 108 = .ok (.iload 5, 2) := by decide +kernel
theorem dX2_penceOf_110 : decode cX2_penceOf 110 = .ok (.irem, 1) := by decide +kernel
theorem dX2_penceOf_111 : decode cX2_penceOf 111 = .ok (.iload 6, 2) := by decide +kernel
theorem dX2_penceOf_113 : decode cX2_penceOf 113 = .ok (.if_icmp .gt 19, 3) := by decide +kernel
theorem dX2_penceOf_116 : decode cX2_penceOf 116 = .ok (.iload 10, 2) := by decide +kernel
theorem dX2_penceOf_118 : decode cX2_penceOf 118 = .ok (.iload 5, 2) := by decide +kernel
theorem dX2_penceOf_120 : decode cX2_penceOf 120 = .ok (.irem, 1) := by decide +kernel
theorem dX2_penceOf_121 : decode cX2_penceOf 121 = .ok (.iload 6, 2) := by decide +kernel
theorem dX2_penceOf_123 : decode cX2_penceOf 123 = .ok (.if_icmp .ne 13, 3) := by decide +kernel
theorem dX2_penceOf_126 : decode cX2_penceOf 126 = .ok (.iload 9, 2) := by decide +kernel
theorem dX2_penceOf_128 : decode cX2_penceOf 128 = .ok (.iload_n 3, 1) := by decide +kernel
theorem dX2_penceOf_129 : decode cX2_penceOf 129 = .ok (.if_icmp .ge 7, 3) := by decide +kernel
theorem dX2_penceOf_132 : decode cX2_penceOf 132 = .ok (.iconst 1, 1) := by decide +kernel
theorem dX2_penceOf_133 : decode cX2_penceOf 133 = .ok (.goto 4, 3) := by decide +kernel
theorem dX2_penceOf_136 : decode cX2_penceOf 136 = .ok (.iconst 0, 1) := by decide +kernel
theorem dX2_penceOf_137 : decode cX2_penceOf 137 = .ok (.istore 11, 2) := by decide +kernel
theorem dX2_penceOf_139 : decode cX2_penceOf 139 = .ok (.iload 8, 2) := by decide +kernel
theorem dX2_penceOf_141 : decode cX2_penceOf 141 = .ok (.iload 11, 2) := by decide +kernel
theorem dX2_penceOf_143 : decode cX2_penceOf 143 = .ok (.ifCond .eq 7, 3) := by decide +kernel
theorem dX2_penceOf_146 : decode cX2_penceOf 146 = .ok (.iconst 1, 1) := by decide +kernel
theorem dX2_penceOf_147 : decode cX2_penceOf 147 = .ok (.goto 4, 3) := by decide +kernel
theorem dX2_penceOf_150 : decode cX2_penceOf 150 = .ok (.iconst 0, 1) := by decide +kernel
theorem dX2_penceOf_151 : decode cX2_penceOf 151 = .ok (.iadd, 1) := by decide +kernel
theorem dX2_penceOf_152 : decode cX2_penceOf 152 = .ok (.istore 8, 2) := by decide +kernel
theorem dX2_penceOf_154 : decode cX2_penceOf 154 = .ok (.iinc 9 1, 3) := by decide +kernel
theorem dX2_penceOf_157 : decode cX2_penceOf 157 = .ok (.goto (-82), 3) := by decide +kernel
theorem dX2_penceOf_160 : decode cX2_penceOf 160 = .ok (.iload_n 2, 1) := by decide +kernel
theorem dX2_penceOf_161 : decode cX2_penceOf 161 = .ok (.aload_n 1, 1) := by decide +kernel
theorem dX2_penceOf_162 : decode cX2_penceOf 162 = .ok (.getfield 34, 3) := by decide +kernel
theorem dX2_penceOf_165 : decode cX2_penceOf 165 = .ok (.bipush 32, 2) := by decide +kernel
theorem dX2_penceOf_167 : decode cX2_penceOf 167 = .ok (.iload_n 3, 1) := by decide +kernel
theorem dX2_penceOf_168 : decode cX2_penceOf 168 = .ok (.iadd, 1) := by decide +kernel
theorem dX2_penceOf_169 : decode cX2_penceOf 169 = .ok (.iaload, 1) := by decide +kernel
theorem dX2_penceOf_170 : decode cX2_penceOf 170 = .ok (.imul, 1) := by decide +kernel
theorem dX2_penceOf_171 : decode cX2_penceOf 171 = .ok (.iload 5, 2) := by decide +kernel
theorem dX2_penceOf_173 : decode cX2_penceOf 173 = .ok (.idiv, 1) := by decide +kernel
theorem dX2_penceOf_174 : decode cX2_penceOf 174 = .ok (.iload 8, 2) := by decide +kernel
theorem dX2_penceOf_176 : decode cX2_penceOf 176 = .ok (.iload 7, 2) := by decide +kernel
theorem dX2_penceOf_178 : decode cX2_penceOf 178 = .ok (.if_icmp .ge 7, 3) := by decide +kernel
theorem dX2_penceOf_181 : decode cX2_penceOf 181 = .ok (.iconst 1, 1) := by decide +kernel
theorem dX2_penceOf_182 : decode cX2_penceOf 182 = .ok (.goto 4, 3) := by decide +kernel
theorem dX2_penceOf_185 : decode cX2_penceOf 185 = .ok (.iconst 0, 1) := by decide +kernel
theorem dX2_penceOf_186 : decode cX2_penceOf 186 = .ok (.iadd, 1) := by decide +kernel
theorem dX2_penceOf_187 : decode cX2_penceOf 187 = .ok (.ireturn, 1) := by decide +kernel
theorem dX2_restsOf_0 : decode cX2_restsOf 0 = .ok (.iconst 0, 1) := by decide +kernel
theorem dX2_restsOf_1 : decode cX2_restsOf 1 = .ok (.istore_n 3, 1) := by decide +kernel
theorem dX2_restsOf_2 : decode cX2_restsOf 2 = .ok (.iconst (-1), 1) := by decide +kernel
theorem dX2_restsOf_3 : decode cX2_restsOf 3 = .ok (.istore 4, 2) := by decide +kernel
theorem dX2_restsOf_5 : decode cX2_restsOf 5 = .ok (.iconst 0, 1) := by decide +kernel
theorem dX2_restsOf_6 : decode cX2_restsOf 6 = .ok (.istore 5, 2) := by decide +kernel
theorem dX2_restsOf_8 : decode cX2_restsOf 8 = .ok (.iload 5, 2) := by decide +kernel
theorem dX2_restsOf_10 : decode cX2_restsOf 10 = .ok (.iload_n 1, 1) := by decide +kernel
theorem dX2_restsOf_11 : decode cX2_restsOf 11 = .ok (.iload_n 1, 1) := by decide +kernel
theorem dX2_restsOf_12 : decode cX2_restsOf 12 = .ok (.imul, 1) := by decide +kernel
theorem dX2_restsOf_13 : decode cX2_restsOf 13 = .ok (.if_icmp .ge 35, 3) := by decide +kernel
theorem dX2_restsOf_16 : decode cX2_restsOf 16 = .ok (.aload_n 0, 1) := by decide +kernel
theorem dX2_restsOf_17 : decode cX2_restsOf 17 = .ok (.iload 5, 2) := by decide +kernel
theorem dX2_restsOf_19 : decode cX2_restsOf 19 = .ok (.iload_n 1, 1) := by decide +kernel
theorem dX2_restsOf_20 : decode cX2_restsOf 20 = .ok (.invokevirtual 90, 3) := by decide +kernel
theorem dX2_restsOf_23 : decode cX2_restsOf 23 = .ok (.ifCond .eq 19, 3) := by decide +kernel
theorem dX2_restsOf_26 : decode cX2_restsOf 26 = .ok (.iload_n 3, 1) := by decide +kernel
theorem dX2_restsOf_27 : decode cX2_restsOf 27 = .ok (.ifCond .ne 8, 3) := by decide +kernel
theorem dX2_restsOf_30 : decode cX2_restsOf 30 = .ok (.iload 5, 2) := by decide +kernel
theorem dX2_restsOf_32 : decode cX2_restsOf 32 = .ok (.goto 5, 3) := by decide +kernel
theorem dX2_restsOf_35 : decode cX2_restsOf 35 = .ok (.iload 4, 2) := by decide +kernel
theorem dX2_restsOf_37 : decode cX2_restsOf 37 = .ok (.istore 4, 2) := by decide +kernel
theorem dX2_restsOf_39 : decode cX2_restsOf 39 = .ok (.iinc 3 1, 3) := by decide +kernel
theorem dX2_restsOf_42 : decode cX2_restsOf 42 = .ok (.iinc 5 1, 3) := by decide +kernel
theorem dX2_restsOf_45 : decode cX2_restsOf 45 = .ok (.goto (-37), 3) := by decide +kernel
theorem dX2_restsOf_48 : decode cX2_restsOf 48 = .ok (.iload_n 2, 1) := by decide +kernel
theorem dX2_restsOf_49 : decode cX2_restsOf 49 = .ok (.ifCond .ne 5, 3) := by decide +kernel
theorem dX2_restsOf_52 : decode cX2_restsOf 52 = .ok (.iload_n 3, 1) := by decide +kernel
theorem dX2_restsOf_53 : decode cX2_restsOf 53 = .ok (.ireturn, 1) := by decide +kernel
theorem dX2_restsOf_54 : decode cX2_restsOf 54 = .ok (.iload 4, 2) := by decide +kernel
theorem dX2_restsOf_56 : decode cX2_restsOf 56 = .ok (.iconst (-1), 1) := by decide +kernel
theorem dX2_restsOf_57 : decode cX2_restsOf 57 = .ok (.if_icmp .eq 8, 3) := by decide +kernel
theorem dX2_restsOf_60 : decode cX2_restsOf 60 = .ok (.iload_n 1, 1) := by decide +kernel
theorem dX2_restsOf_61 : decode cX2_restsOf 61 = .ok (.iconst 1, 1) := by decide +kernel
theorem dX2_restsOf_62 : decode cX2_restsOf 62 = .ok (.if_icmp .ge 6, 3) := by decide +kernel
theorem dX2_restsOf_65 : decode cX2_restsOf 65 = .ok (.bipush (-2), 2) := by decide +kernel
theorem dX2_restsOf_67 : decode cX2_restsOf 67 = .ok (.ireturn, 1) := by decide +kernel
theorem dX2_restsOf_68 : decode cX2_restsOf 68 = .ok (.iload_n 2, 1) := by decide +kernel
theorem dX2_restsOf_69 : decode cX2_restsOf 69 = .ok (.iconst 1, 1) := by decide +kernel
theorem dX2_restsOf_70 : decode cX2_restsOf 70 = .ok (.if_icmp .ne 10, 3) := by decide +kernel
theorem dX2_restsOf_73 : decode cX2_restsOf 73 = .ok (.iload 4, 2) := by decide +kernel
theorem dX2_restsOf_75 : decode cX2_restsOf 75 = .ok (.iload_n 1, 1) := by decide +kernel
theorem dX2_restsOf_76 : decode cX2_restsOf 76 = .ok (.idiv, 1) := by decide +kernel
theorem dX2_restsOf_77 : decode cX2_restsOf 77 = .ok (.goto 7, 3) := by decide +kernel
theorem dX2_restsOf_80 : decode cX2_restsOf 80 = .ok (.iload 4, 2) := by decide +kernel
theorem dX2_restsOf_82 : decode cX2_restsOf 82 = .ok (.iload_n 1, 1) := by decide +kernel
theorem dX2_restsOf_83 : decode cX2_restsOf 83 = .ok (.irem, 1) := by decide +kernel
theorem dX2_restsOf_84 : decode cX2_restsOf 84 = .ok (.ireturn, 1) := by decide +kernel
theorem dX8_addStep_0 : decode cX8_addStep 0 = .ok (.aload_n 0, 1) := by decide +kernel
theorem dX8_addStep_1 : decode cX8_addStep 1 = .ok (.getfield 17, 3) := by decide +kernel
theorem dX8_addStep_4 : decode cX8_addStep 4 = .ok (.sipush 412, 3) := by decide +kernel
theorem dX8_addStep_7 : decode cX8_addStep 7 = .ok (.if_icmp .ge 28, 3) := by decide +kernel
theorem dX8_addStep_10 : decode cX8_addStep 10 = .ok (.aload_n 0, 1) := by decide +kernel
theorem dX8_addStep_11 : decode cX8_addStep 11 = .ok (.getfield 13, 3) := by decide +kernel
theorem dX8_addStep_14 : decode cX8_addStep 14 = .ok (.aload_n 0, 1) := by decide +kernel
theorem dX8_addStep_15 : decode cX8_addStep 15 = .ok (.getfield 17, 3) := by decide +kernel
theorem dX8_addStep_18 : decode cX8_addStep 18 = .ok (.iload_n 1, 1) := by decide +kernel
theorem dX8_addStep_19 : decode cX8_addStep 19 = .ok (.bipush 32, 2) := by decide +kernel
theorem dX8_addStep_21 : decode cX8_addStep 21 = .ok (.iload_n 2, 1) := by decide +kernel
theorem dX8_addStep_22 : decode cX8_addStep 22 = .ok (.imul, 1) := by decide +kernel
theorem dX8_addStep_23 : decode cX8_addStep 23 = .ok (.iadd, 1) := by decide +kernel
theorem dX8_addStep_24 : decode cX8_addStep 24 = .ok (.iastore, 1) := by decide +kernel
theorem dX8_addStep_25 : decode cX8_addStep 25 = .ok (.aload_n 0, 1) := by decide +kernel
theorem dX8_addStep_26 : decode cX8_addStep 26 = .ok (.dup, 1) := by decide +kernel
theorem dX8_addStep_27 : decode cX8_addStep 27 = .ok (.getfield 17, 3) := by decide +kernel
theorem dX8_addStep_30 : decode cX8_addStep 30 = .ok (.iconst 1, 1) := by decide +kernel
theorem dX8_addStep_31 : decode cX8_addStep 31 = .ok (.iadd, 1) := by decide +kernel
theorem dX8_addStep_32 : decode cX8_addStep 32 = .ok (.putfield 17, 3) := by decide +kernel
theorem dX8_addStep_35 : decode cX8_addStep 35 = .ok (.return_, 1) := by decide +kernel
theorem dX8_readSum_0 : decode cX8_readSum 0 = .ok (.iconst (-1), 1) := by decide +kernel
theorem dX8_readSum_1 : decode cX8_readSum 1 = .ok (.istore_n 2, 1) := by decide +kernel
theorem dX8_readSum_2 : decode cX8_readSum 2 = .ok (.aload_n 0, 1) := by decide +kernel
theorem dX8_readSum_3 : decode cX8_readSum 3 = .ok (.aload_n 1, 1) := by decide +kernel
theorem dX8_readSum_4 : decode cX8_readSum 4 = .ok (.invokevirtual 92, 3) := by decide +kernel
theorem dX8_readSum_7 : decode cX8_readSum 7 = .ok (.iconst 0, 1) := by decide +kernel
theorem dX8_readSum_8 : decode cX8_readSum 8 = .ok (.istore_n 3, 1) := by decide +kernel
theorem dX8_readSum_9 : decode cX8_readSum 9 = .ok (.iload_n 3, 1) := by decide +kernel
theorem dX8_readSum_10 : decode cX8_readSum 10 = .ok (.sipush 400, 3) := by decide +kernel
theorem dX8_readSum_13 : decode cX8_readSum 13 = .ok (.if_icmp .ge 82, 3) := by decide +kernel
theorem dX8_readSum_16 : decode cX8_readSum 16 = .ok (.aload_n 1, 1) := by decide +kernel
theorem dX8_readSum_17 : decode cX8_readSum 17 = .ok (.getfield 35, 3) := by decide +kernel
theorem dX8_readSum_20 : decode cX8_readSum 20 = .ok (.ifCond .ne 75, 3) := by decide +kernel
theorem dX8_readSum_23 : decode cX8_readSum 23 = .ok (.aload_n 1, 1) := by decide +kernel
theorem dX8_readSum_24 : decode cX8_readSum 24 = .ok (.invokestatic 95, 3) := by decide +kernel
theorem dX8_readSum_27 : decode cX8_readSum 27 = .ok (.istore 4, 2) := by decide +kernel
theorem dX8_readSum_29 : decode cX8_readSum 29 = .ok (.iload 4, 2) := by decide +kernel
theorem dX8_readSum_31 : decode cX8_readSum 31 = .ok (.iconst (-1), 1) := by decide +kernel
theorem dX8_readSum_32 : decode cX8_readSum 32 = .ok (.if_icmp .ne 6, 3) := by decide +kernel
theorem dX8_readSum_35 : decode cX8_readSum 35 = .ok (.goto 60, 3) := by decide +kernel
theorem dX8_readSum_38 : decode cX8_readSum 38 = .ok (.aload_n 1, 1) := by decide +kernel
theorem dX8_readSum_39 : decode cX8_readSum 39 = .ok (.invokevirtual 60, 3) := by decide +kernel
theorem dX8_readSum_42 : decode cX8_readSum 42 = .ok (.iload 4, 2) := by decide +kernel
theorem dX8_readSum_44 : decode cX8_readSum 44 = .ok (.iconst 5, 1) := by decide +kernel
theorem dX8_readSum_45 : decode cX8_readSum 45 = .ok (.if_icmp .eq 10, 3) := by decide +kernel
theorem dX8_readSum_48 : decode cX8_readSum 48 = .ok (.iload 4, 2) := by decide +kernel
theorem dX8_readSum_50 : decode cX8_readSum 50 = .ok (.bipush 6, 2) := by decide +kernel
theorem dX8_readSum_52 : decode cX8_readSum 52 = .ok (.if_icmp .ne 25, 3) := by decide +kernel
theorem dX8_readSum_55 : decode cX8_readSum 55 = .ok (.iload_n 2, 1) := by decide +kernel
theorem dX8_readSum_56 : decode cX8_readSum 56 = .ok (.iconst (-1), 1) := by decide +kernel
theorem dX8_readSum_57 : decode cX8_readSum 57 = .ok (.if_icmp .eq 9, 3) := by decide +kernel
theorem dX8_readSum_60 : decode cX8_readSum 60 = .ok (.aload_n 0, 1) := by decide +kernel
theorem dX8_readSum_61 : decode cX8_readSum 61 = .ok (.iload_n 2, 1) := by decide +kernel
theorem dX8_readSum_62 : decode cX8_readSum 62 = .ok (.iconst 0, 1) := by decide +kernel
theorem dX8_readSum_63 : decode cX8_readSum 63 = .ok (.invokevirtual 70, 3) := by decide +kernel
theorem dX8_readSum_66 : decode cX8_readSum 66 = .ok (.iload 4, 2) := by decide +kernel
theorem dX8_readSum_68 : decode cX8_readSum 68 = .ok (.istore_n 2, 1) := by decide +kernel
theorem dX8_readSum_69 : decode cX8_readSum 69 = .ok (.aload_n 0, 1) := by decide +kernel
theorem dX8_readSum_70 : decode cX8_readSum 70 = .ok (.aload_n 1, 1) := by decide +kernel
theorem dX8_readSum_71 : decode cX8_readSum 71 = .ok (.invokevirtual 92, 3) := by decide +kernel
theorem dX8_readSum_74 : decode cX8_readSum 74 = .ok (.goto 15, 3) := by decide +kernel
theorem dX8_readSum_77 : decode cX8_readSum 77 = .ok (.aload_n 0, 1) := by decide +kernel
theorem dX8_readSum_78 : decode cX8_readSum 78 = .ok (.aload_n 1, 1) := by decide +kernel
theorem dX8_readSum_79 : decode cX8_readSum 79 = .ok (.invokevirtual 92, 3) := by decide +kernel
theorem dX8_readSum_82 : decode cX8_readSum 82 = .ok (.aload_n 0, 1) := by decide +kernel
theorem dX8_readSum_83 : decode cX8_readSum 83 = .ok (.iload 4, 2) := by decide +kernel
theorem dX8_readSum_85 : decode cX8_readSum 85 = .ok (.iconst 0, 1) := by decide +kernel
theorem dX8_readSum_86 : decode cX8_readSum 86 = .ok (.invokevirtual 70, 3) := by decide +kernel
theorem dX8_readSum_89 : decode cX8_readSum 89 = .ok (.iinc 3 1, 3) := by decide +kernel
theorem dX8_readSum_92 : decode cX8_readSum 92 = .ok (.goto (-83), 3) := by decide +kernel
theorem dX8_readSum_95 : decode cX8_readSum 95 = .ok (.iload_n 2, 1) := by decide +kernel
theorem dX8_readSum_96 : decode cX8_readSum 96 = .ok (.iconst (-1), 1) := by decide +kernel
theorem dX8_readSum_97 : decode cX8_readSum 97 = .ok (.if_icmp .eq 9, 3) := by decide +kernel
theorem dX8_readSum_100 : decode cX8_readSum 100 = .ok (.aload_n 0, 1) := by decide +kernel
theorem dX8_readSum_101 : decode cX8_readSum 101 = .ok (.iload_n 2, 1) := by decide +kernel
theorem dX8_readSum_102 : decode cX8_readSum 102 = .ok (.iconst 0, 1) := by decide +kernel
theorem dX8_readSum_103 : decode cX8_readSum 103 = .ok (.invokevirtual 70, 3) := by decide +kernel
theorem dX8_readSum_106 : decode cX8_readSum 106 = .ok (.return_, 1) := by decide +kernel
theorem dX0_takeBack_0 : decode cX0_takeBack 0 = .ok (.aload_n 0, 1) := by decide +kernel
theorem dX0_takeBack_1 : decode cX0_takeBack 1 = .ok (.getfield 20, 3) := by decide +kernel
theorem dX0_takeBack_4 : decode cX0_takeBack 4 = .ok (.ifCond .le 49, 3) := by decide +kernel
theorem dX0_takeBack_7 : decode cX0_takeBack 7 = .ok (.aload_n 0, 1) := by decide +kernel
theorem dX0_takeBack_8 : decode cX0_takeBack 8 = .ok (.aload_n 0, 1) := by decide +kernel
theorem dX0_takeBack_9 : decode cX0_takeBack 9 = .ok (.getfield 16, 3) := by decide +kernel
theorem dX0_takeBack_12 : decode cX0_takeBack 12 = .ok (.bipush 20, 2) := by decide +kernel
theorem dX0_takeBack_14 : decode cX0_takeBack 14 = .ok (.iadd, 1) := by decide +kernel
theorem dX0_takeBack_15 : decode cX0_takeBack 15 = .ok (.iconst 1, 1) := by decide +kernel
theorem dX0_takeBack_16 : decode cX0_takeBack 16 = .ok (.isub, 1) := by decide +kernel
theorem dX0_takeBack_17 : decode cX0_takeBack 17 = .ok (.bipush 20, 2) := by decide +kernel
theorem dX0_takeBack_19 : decode cX0_takeBack 19 = .ok (.irem, 1) := by decide +kernel
theorem dX0_takeBack_20 : decode cX0_takeBack 20 = .ok (.putfield 16, 3) := by decide +kernel
theorem dX0_takeBack_23 : decode cX0_takeBack 23 = .ok (.aload_n 0, 1) := by decide +kernel
theorem dX0_takeBack_24 : decode cX0_takeBack 24 = .ok (.dup, 1) := by decide +kernel
theorem dX0_takeBack_25 : decode cX0_takeBack 25 = .ok (.getfield 20, 3) := by decide +kernel
theorem dX0_takeBack_28 : decode cX0_takeBack 28 = .ok (.iconst 1, 1) := by decide +kernel
theorem dX0_takeBack_29 : decode cX0_takeBack 29 = .ok (.isub, 1) := by decide +kernel
theorem dX0_takeBack_30 : decode cX0_takeBack 30 = .ok (.putfield 20, 3) := by decide +kernel
theorem dX0_takeBack_33 : decode cX0_takeBack 33 = .ok (.aload_n 0, 1) := by decide +kernel
theorem dX0_takeBack_34 : decode cX0_takeBack 34 = .ok (.getfield 13, 3) := by decide +kernel
theorem dX0_takeBack_37 : decode cX0_takeBack 37 = .ok (.aload_n 0, 1) := by decide +kernel
theorem dX0_takeBack_38 : decode cX0_takeBack 38 = .ok (.getfield 16, 3) := by decide +kernel
theorem dX0_takeBack_41 : decode cX0_takeBack 41 = .ok (.aaload, 1) := by decide +kernel
theorem dX0_takeBack_42 : decode cX0_takeBack 42 = .ok (.iconst 0, 1) := by decide +kernel
theorem dX0_takeBack_43 : decode cX0_takeBack 43 = .ok (.aload_n 1, 1) := by decide +kernel
theorem dX0_takeBack_44 : decode cX0_takeBack 44 = .ok (.getfield 23, 3) := by decide +kernel
theorem dX0_takeBack_47 : decode cX0_takeBack 47 = .ok (.iconst 0, 1) := by decide +kernel
theorem dX0_takeBack_48 : decode cX0_takeBack 48 = .ok (.bipush 63, 2) := by decide +kernel
theorem dX0_takeBack_50 : decode cX0_takeBack 50 = .ok (.invokestatic 27, 3) := by decide +kernel
theorem dX0_takeBack_53 : decode cX0_takeBack 53 = .ok (.return_, 1) := by decide +kernel
theorem dX10_advance_0 : decode cX10_advance 0 = .ok (.aload_n 0, 1) := by decide +kernel
theorem dX10_advance_1 : decode cX10_advance 1 = .ok (.getfield 31, 3) := by decide +kernel
theorem dX10_advance_4 : decode cX10_advance 4 = .ok (.iconst 1, 1) := by decide +kernel
theorem dX10_advance_5 : decode cX10_advance 5 = .ok (.iadd, 1) := by decide +kernel
theorem dX10_advance_6 : decode cX10_advance 6 = .ok (.aload_n 0, 1) := by decide +kernel
theorem dX10_advance_7 : decode cX10_advance 7 = .ok (.getfield 28, 3) := by decide +kernel
theorem dX10_advance_10 : decode cX10_advance 10 = .ok (.if_icmp .ge 52, 3) := by decide +kernel
theorem dX10_advance_13 : decode cX10_advance 13 = .ok (.aload_n 0, 1) := by decide +kernel
theorem dX10_advance_14 : decode cX10_advance 14 = .ok (.dup, 1) := by decide +kernel
theorem dX10_advance_15 : decode cX10_advance 15 = .ok (.getfield 31, 3) := by decide +kernel
theorem dX10_advance_18 : decode cX10_advance 18 = .ok (.iconst 1, 1) := by decide +kernel
theorem dX10_advance_19 : decode cX10_advance 19 = .ok (.iadd, 1) := by decide +kernel
theorem dX10_advance_20 : decode cX10_advance 20 = .ok (.putfield 31, 3) := by decide +kernel
theorem dX10_advance_23 : decode cX10_advance 23 = .ok (.aload_n 0, 1) := by decide +kernel
theorem dX10_advance_24 : decode cX10_advance 24 = .ok (.aload_n 0, 1) := by decide +kernel
theorem dX10_advance_25 : decode cX10_advance 25 = .ok (.getfield 19, 3) := by decide +kernel
theorem dX10_advance_28 : decode cX10_advance 28 = .ok (.aload_n 0, 1) := by decide +kernel
theorem dX10_advance_29 : decode cX10_advance 29 = .ok (.getfield 31, 3) := by decide +kernel
theorem dX10_advance_32 : decode cX10_advance 32 = .ok (.iaload, 1) := by decide +kernel
theorem dX10_advance_33 : decode cX10_advance 33 = .ok (.putfield 34, 3) := by decide +kernel
theorem dX10_advance_36 : decode cX10_advance 36 = .ok (.aload_n 0, 1) := by decide +kernel
theorem dX10_advance_37 : decode cX10_advance 37 = .ok (.aload_n 0, 1) := by decide +kernel
theorem dX10_advance_38 : decode cX10_advance 38 = .ok (.getfield 22, 3) := by decide +kernel
theorem dX10_advance_41 : decode cX10_advance 41 = .ok (.aload_n 0, 1) := by decide +kernel
theorem dX10_advance_42 : decode cX10_advance 42 = .ok (.getfield 31, 3) := by decide +kernel
theorem dX10_advance_45 : decode cX10_advance 45 = .ok (.iaload, 1) := by decide +kernel
theorem dX10_advance_46 : decode cX10_advance 46 = .ok (.putfield 37, 3) := by decide +kernel
theorem dX10_advance_49 : decode cX10_advance 49 = .ok (.aload_n 0, 1) := by decide +kernel
theorem dX10_advance_50 : decode cX10_advance 50 = .ok (.aload_n 0, 1) := by decide +kernel
theorem dX10_advance_51 : decode cX10_advance 51 = .ok (.getfield 25, 3) := by decide +kernel
theorem dX10_advance_54 : decode cX10_advance 54 = .ok (.aload_n 0, 1) := by decide +kernel
theorem dX10_advance_55 : decode cX10_advance 55 = .ok (.getfield 31, 3) := by decide +kernel
theorem dX10_advance_58 : decode cX10_advance 58 = .ok (.iaload, 1) := by decide +kernel
theorem dX10_advance_59 : decode cX10_advance 59 = .ok (.putfield 40, 3) := by decide +kernel
theorem dX10_advance_62 : decode cX10_advance 62 = .ok (.return_, 1) := by decide +kernel
theorem dX10_hasRoom_0 : decode cX10_hasRoom 0 = .ok (.aload_n 0, 1) := by decide +kernel
theorem dX10_hasRoom_1 : decode cX10_hasRoom 1 = .ok (.getfield 15, 3) := by decide +kernel
theorem dX10_hasRoom_4 : decode cX10_hasRoom 4 = .ok (.iload_n 1, 1) := by decide +kernel
theorem dX10_hasRoom_5 : decode cX10_hasRoom 5 = .ok (.iadd, 1) := by decide +kernel
theorem dX10_hasRoom_6 : decode cX10_hasRoom 6 = .ok (.sipush 400, 3) := by decide +kernel
theorem dX10_hasRoom_9 : decode cX10_hasRoom 9 = .ok (.if_icmp .gt 7, 3) := by decide +kernel
theorem dX10_hasRoom_12 : decode cX10_hasRoom 12 = .ok (.iconst 1, 1) := by decide +kernel
theorem dX10_hasRoom_13 : decode cX10_hasRoom 13 = .ok (.goto 4, 3) := by decide +kernel
theorem dX10_hasRoom_16 : decode cX10_hasRoom 16 = .ok (.iconst 0, 1) := by decide +kernel
theorem dX10_hasRoom_17 : decode cX10_hasRoom 17 = .ok (.ireturn, 1) := by decide +kernel
theorem dX10_isDigit_0 : decode cX10_isDigit 0 = .ok (.aload_n 0, 1) := by decide +kernel
theorem dX10_isDigit_1 : decode cX10_isDigit 1 = .ok (.getfield 11, 3) := by decide +kernel
theorem dX10_isDigit_4 : decode cX10_isDigit 4 = .ok (.iload_n 1, 1) := by decide +kernel
theorem dX10_isDigit_5 : decode cX10_isDigit 5 = .ok (.iaload, 1) := by decide +kernel
theorem dX10_isDigit_6 : decode cX10_isDigit 6 = .ok (.bipush 48, 2) := by decide +kernel
theorem dX10_isDigit_8 : decode cX10_isDigit 8 = .ok (.if_icmp .lt 18, 3) := by decide +kernel
theorem dX10_isDigit_11 : decode cX10_isDigit 11 = .ok (.aload_n 0, 1) := by decide +kernel
theorem dX10_isDigit_12 : decode cX10_isDigit 12 = .ok (.getfield 11, 3) := by decide +kernel
theorem dX10_isDigit_15 : decode cX10_isDigit 15 = .ok (.iload_n 1, 1) := by decide +kernel
theorem dX10_isDigit_16 : decode cX10_isDigit 16 = .ok (.iaload, 1) := by decide +kernel
theorem dX10_isDigit_17 : decode cX10_isDigit 17 = .ok (.bipush 57, 2) := by decide +kernel
theorem dX10_isDigit_19 : decode cX10_isDigit 19 = .ok (.if_icmp .gt 7, 3) := by decide +kernel
theorem dX10_isDigit_22 : decode cX10_isDigit 22 = .ok (.iconst 1, 1) := by decide +kernel
theorem dX10_isDigit_23 : decode cX10_isDigit 23 = .ok (.goto 4, 3) := by decide +kernel
theorem dX10_isDigit_26 : decode cX10_isDigit 26 = .ok (.iconst 0, 1) := by decide +kernel
theorem dX10_isDigit_27 : decode cX10_isDigit 27 = .ok (.ireturn, 1) := by decide +kernel
theorem dX10_isNamed_0 : decode cX10_isNamed 0 = .ok (.iconst 0, 1) := by decide +kernel
theorem dX10_isNamed_1 : decode cX10_isNamed 1 = .ok (.istore 4, 2) := by decide +kernel
theorem dX10_isNamed_3 : decode cX10_isNamed 3 = .ok (.iload 4, 2) := by decide +kernel
theorem dX10_isNamed_5 : decode cX10_isNamed 5 = .ok (.iload_n 3, 1) := by decide +kernel
theorem dX10_isNamed_6 : decode cX10_isNamed 6 = .ok (.if_icmp .ge 32, 3) := by decide +kernel
theorem dX10_isNamed_9 : decode cX10_isNamed 9 = .ok (.aload_n 0, 1) := by decide +kernel
theorem dX10_isNamed_10 : decode cX10_isNamed 10 = .ok (.getfield 11, 3) := by decide +kernel
theorem dX10_isNamed_13 : decode cX10_isNamed 13 = .ok (.iload_n 1, 1) := by decide +kernel
theorem dX10_isNamed_14 : decode cX10_isNamed 14 = .ok (.iload 4, 2) := by decide +kernel
theorem dX10_isNamed_16 : decode cX10_isNamed 16 = .ok (.iadd, 1) := by decide +kernel
theorem dX10_isNamed_17 : decode cX10_isNamed 17 = .ok (.iaload, 1) := by decide +kernel
theorem dX10_isNamed_18 : decode cX10_isNamed 18 = .ok (.ldc 81, 2) := by decide +kernel
theorem dX10_isNamed_20 : decode cX10_isNamed 20 = .ok (.iload_n 2, 1) := by decide +kernel
theorem dX10_isNamed_21 : decode cX10_isNamed 21 = .ok (.iload 4, 2) := by decide +kernel
theorem dX10_isNamed_23 : decode cX10_isNamed 23 = .ok (.iadd, 1) := by decide +kernel
theorem dX10_isNamed_24 : decode cX10_isNamed 24 = .ok (.invokevirtual 88, 3) := by decide +kernel
theorem dX10_isNamed_27 : decode cX10_isNamed 27 = .ok (.if_icmp .eq 5, 3) := by decide +kernel
theorem dX10_isNamed_30 : decode cX10_isNamed 30 = .ok (.iconst 0, 1) := by decide +kernel
theorem dX10_isNamed_31 : decode cX10_isNamed 31 = .ok (.ireturn, 1) := by decide +kernel
theorem dX10_isNamed_32 : decode cX10_isNamed 32 = .ok (.iinc 4 1, 3) := by decide +kernel
theorem dX10_isNamed_35 : decode cX10_isNamed 35 = .ok (.goto (-32), 3) := by decide +kernel
theorem dX10_isNamed_38 : decode cX10_isNamed 38 = .ok (.iconst 1, 1) := by decide +kernel
theorem dX10_isNamed_39 : decode cX10_isNamed 39 = .ok (.ireturn, 1) := by decide +kernel
theorem dX11_bestAim_0 : decode cX11_bestAim 0 = .ok (.aload_n 0, 1) := by decide +kernel
theorem dX11_bestAim_1 : decode cX11_bestAim 1 = .ok (.getfield 43, 3) := by decide +kernel
theorem dX11_bestAim_4 : decode cX11_bestAim 4 = .ok (.getfield 111, 3) := by decide +kernel
theorem dX11_bestAim_7 : decode cX11_bestAim 7 = .ok (.astore_n 3, 1) := by decide +kernel
theorem dX11_bestAim_8 : decode cX11_bestAim 8 = .ok (.aload_n 3, 1) := by decide +kernel
theorem dX11_bestAim_9 : decode cX11_bestAim 9 = .ok (.iload_n 1, 1) := by decide +kernel
theorem dX11_bestAim_10 : decode cX11_bestAim 10 = .ok (.invokevirtual 139, 3) := by decide +kernel
theorem dX11_bestAim_13 : decode cX11_bestAim 13 = .ok (.ifCond .eq 12, 3) := by decide +kernel
theorem dX11_bestAim_16 : decode cX11_bestAim 16 = .ok (.iload_n 2, 1) := by decide +kernel
theorem dX11_bestAim_17 : decode cX11_bestAim 17 = .ok (.iconst 0, 1) := by decide +kernel
theorem dX11_bestAim_18 : decode cX11_bestAim 18 = .ok (.iconst 1, 1) := by decide +kernel
theorem dX11_bestAim_19 : decode cX11_bestAim 19 = .ok (.invokestatic 90, 3) := by decide +kernel
theorem dX11_bestAim_22 : decode cX11_bestAim 22 = .ok (.ifCond .ne 6, 3) := by decide +kernel
theorem dX11_bestAim_25 : decode cX11_bestAim 25 = .ok (.bipush (-2), 2) := by decide +kernel
theorem dX11_bestAim_27 : decode cX11_bestAim 27 = .ok (.ireturn, 1) := by decide +kernel
theorem dX11_bestAim_28 : decode cX11_bestAim 28 = .ok (.aload_n 3, 1) := by decide +kernel
theorem dX11_bestAim_29 : decode cX11_bestAim 29 = .ok (.getfield 124, 3) := by decide +kernel
theorem dX11_bestAim_32 : decode cX11_bestAim 32 = .ok (.bipush 38, 2) := by decide +kernel
theorem dX11_bestAim_34 : decode cX11_bestAim 34 = .ok (.iload_n 1, 1) := by decide +kernel
theorem dX11_bestAim_35 : decode cX11_bestAim 35 = .ok (.iadd, 1) := by decide +kernel
theorem dX11_bestAim_36 : decode cX11_bestAim 36 = .ok (.iaload, 1) := by decide +kernel
theorem dX11_bestAim_37 : decode cX11_bestAim 37 = .ok (.istore 4, 2) := by decide +kernel
theorem dX11_bestAim_39 : decode cX11_bestAim 39 = .ok (.aload_n 3, 1) := by decide +kernel
theorem dX11_bestAim_40 : decode cX11_bestAim 40 = .ok (.getfield 124, 3) := by decide +kernel
theorem dX11_bestAim_43 : decode cX11_bestAim 43 = .ok (.bipush 53, 2) := by decide +kernel
theorem dX11_bestAim_45 : decode cX11_bestAim 45 = .ok (.iload_n 1, 1) := by decide +kernel
theorem dX11_bestAim_46 : decode cX11_bestAim 46 = .ok (.iadd, 1) := by decide +kernel
theorem dX11_bestAim_47 : decode cX11_bestAim 47 = .ok (.iaload, 1) := by decide +kernel
theorem dX11_bestAim_48 : decode cX11_bestAim 48 = .ok (.aload_n 3, 1) := by decide +kernel
theorem dX11_bestAim_49 : decode cX11_bestAim 49 = .ok (.getfield 124, 3) := by decide +kernel
theorem dX11_bestAim_52 : decode cX11_bestAim 52 = .ok (.bipush 26, 2) := by decide +kernel
theorem dX11_bestAim_54 : decode cX11_bestAim 54 = .ok (.iload 4, 2) := by decide +kernel
theorem dX11_bestAim_56 : decode cX11_bestAim 56 = .ok (.iadd, 1) := by decide +kernel
theorem dX11_bestAim_57 : decode cX11_bestAim 57 = .ok (.iaload, 1) := by decide +kernel
theorem dX11_bestAim_58 : decode cX11_bestAim 58 = .ok (.invokestatic 178, 3) := by decide +kernel
theorem dX11_bestAim_61 : decode cX11_bestAim 61 = .ok (.istore 5, 2) := by decide +kernel
theorem dX11_bestAim_63 : decode cX11_bestAim 63 = .ok (.aload_n 3, 1) := by decide +kernel
theorem dX11_bestAim_64 : decode cX11_bestAim 64 = .ok (.iload_n 1, 1) := by decide +kernel
theorem dX11_bestAim_65 : decode cX11_bestAim 65 = .ok (.aload_n 3, 1) := by decide +kernel
theorem dX11_bestAim_66 : decode cX11_bestAim 66 = .ok (.getfield 124, 3) := by decide +kernel
theorem dX11_bestAim_69 : decode cX11_bestAim 69 = .ok (.bipush 6, 2) := by decide +kernel
theorem dX11_bestAim_71 : decode cX11_bestAim 71 = .ok (.iaload, 1) := by decide +kernel
theorem dX11_bestAim_72 : decode cX11_bestAim 72 = .ok (.invokevirtual 197, 3) := by decide +kernel
theorem dX11_bestAim_75 : decode cX11_bestAim 75 = .ok (.istore 6, 2) := by decide +kernel
theorem dX11_bestAim_77 : decode cX11_bestAim 77 = .ok (.iload 6, 2) := by decide +kernel
theorem dX11_bestAim_79 : decode cX11_bestAim 79 = .ok (.iconst (-1), 1) := by decide +kernel
theorem dX11_bestAim_80 : decode cX11_bestAim 80 = .ok (.if_icmp .eq 9, 3) := by decide +kernel
theorem dX11_bestAim_83 : decode cX11_bestAim 83 = .ok (.iload 5, 2) := by decide +kernel
theorem dX11_bestAim_85 : decode cX11_bestAim 85 = .ok (.iconst 1, 1) := by decide +kernel
theorem dX11_bestAim_86 : decode cX11_bestAim 86 = .ok (.if_icmp .ge 13, 3) := by decide +kernel
theorem dX11_bestAim_89 : decode cX11_bestAim 89 = .ok (.iload_n 2, 1) := by decide +kernel
theorem dX11_bestAim_90 : decode cX11_bestAim 90 = .ok (.ifCond .ne 7, 3) := by decide +kernel
theorem dX11_bestAim_93 : decode cX11_bestAim 93 = .ok (.iconst (-1), 1) := by decide +kernel
theorem dX11_bestAim_94 : decode cX11_bestAim 94 = .ok (.goto 4, 3) := by decide +kernel
theorem dX11_bestAim_97 : decode cX11_bestAim 97 = .ok (.iconst 0, 1) := by decide +kernel
theorem dX11_bestAim_98 : decode cX11_bestAim 98 = .ok (.ireturn, 1) := by decide +kernel
theorem dX11_bestAim_99 : decode cX11_bestAim 99 = .ok (.iload_n 2, 1) := by decide +kernel
theorem dX11_bestAim_100 : decode cX11_bestAim 100 = .ok (.ifCond .ne 8, 3) := by decide +kernel
theorem dX11_bestAim_103 : decode cX11_bestAim 103 = .ok (.iload 6, 2) := by decide +kernel
theorem dX11_bestAim_105 : decode cX11_bestAim 105 = .ok (.goto 5, 3) := by decide +kernel
theorem dX11_bestAim_108 : decode cX11_bestAim 108 = .ok (.iload 5, 2) := by decide +kernel
theorem dX11_bestAim_110 : decode cX11_bestAim 110 = .ok (.ireturn, 1) := by decide +kernel
theorem dX11_skilled_0 : decode cX11_skilled 0 = .ok (.aload_n 0, 1) := by decide +kernel
theorem dX11_skilled_1 : decode cX11_skilled 1 = .ok (.getfield 43, 3) := by decide +kernel
theorem dX11_skilled_4 : decode cX11_skilled 4 = .ok (.getfield 111, 3) := by decide +kernel
theorem dX11_skilled_7 : decode cX11_skilled 7 = .ok (.iload_n 1, 1) := by decide +kernel
theorem dX11_skilled_8 : decode cX11_skilled 8 = .ok (.invokevirtual 139, 3) := by decide +kernel
theorem dX11_skilled_11 : decode cX11_skilled 11 = .ok (.ifCond .ne 5, 3) := by decide +kernel
theorem dX11_skilled_14 : decode cX11_skilled 14 = .ok (.iconst (-1), 1) := by decide +kernel
theorem dX11_skilled_15 : decode cX11_skilled 15 = .ok (.ireturn, 1) := by decide +kernel
theorem dX11_skilled_16 : decode cX11_skilled 16 = .ok (.aload_n 0, 1) := by decide +kernel
theorem dX11_skilled_17 : decode cX11_skilled 17 = .ok (.getfield 75, 3) := by decide +kernel
theorem dX11_skilled_20 : decode cX11_skilled 20 = .ok (.aload_n 0, 1) := by decide +kernel
theorem dX11_skilled_21 : decode cX11_skilled 21 = .ok (.getfield 61, 3) := by decide +kernel
theorem dX11_skilled_24 : decode cX11_skilled 24 = .ok (.aload_n 0, 1) := by decide +kernel
theorem dX11_skilled_25 : decode cX11_skilled 25 = .ok (.getfield 43, 3) := by decide +kernel
theorem dX11_skilled_28 : decode cX11_skilled 28 = .ok (.aload_n 0, 1) := by decide +kernel
theorem dX11_skilled_29 : decode cX11_skilled 29 = .ok (.invokevirtual 159, 3) := by decide +kernel
theorem dX11_skilled_32 : decode cX11_skilled 32 = .ok (.bipush 43, 2) := by decide +kernel
theorem dX11_skilled_34 : decode cX11_skilled 34 = .ok (.iload_n 1, 1) := by decide +kernel
theorem dX11_skilled_35 : decode cX11_skilled 35 = .ok (.iadd, 1) := by decide +kernel
theorem dX11_skilled_36 : decode cX11_skilled 36 = .ok (.iconst 1, 1) := by decide +kernel
theorem dX11_skilled_37 : decode cX11_skilled 37 = .ok (.bipush 9, 2) := by decide +kernel
theorem dX11_skilled_39 : decode cX11_skilled 39 = .ok (.invokevirtual 239, 3) := by decide +kernel
theorem dX11_skilled_42 : decode cX11_skilled 42 = .ok (.ireturn, 1) := by decide +kernel
theorem dX12_alikeAt_0 : decode cX12_alikeAt 0 = .ok (.iconst 0, 1) := by decide +kernel
theorem dX12_alikeAt_1 : decode cX12_alikeAt 1 = .ok (.istore_n 2, 1) := by decide +kernel
theorem dX12_alikeAt_2 : decode cX12_alikeAt 2 = .ok (.iconst 0, 1) := by decide +kernel
theorem dX12_alikeAt_3 : decode cX12_alikeAt 3 = .ok (.istore_n 3, 1) := by decide +kernel
theorem dX12_alikeAt_4 : decode cX12_alikeAt 4 = .ok (.iload_n 3, 1) := by decide +kernel
theorem dX12_alikeAt_5 : decode cX12_alikeAt 5 = .ok (.aload_n 0, 1) := by decide +kernel
theorem dX12_alikeAt_6 : decode cX12_alikeAt 6 = .ok (.getfield 267, 3) := by decide +kernel
theorem dX12_alikeAt_9 : decode cX12_alikeAt 9 = .ok (.if_icmp .gt 96, 3) := by decide +kernel
theorem dX12_alikeAt_12 : decode cX12_alikeAt 12 = .ok (.iconst 0, 1) := by decide +kernel
theorem dX12_alikeAt_13 : decode cX12_alikeAt 13 = .ok (.istore 4, 2) := by decide +kernel
theorem dX12_alikeAt_15 : decode cX12_alikeAt 15 = .ok (.iconst 0, 1) := by decide +kernel
theorem dX12_alikeAt_16 : decode cX12_alikeAt 16 = .ok (.istore 5, 2) := by decide +kernel
theorem dX12_alikeAt_18 : decode cX12_alikeAt 18 = .ok (.iload 5, 2) := by decide +kernel
theorem dX12_alikeAt_20 : decode cX12_alikeAt 20 = .ok (.aload_n 0, 1) := by decide +kernel
theorem dX12_alikeAt_21 : decode cX12_alikeAt 21 = .ok (.getfield 267, 3) := by decide +kernel
theorem dX12_alikeAt_24 : decode cX12_alikeAt 24 = .ok (.if_icmp .gt 62, 3) := by decide +kernel
theorem dX12_alikeAt_27 : decode cX12_alikeAt 27 = .ok (.aload_n 0, 1) := by decide +kernel
theorem dX12_alikeAt_28 : decode cX12_alikeAt 28 = .ok (.getfield 70, 3) := by decide +kernel
theorem dX12_alikeAt_31 : decode cX12_alikeAt 31 = .ok (.iload_n 3, 1) := by decide +kernel
theorem dX12_alikeAt_32 : decode cX12_alikeAt 32 = .ok (.baload, 1) := by decide +kernel
theorem dX12_alikeAt_33 : decode cX12_alikeAt 33 = .ok (.ifCond .eq 53, 3) := by decide +kernel
theorem dX12_alikeAt_36 : decode cX12_alikeAt 36 = .ok (.iload 4, 2) := by decide +kernel
theorem dX12_alikeAt_38 : decode cX12_alikeAt 38 = .ok (.aload_n 0, 1) := by decide +kernel
theorem dX12_alikeAt_39 : decode cX12_alikeAt 39 = .ok (.getfield 70, 3) := by decide +kernel
theorem dX12_alikeAt_42 : decode cX12_alikeAt 42 = .ok (.iload 5, 2) := by decide +kernel
theorem dX12_alikeAt_44 : decode cX12_alikeAt 44 = .ok (.baload, 1) := by decide +kernel
theorem dX12_alikeAt_45 : decode cX12_alikeAt 45 = .ok (.ifCond .eq 31, 3) := by decide +kernel
theorem dX12_alikeAt_48 : decode cX12_alikeAt 48 = .ok (.aload_n 0, 1) := by decide +kernel
theorem dX12_alikeAt_49 : decode cX12_alikeAt 49 = .ok (.getfield 74, 3) := by decide +kernel
theorem dX12_alikeAt_52 : decode cX12_alikeAt 52 = .ok (.iconst 5, 1) := by decide +kernel
theorem dX12_alikeAt_53 : decode cX12_alikeAt 53 = .ok (.iload_n 3, 1) := by decide +kernel
theorem dX12_alikeAt_54 : decode cX12_alikeAt 54 = .ok (.imul, 1) := by decide +kernel
theorem dX12_alikeAt_55 : decode cX12_alikeAt 55 = .ok (.iload_n 1, 1) := by decide +kernel
theorem dX12_alikeAt_56 : decode cX12_alikeAt 56 = .ok (.iadd, 1) := by decide +kernel
theorem dX12_alikeAt_57 : decode cX12_alikeAt 57 = .ok (.iaload, 1) := by decide +kernel
theorem dX12_alikeAt_58 : decode cX12_alikeAt 58 = .ok (.aload_n 0, 1) := by decide +kernel
theorem dX12_alikeAt_59 : decode cX12_alikeAt 59 = .ok (.getfield 74, 3) := by decide +kernel
theorem dX12_alikeAt_62 : decode cX12_alikeAt 62 = .ok (.iconst 5, 1) := by decide +kernel
theorem dX12_alikeAt_63 : decode cX12_alikeAt 63 = .ok (.iload 5, 2) := by decide +kernel
theorem dX12_alikeAt_65 : decode cX12_alikeAt 65 = .ok (.imul, 1) := by decide +kernel
theorem dX12_alikeAt_66 : decode cX12_alikeAt 66 = .ok (.iload_n 1, 1) := by decide +kernel
theorem dX12_alikeAt_67 : decode cX12_alikeAt 67 = .ok (.iadd, 1) := by decide +kernel
theorem dX12_alikeAt_68 : decode cX12_alikeAt 68 = .ok (.iaload, 1) := by decide +kernel
theorem dX12_alikeAt_69 : decode cX12_alikeAt 69 = .ok (.if_icmp .ne 7, 3) := by decide +kernel
theorem dX12_alikeAt_72 : decode cX12_alikeAt 72 = .ok (.iconst 1, 1) := by decide +kernel
theorem dX12_alikeAt_73 : decode cX12_alikeAt 73 = .ok (.goto 4, 3) := by decide +kernel
theorem dX12_alikeAt_76 : decode cX12_alikeAt 76 = .ok (.iconst 0, 1) := by decide +kernel
theorem dX12_alikeAt_77 : decode cX12_alikeAt 77 = .ok (.iadd, 1) := by decide +kernel
theorem dX12_alikeAt_78 : decode cX12_alikeAt 78 = .ok (.istore 4, 2) := by decide +kernel
theorem dX12_alikeAt_80 : decode cX12_alikeAt 80 = .ok (.iinc 5 1, 3) := by decide +kernel
theorem dX12_alikeAt_83 : decode cX12_alikeAt 83 = .ok (.goto (-65), 3) := by decide +kernel
theorem dX12_alikeAt_86 : decode cX12_alikeAt 86 = .ok (.iload 4, 2) := by decide +kernel
theorem dX12_alikeAt_88 : decode cX12_alikeAt 88 = .ok (.iload_n 2, 1) := by decide +kernel
theorem dX12_alikeAt_89 : decode cX12_alikeAt 89 = .ok (.if_icmp .le 8, 3) := by decide +kernel
theorem dX12_alikeAt_92 : decode cX12_alikeAt 92 = .ok (.iload 4, 2) := by decide +kernel
theorem dX12_alikeAt_94 : decode cX12_alikeAt 94 = .ok (.goto 4, 3) := by decide +kernel
theorem dX12_alikeAt_97 : decode cX12_alikeAt 97 = .ok (.iload_n 2, 1) := by decide +kernel
theorem dX12_alikeAt_98 : decode cX12_alikeAt 98 = .ok (.istore_n 2, 1) := by decide +kernel
theorem dX12_alikeAt_99 : decode cX12_alikeAt 99 = .ok (.iinc 3 1, 3) := by decide +kernel
theorem dX12_alikeAt_102 : decode cX12_alikeAt 102 = .ok (.goto (-98), 3) := by decide +kernel
theorem dX12_alikeAt_105 : decode cX12_alikeAt 105 = .ok (.iload_n 2, 1) := by decide +kernel
theorem dX12_alikeAt_106 : decode cX12_alikeAt 106 = .ok (.ireturn, 1) := by decide +kernel
theorem dX12_bestAim_0 : decode cX12_bestAim 0 = .ok (.aload_n 0, 1) := by decide +kernel
theorem dX12_bestAim_1 : decode cX12_bestAim 1 = .ok (.iload_n 1, 1) := by decide +kernel
theorem dX12_bestAim_2 : decode cX12_bestAim 2 = .ok (.invokevirtual 314, 3) := by decide +kernel
theorem dX12_bestAim_5 : decode cX12_bestAim 5 = .ok (.ifCond .eq 13, 3) := by decide +kernel
theorem dX12_bestAim_8 : decode cX12_bestAim 8 = .ok (.iload_n 2, 1) := by decide +kernel
theorem dX12_bestAim_9 : decode cX12_bestAim 9 = .ok (.i2l, 1) := by decide +kernel
theorem dX12_bestAim_10 : decode cX12_bestAim 10 = .ok (.lconst 0, 1) := by decide +kernel
theorem dX12_bestAim_11 : decode cX12_bestAim 11 = .ok (.lconst 1, 1) := by decide +kernel
theorem dX12_bestAim_12 : decode cX12_bestAim 12 = .ok (.invokestatic 127, 3) := by decide +kernel
theorem dX12_bestAim_15 : decode cX12_bestAim 15 = .ok (.ifCond .ne 6, 3) := by decide +kernel
theorem dX12_bestAim_18 : decode cX12_bestAim 18 = .ok (.bipush (-2), 2) := by decide +kernel
theorem dX12_bestAim_20 : decode cX12_bestAim 20 = .ok (.ireturn, 1) := by decide +kernel
theorem dX12_bestAim_21 : decode cX12_bestAim 21 = .ok (.iconst (-1), 1) := by decide +kernel
theorem dX12_bestAim_22 : decode cX12_bestAim 22 = .ok (.istore_n 3, 1) := by decide +kernel
theorem dX12_bestAim_23 : decode cX12_bestAim 23 = .ok (.iconst 0, 1) := by decide +kernel
theorem dX12_bestAim_24 : decode cX12_bestAim 24 = .ok (.istore 4, 2) := by decide +kernel
theorem dX12_bestAim_26 : decode cX12_bestAim 26 = .ok (.iconst 0, 1) := by decide +kernel
theorem dX12_bestAim_27 : decode cX12_bestAim 27 = .ok (.istore 5, 2) := by decide +kernel
theorem dX12_bestAim_29 : decode cX12_bestAim 29 = .ok (.iload 5, 2) := by decide +kernel
theorem dX12_bestAim_31 : decode cX12_bestAim 31 = .ok (.aload_n 0, 1) := by decide +kernel
theorem dX12_bestAim_32 : decode cX12_bestAim 32 = .ok (.getfield 39, 3) := by decide +kernel
theorem dX12_bestAim_35 : decode cX12_bestAim 35 = .ok (.iconst 4, 1) := by decide +kernel
theorem dX12_bestAim_36 : decode cX12_bestAim 36 = .ok (.iaload, 1) := by decide +kernel
theorem dX12_bestAim_37 : decode cX12_bestAim 37 = .ok (.if_icmp .ge 36, 3) := by decide +kernel
theorem dX12_bestAim_40 : decode cX12_bestAim 40 = .ok (.aload_n 0, 1) := by decide +kernel
theorem dX12_bestAim_41 : decode cX12_bestAim 41 = .ok (.iload_n 1, 1) := by decide +kernel
theorem dX12_bestAim_42 : decode cX12_bestAim 42 = .ok (.iload 5, 2) := by decide +kernel
theorem dX12_bestAim_44 : decode cX12_bestAim 44 = .ok (.invokevirtual 387, 3) := by decide +kernel
theorem dX12_bestAim_47 : decode cX12_bestAim 47 = .ok (.iload 4, 2) := by decide +kernel
theorem dX12_bestAim_49 : decode cX12_bestAim 49 = .ok (.if_icmp .gt 6, 3) := by decide +kernel
theorem dX12_bestAim_52 : decode cX12_bestAim 52 = .ok (.goto 15, 3) := by decide +kernel
theorem dX12_bestAim_55 : decode cX12_bestAim 55 = .ok (.iload 5, 2) := by decide +kernel
theorem dX12_bestAim_57 : decode cX12_bestAim 57 = .ok (.istore_n 3, 1) := by decide +kernel
theorem dX12_bestAim_58 : decode cX12_bestAim 58 = .ok (.aload_n 0, 1) := by decide +kernel
theorem dX12_bestAim_59 : decode cX12_bestAim 59 = .ok (.iload_n 1, 1) := by decide +kernel
theorem dX12_bestAim_60 : decode cX12_bestAim 60 = .ok (.iload 5, 2) := by decide +kernel
theorem dX12_bestAim_62 : decode cX12_bestAim 62 = .ok (.invokevirtual 387, 3) := by decide +kernel
theorem dX12_bestAim_65 : decode cX12_bestAim 65 = .ok (.istore 4, 2) := by decide +kernel
theorem dX12_bestAim_67 : decode cX12_bestAim 67 = .ok (.iinc 5 1, 3) := by decide +kernel
theorem dX12_bestAim_70 : decode cX12_bestAim 70 = .ok (.goto (-41), 3) := by decide +kernel
theorem dX12_bestAim_73 : decode cX12_bestAim 73 = .ok (.iload_n 2, 1) := by decide +kernel
theorem dX12_bestAim_74 : decode cX12_bestAim 74 = .ok (.ifCond .ne 7, 3) := by decide +kernel
theorem dX12_bestAim_77 : decode cX12_bestAim 77 = .ok (.iload_n 3, 1) := by decide +kernel
theorem dX12_bestAim_78 : decode cX12_bestAim 78 = .ok (.goto 5, 3) := by decide +kernel
theorem dX12_bestAim_81 : decode cX12_bestAim 81 = .ok (.iload 4, 2) := by decide +kernel
theorem dX12_bestAim_83 : decode cX12_bestAim 83 = .ok (.ireturn, 1) := by decide +kernel
theorem dX12_compare_0 : decode cX12_compare 0 = .ok (.aload_n 0, 1) := by decide +kernel
theorem dX12_compare_1 : decode cX12_compare 1 = .ok (.invokevirtual 194, 3) := by decide +kernel
theorem dX12_compare_4 : decode cX12_compare 4 = .ok (.ifCond .ne 5, 3) := by decide +kernel
theorem dX12_compare_7 : decode cX12_compare 7 = .ok (.iconst 0, 1) := by decide +kernel
theorem dX12_compare_8 : decode cX12_compare 8 = .ok (.ireturn, 1) := by decide +kernel
theorem dX12_compare_9 : decode cX12_compare 9 = .ok (.aload_n 0, 1) := by decide +kernel
theorem dX12_compare_10 : decode cX12_compare 10 = .ok (.invokevirtual 102, 3) := by decide +kernel
theorem dX12_compare_13 : decode cX12_compare 13 = .ok (.istore_n 1, 1) := by decide +kernel
theorem dX12_compare_14 : decode cX12_compare 14 = .ok (.aload_n 0, 1) := by decide +kernel
theorem dX12_compare_15 : decode cX12_compare 15 = .ok (.getfield 99, 3) := by decide +kernel
theorem dX12_compare_18 : decode cX12_compare 18 = .ok (.istore_n 2, 1) := by decide +kernel
theorem dX12_compare_19 : decode cX12_compare 19 = .ok (.iload_n 1, 1) := by decide +kernel
theorem dX12_compare_20 : decode cX12_compare 20 = .ok (.bipush 60, 2) := by decide +kernel
theorem dX12_compare_22 : decode cX12_compare 22 = .ok (.if_icmp .eq 22, 3) := by decide +kernel
theorem dX12_compare_25 : decode cX12_compare 25 = .ok (.iload_n 1, 1) := by decide +kernel
theorem dX12_compare_26 : decode cX12_compare 26 = .ok (.bipush 61, 2) := by decide +kernel
theorem dX12_compare_28 : decode cX12_compare 28 = .ok (.if_icmp .eq 16, 3) := by decide +kernel
theorem dX12_compare_31 : decode cX12_compare 31 = .ok (.iload_n 1, 1) := by decide +kernel
theorem dX12_compare_32 : decode cX12_compare 32 = .ok (.bipush 62, 2) := by decide +kernel
theorem dX12_compare_34 : decode cX12_compare 34 = .ok (.if_icmp .eq 10, 3) := by decide +kernel
theorem dX12_compare_37 : decode cX12_compare 37 = .ok (.aload_n 0, 1) := by decide +kernel
theorem dX12_compare_38 : decode cX12_compare 38 = .ok (.iconst 0, 1) := by decide +kernel
theorem dX12_compare_39 : decode cX12_compare 39 = .ok (.iload_n 2, 1) := by decide +kernel
theorem dX12_compare_40 : decode cX12_compare 40 = .ok (.invokevirtual 120, 3) := by decide +kernel
theorem dX12_compare_43 : decode cX12_compare 43 = .ok (.ireturn, 1) := by decide +kernel
theorem dX12_compare_44 : decode cX12_compare 44 = .ok (.aload_n 0, 1) := by decide +kernel
theorem dX12_compare_45 : decode cX12_compare 45 = .ok (.dup, 1) := by decide +kernel
theorem dX12_compare_46 : decode cX12_compare 46 = .ok (.getfield 99, 3) := by decide +kernel
theorem dX12_compare_49 : decode cX12_compare 49 = .ok (.iconst 1, 1) := by decide +kernel
theorem dX12_compare_50 : decode cX12_compare 50 = .ok (.iadd, 1) := by decide +kernel
theorem dX12_compare_51 : decode cX12_compare 51 = .ok (.putfield 99, 3) := by decide +kernel
theorem dX12_compare_54 : decode cX12_compare 54 = .ok (.iload_n 1, 1) := by decide +kernel
theorem dX12_compare_55 : decode cX12_compare 55 = .ok (.bipush 61, 2) := by decide +kernel
theorem dX12_compare_57 : decode cX12_compare 57 = .ok (.if_icmp .eq 32, 3) := by decide +kernel
theorem dX12_compare_60 : decode cX12_compare 60 = .ok (.aload_n 0, 1) := by decide +kernel
theorem dX12_compare_61 : decode cX12_compare 61 = .ok (.getfield 99, 3) := by decide +kernel
theorem dX12_compare_64 : decode cX12_compare 64 = .ok (.aload_n 0, 1) := by decide +kernel
theorem dX12_compare_65 : decode cX12_compare 65 = .ok (.getfield 89, 3) := by decide +kernel
theorem dX12_compare_68 : decode cX12_compare 68 = .ok (.if_icmp .ge 21, 3) := by decide +kernel
theorem dX12_compare_71 : decode cX12_compare 71 = .ok (.aload_n 0, 1) := by decide +kernel
theorem dX12_compare_72 : decode cX12_compare 72 = .ok (.getfield 7, 3) := by decide +kernel
theorem dX12_compare_75 : decode cX12_compare 75 = .ok (.aload_n 0, 1) := by decide +kernel
theorem dX12_compare_76 : decode cX12_compare 76 = .ok (.getfield 99, 3) := by decide +kernel
theorem dX12_compare_79 : decode cX12_compare 79 = .ok (.baload, 1) := by decide +kernel
theorem dX12_compare_80 : decode cX12_compare 80 = .ok (.bipush 61, 2) := by decide +kernel
theorem dX12_compare_82 : decode cX12_compare 82 = .ok (.if_icmp .ne 7, 3) := by decide +kernel
theorem dX12_compare_85 : decode cX12_compare 85 = .ok (.iconst 1, 1) := by decide +kernel
theorem dX12_compare_86 : decode cX12_compare 86 = .ok (.goto 4, 3) := by decide +kernel
theorem dX12_compare_89 : decode cX12_compare 89 = .ok (.iconst 0, 1) := by decide +kernel
theorem dX12_compare_90 : decode cX12_compare 90 = .ok (.istore_n 3, 1) := by decide +kernel
theorem dX12_compare_91 : decode cX12_compare 91 = .ok (.iload_n 3, 1) := by decide +kernel
theorem dX12_compare_92 : decode cX12_compare 92 = .ok (.ifCond .eq 13, 3) := by decide +kernel
theorem dX12_compare_95 : decode cX12_compare 95 = .ok (.aload_n 0, 1) := by decide +kernel
theorem dX12_compare_96 : decode cX12_compare 96 = .ok (.dup, 1) := by decide +kernel
theorem dX12_compare_97 : decode cX12_compare 97 = .ok (.getfield 99, 3) := by decide +kernel
theorem dX12_compare_100 : decode cX12_compare 100 = .ok (.iconst 1, 1) := by decide +kernel
theorem dX12_compare_101 : decode cX12_compare 101 = .ok (.iadd, 1) := by decide +kernel
theorem dX12_compare_102 : decode cX12_compare 102 = .ok (.putfield 99, 3) := by decide +kernel
theorem dX12_compare_105 : decode cX12_compare 105 = .ok (.aload_n 0, 1) := by decide +kernel
theorem dX12_compare_106 : decode cX12_compare 106 = .ok (.iload_n 2, 1) := by decide +kernel
theorem dX12_compare_107 : decode cX12_compare 107 = .ok (.invokevirtual 181, 3) := by decide +kernel
theorem dX12_compare_110 : decode cX12_compare 110 = .ok (.ifCond .ne 5, 3) := by decide +kernel
theorem dX12_compare_113 : decode cX12_compare 113 = .ok (.iconst 0, 1) := by decide +kernel
theorem dX12_compare_114 : decode cX12_compare 114 = .ok (.ireturn, 1) := by decide +kernel
theorem dX12_compare_115 : decode cX12_compare 115 = .ok (.iload_n 1, 1) := by decide +kernel
theorem dX12_compare_116 : decode cX12_compare 116 = .ok (.bipush 60, 2) := by decide +kernel
theorem dX12_compare_118 : decode cX12_compare 118 = .ok (.if_icmp .ne 15, 3) := by decide +kernel
theorem dX12_compare_121 : decode cX12_compare 121 = .ok (.iload_n 3, 1) := by decide +kernel
theorem dX12_compare_122 : decode cX12_compare 122 = .ok (.ifCond .eq 7, 3) := by decide +kernel
theorem dX12_compare_125 : decode cX12_compare 125 = .ok (.iconst 1, 1) := by decide +kernel
theorem dX12_compare_126 : decode cX12_compare 126 = .ok (.goto 26, 3) := by decide +kernel
theorem dX12_compare_129 : decode cX12_compare 129 = .ok (.iconst 0, 1) := by decide +kernel
theorem dX12_compare_130 : decode cX12_compare 130 = .ok (.goto 22, 3) := by decide +kernel
theorem dX12_compare_133 : decode cX12_compare 133 = .ok (.iload_n 1, 1) := by decide +kernel
theorem dX12_compare_134 : decode cX12_compare 134 = .ok (.bipush 61, 2) := by decide +kernel
theorem dX12_compare_136 : decode cX12_compare 136 = .ok (.if_icmp .ne 7, 3) := by decide +kernel
theorem dX12_compare_139 : decode cX12_compare 139 = .ok (.iconst 2, 1) := by decide +kernel
theorem dX12_compare_140 : decode cX12_compare 140 = .ok (.goto 12, 3) := by decide +kernel
theorem dX12_compare_143 : decode cX12_compare 143 = .ok (.iload_n 3, 1) := by decide +kernel
theorem dX12_compare_144 : decode cX12_compare 144 = .ok (.ifCond .eq 7, 3) := by decide +kernel
theorem dX12_compare_147 : decode cX12_compare 147 = .ok (.iconst 3, 1) := by decide +kernel
theorem dX12_compare_148 : decode cX12_compare 148 = .ok (.goto 4, 3) := by decide +kernel
theorem dX12_compare_151 : decode cX12_compare 151 = .ok (.iconst 4, 1) := by decide +kernel
theorem dX12_compare_152 : decode cX12_compare 152 = .ok (.istore 4, 2) := by decide +kernel
theorem dX12_compare_154 : decode cX12_compare 154 = .ok (.aload_n 0, 1) := by decide +kernel
theorem dX12_compare_155 : decode cX12_compare 155 = .ok (.invokevirtual 194, 3) := by decide +kernel
theorem dX12_compare_158 : decode cX12_compare 158 = .ok (.ifCond .ne 5, 3) := by decide +kernel
theorem dX12_compare_161 : decode cX12_compare 161 = .ok (.iconst 0, 1) := by decide +kernel
theorem dX12_compare_162 : decode cX12_compare 162 = .ok (.ireturn, 1) := by decide +kernel
theorem dX12_compare_163 : decode cX12_compare 163 = .ok (.aload_n 0, 1) := by decide +kernel
theorem dX12_compare_164 : decode cX12_compare 164 = .ok (.bipush 6, 2) := by decide +kernel
theorem dX12_compare_166 : decode cX12_compare 166 = .ok (.iload 4, 2) := by decide +kernel
theorem dX12_compare_168 : decode cX12_compare 168 = .ok (.iadd, 1) := by decide +kernel
theorem dX12_compare_169 : decode cX12_compare 169 = .ok (.iconst 0, 1) := by decide +kernel
theorem dX12_compare_170 : decode cX12_compare 170 = .ok (.invokevirtual 173, 3) := by decide +kernel
theorem dX12_compare_173 : decode cX12_compare 173 = .ok (.iconst 1, 1) := by decide +kernel
theorem dX12_compare_174 : decode cX12_compare 174 = .ok (.ireturn, 1) := by decide +kernel
theorem dX12_driftOf_0 : decode cX12_driftOf 0 = .ok (.aload_n 0, 1) := by decide +kernel
theorem dX12_driftOf_1 : decode cX12_driftOf 1 = .ok (.invokevirtual 300, 3) := by decide +kernel
theorem dX12_driftOf_4 : decode cX12_driftOf 4 = .ok (.iconst 4, 1) := by decide +kernel
theorem dX12_driftOf_5 : decode cX12_driftOf 5 = .ok (.isub, 1) := by decide +kernel
theorem dX12_driftOf_6 : decode cX12_driftOf 6 = .ok (.aload_n 0, 1) := by decide +kernel
theorem dX12_driftOf_7 : decode cX12_driftOf 7 = .ok (.getfield 39, 3) := by decide +kernel
theorem dX12_driftOf_10 : decode cX12_driftOf 10 = .ok (.bipush 51, 2) := by decide +kernel
theorem dX12_driftOf_12 : decode cX12_driftOf 12 = .ok (.iload_n 1, 1) := by decide +kernel
theorem dX12_driftOf_13 : decode cX12_driftOf 13 = .ok (.iadd, 1) := by decide +kernel
theorem dX12_driftOf_14 : decode cX12_driftOf 14 = .ok (.iaload, 1) := by decide +kernel
theorem dX12_driftOf_15 : decode cX12_driftOf 15 = .ok (.imul, 1) := by decide +kernel
theorem dX12_driftOf_16 : decode cX12_driftOf 16 = .ok (.aload_n 0, 1) := by decide +kernel
theorem dX12_driftOf_17 : decode cX12_driftOf 17 = .ok (.iload_n 1, 1) := by decide +kernel
theorem dX12_driftOf_18 : decode cX12_driftOf 18 = .ok (.invokevirtual 303, 3) := by decide +kernel
theorem dX12_driftOf_21 : decode cX12_driftOf 21 = .ok (.idiv, 1) := by decide +kernel
theorem dX12_driftOf_22 : decode cX12_driftOf 22 = .ok (.ireturn, 1) := by decide +kernel
theorem dX12_easedIn_0 : decode cX12_easedIn 0 = .ok (.bipush (-2), 2) := by decide +kernel
theorem dX12_easedIn_2 : decode cX12_easedIn 2 = .ok (.istore_n 2, 1) := by decide +kernel
theorem dX12_easedIn_3 : decode cX12_easedIn 3 = .ok (.aload_n 0, 1) := by decide +kernel
theorem dX12_easedIn_4 : decode cX12_easedIn 4 = .ok (.invokevirtual 372, 3) := by decide +kernel
theorem dX12_easedIn_7 : decode cX12_easedIn 7 = .ok (.iconst 0, 1) := by decide +kernel
theorem dX12_easedIn_8 : decode cX12_easedIn 8 = .ok (.istore_n 3, 1) := by decide +kernel
theorem dX12_easedIn_9 : decode cX12_easedIn 9 = .ok (.iload_n 3, 1) := by decide +kernel
theorem dX12_easedIn_10 : decode cX12_easedIn 10 = .ok (.sipush 200, 3) := by decide +kernel
theorem dX12_easedIn_13 : decode cX12_easedIn 13 = .ok (.if_icmp .ge 48, 3) := by decide +kernel
theorem dX12_easedIn_16 : decode cX12_easedIn 16 = .ok (.iload_n 2, 1) := by decide +kernel
theorem dX12_easedIn_17 : decode cX12_easedIn 17 = .ok (.ifCond .ge 44, 3) := by decide +kernel
theorem dX12_easedIn_20 : decode cX12_easedIn 20 = .ok (.aload_n 0, 1) := by decide +kernel
theorem dX12_easedIn_21 : decode cX12_easedIn 21 = .ok (.invokevirtual 360, 3) := by decide +kernel
theorem dX12_easedIn_24 : decode cX12_easedIn 24 = .ok (.pop, 1) := by decide +kernel
theorem dX12_easedIn_25 : decode cX12_easedIn 25 = .ok (.iload_n 1, 1) := by decide +kernel
theorem dX12_easedIn_26 : decode cX12_easedIn 26 = .ok (.ifCond .ge 11, 3) := by decide +kernel
theorem dX12_easedIn_29 : decode cX12_easedIn 29 = .ok (.aload_n 0, 1) := by decide +kernel
theorem dX12_easedIn_30 : decode cX12_easedIn 30 = .ok (.iconst 1, 1) := by decide +kernel
theorem dX12_easedIn_31 : decode cX12_easedIn 31 = .ok (.invokevirtual 381, 3) := by decide +kernel
theorem dX12_easedIn_34 : decode cX12_easedIn 34 = .ok (.goto 8, 3) := by decide +kernel
theorem dX12_easedIn_37 : decode cX12_easedIn 37 = .ok (.aload_n 0, 1) := by decide +kernel
theorem dX12_easedIn_38 : decode cX12_easedIn 38 = .ok (.iload_n 1, 1) := by decide +kernel
theorem dX12_easedIn_39 : decode cX12_easedIn 39 = .ok (.invokevirtual 317, 3) := by decide +kernel
theorem dX12_easedIn_42 : decode cX12_easedIn 42 = .ok (.ifCond .ne 13, 3) := by decide +kernel
theorem dX12_easedIn_45 : decode cX12_easedIn 45 = .ok (.aload_n 0, 1) := by decide +kernel
theorem dX12_easedIn_46 : decode cX12_easedIn 46 = .ok (.getfield 39, 3) := by decide +kernel
theorem dX12_easedIn_49 : decode cX12_easedIn 49 = .ok (.bipush 10, 2) := by decide +kernel
theorem dX12_easedIn_51 : decode cX12_easedIn 51 = .ok (.iaload, 1) := by decide +kernel
theorem dX12_easedIn_52 : decode cX12_easedIn 52 = .ok (.iconst 1, 1) := by decide +kernel
theorem dX12_easedIn_53 : decode cX12_easedIn 53 = .ok (.isub, 1) := by decide +kernel
theorem dX12_easedIn_54 : decode cX12_easedIn 54 = .ok (.istore_n 2, 1) := by decide +kernel
theorem dX12_easedIn_55 : decode cX12_easedIn 55 = .ok (.iinc 3 1, 3) := by decide +kernel
theorem dX12_easedIn_58 : decode cX12_easedIn 58 = .ok (.goto (-49), 3) := by decide +kernel
theorem dX12_easedIn_61 : decode cX12_easedIn 61 = .ok (.aload_n 0, 1) := by decide +kernel
theorem dX12_easedIn_62 : decode cX12_easedIn 62 = .ok (.invokevirtual 378, 3) := by decide +kernel
theorem dX12_easedIn_65 : decode cX12_easedIn 65 = .ok (.iload_n 2, 1) := by decide +kernel
theorem dX12_easedIn_66 : decode cX12_easedIn 66 = .ok (.ireturn, 1) := by decide +kernel
theorem dX12_hasThen_0 : decode cX12_hasThen 0 = .ok (.iload_n 2, 1) := by decide +kernel
theorem dX12_hasThen_1 : decode cX12_hasThen 1 = .ok (.aload_n 0, 1) := by decide +kernel
theorem dX12_hasThen_2 : decode cX12_hasThen 2 = .ok (.iload_n 1, 1) := by decide +kernel
theorem dX12_hasThen_3 : decode cX12_hasThen 3 = .ok (.invokevirtual 317, 3) := by decide +kernel
theorem dX12_hasThen_6 : decode cX12_hasThen 6 = .ok (.isub, 1) := by decide +kernel
theorem dX12_hasThen_7 : decode cX12_hasThen 7 = .ok (.aload_n 0, 1) := by decide +kernel
theorem dX12_hasThen_8 : decode cX12_hasThen 8 = .ok (.iload_n 1, 1) := by decide +kernel
theorem dX12_hasThen_9 : decode cX12_hasThen 9 = .ok (.invokevirtual 320, 3) := by decide +kernel
theorem dX12_hasThen_12 : decode cX12_hasThen 12 = .ok (.iconst 2, 1) := by decide +kernel
theorem dX12_hasThen_13 : decode cX12_hasThen 13 = .ok (.idiv, 1) := by decide +kernel
theorem dX12_hasThen_14 : decode cX12_hasThen 14 = .ok (.iadd, 1) := by decide +kernel
theorem dX12_hasThen_15 : decode cX12_hasThen 15 = .ok (.ireturn, 1) := by decide +kernel
theorem dX12_isDigit_0 : decode cX12_isDigit 0 = .ok (.iload_n 1, 1) := by decide +kernel
theorem dX12_isDigit_1 : decode cX12_isDigit 1 = .ok (.aload_n 0, 1) := by decide +kernel
theorem dX12_isDigit_2 : decode cX12_isDigit 2 = .ok (.getfield 89, 3) := by decide +kernel
theorem dX12_isDigit_5 : decode cX12_isDigit 5 = .ok (.if_icmp .ge 29, 3) := by decide +kernel
theorem dX12_isDigit_8 : decode cX12_isDigit 8 = .ok (.aload_n 0, 1) := by decide +kernel
theorem dX12_isDigit_9 : decode cX12_isDigit 9 = .ok (.getfield 7, 3) := by decide +kernel
theorem dX12_isDigit_12 : decode cX12_isDigit 12 = .ok (.iload_n 1, 1) := by decide +kernel
theorem dX12_isDigit_13 : decode cX12_isDigit 13 = .ok (.baload, 1) := by decide +kernel
theorem dX12_isDigit_14 : decode cX12_isDigit 14 = .ok (.bipush 48, 2) := by decide +kernel
theorem dX12_isDigit_16 : decode cX12_isDigit 16 = .ok (.if_icmp .lt 18, 3) := by decide +kernel
theorem dX12_isDigit_19 : decode cX12_isDigit 19 = .ok (.aload_n 0, 1) := by decide +kernel
theorem dX12_isDigit_20 : decode cX12_isDigit 20 = .ok (.getfield 7, 3) := by decide +kernel
theorem dX12_isDigit_23 : decode cX12_isDigit 23 = .ok (.iload_n 1, 1) := by decide +kernel
theorem dX12_isDigit_24 : decode cX12_isDigit 24 = .ok (.baload, 1) := by decide +kernel
theorem dX12_isDigit_25 : decode cX12_isDigit 25 = .ok (.bipush 57, 2) := by decide +kernel
theorem dX12_isDigit_27 : decode cX12_isDigit 27 = .ok (.if_icmp .gt 7, 3) := by decide +kernel
theorem dX12_isDigit_30 : decode cX12_isDigit 30 = .ok (.iconst 1, 1) := by decide +kernel
theorem dX12_isDigit_31 : decode cX12_isDigit 31 = .ok (.goto 4, 3) := by decide +kernel
theorem dX12_isDigit_34 : decode cX12_isDigit 34 = .ok (.iconst 0, 1) := by decide +kernel
theorem dX12_isDigit_35 : decode cX12_isDigit 35 = .ok (.ireturn, 1) := by decide +kernel
theorem dX12_isGreen_0 : decode cX12_isGreen 0 = .ok (.aload_n 0, 1) := by decide +kernel
theorem dX12_isGreen_1 : decode cX12_isGreen 1 = .ok (.getfield 39, 3) := by decide +kernel
theorem dX12_isGreen_4 : decode cX12_isGreen 4 = .ok (.iconst 0, 1) := by decide +kernel
theorem dX12_isGreen_5 : decode cX12_isGreen 5 = .ok (.iaload, 1) := by decide +kernel
theorem dX12_isGreen_6 : decode cX12_isGreen 6 = .ok (.iconst 1, 1) := by decide +kernel
theorem dX12_isGreen_7 : decode cX12_isGreen 7 = .ok (.if_icmp .ne 7, 3) := by decide +kernel
theorem dX12_isGreen_10 : decode cX12_isGreen 10 = .ok (.iconst 1, 1) := by decide +kernel
theorem dX12_isGreen_11 : decode cX12_isGreen 11 = .ok (.goto 4, 3) := by decide +kernel
theorem dX12_isGreen_14 : decode cX12_isGreen 14 = .ok (.iconst 0, 1) := by decide +kernel
theorem dX12_isGreen_15 : decode cX12_isGreen 15 = .ok (.ireturn, 1) := by decide +kernel
theorem dX12_isTaken_0 : decode cX12_isTaken 0 = .ok (.iconst 0, 1) := by decide +kernel
theorem dX12_isTaken_1 : decode cX12_isTaken 1 = .ok (.istore_n 2, 1) := by decide +kernel
theorem dX12_isTaken_2 : decode cX12_isTaken 2 = .ok (.iload_n 2, 1) := by decide +kernel
theorem dX12_isTaken_3 : decode cX12_isTaken 3 = .ok (.aload_n 0, 1) := by decide +kernel
theorem dX12_isTaken_4 : decode cX12_isTaken 4 = .ok (.getfield 26, 3) := by decide +kernel
theorem dX12_isTaken_7 : decode cX12_isTaken 7 = .ok (.iconst 4, 1) := by decide +kernel
theorem dX12_isTaken_8 : decode cX12_isTaken 8 = .ok (.iaload, 1) := by decide +kernel
theorem dX12_isTaken_9 : decode cX12_isTaken 9 = .ok (.if_icmp .ge 24, 3) := by decide +kernel
theorem dX12_isTaken_12 : decode cX12_isTaken 12 = .ok (.aload_n 0, 1) := by decide +kernel
theorem dX12_isTaken_13 : decode cX12_isTaken 13 = .ok (.getfield 26, 3) := by decide +kernel
theorem dX12_isTaken_16 : decode cX12_isTaken 16 = .ok (.bipush 68, 2) := by decide +kernel
theorem dX12_isTaken_18 : decode cX12_isTaken 18 = .ok (.iload_n 2, 1) := by decide +kernel
theorem dX12_isTaken_19 : decode cX12_isTaken 19 = .ok (.iadd, 1) := by decide +kernel
theorem dX12_isTaken_20 : decode cX12_isTaken 20 = .ok (.iaload, 1) := by decide +kernel
theorem dX12_isTaken_21 : decode cX12_isTaken 21 = .ok (.iload_n 1, 1) := by decide +kernel
theorem dX12_isTaken_22 : decode cX12_isTaken 22 = .ok (.if_icmp .ne 5, 3) := by decide +kernel
theorem dX12_isTaken_25 : decode cX12_isTaken 25 = .ok (.iconst 1, 1) := by decide +kernel
theorem dX12_isTaken_26 : decode cX12_isTaken 26 = .ok (.ireturn, 1) := by decide +kernel
theorem dX12_isTaken_27 : decode cX12_isTaken 27 = .ok (.iinc 2 1, 3) := by decide +kernel
theorem dX12_isTaken_30 : decode cX12_isTaken 30 = .ok (.goto (-28), 3) := by decide +kernel
theorem dX12_isTaken_33 : decode cX12_isTaken 33 = .ok (.iconst 0, 1) := by decide +kernel
theorem dX12_isTaken_34 : decode cX12_isTaken 34 = .ok (.ireturn, 1) := by decide +kernel
theorem dX12_layDown_0 : decode cX12_layDown 0 = .ok (.aload_n 0, 1) := by decide +kernel
theorem dX12_layDown_1 : decode cX12_layDown 1 = .ok (.getfield 166, 3) := by decide +kernel
