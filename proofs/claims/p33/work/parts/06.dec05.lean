theorem dX12_image_19 : decode cX12_image 19 = .ok (.iconst 1, 1) := by decide +kernel
theorem dX12_image_20 : decode cX12_image 20 = .ok (.bastore, 1) := by decide +kernel
theorem dX12_image_21 : decode cX12_image 21 = .ok (.aload_n 0, 1) := by decide +kernel
theorem dX12_image_22 : decode cX12_image 22 = .ok (.getfield 80, 3) := by decide +kernel
theorem dX12_image_25 : decode cX12_image 25 = .ok (.iload_n 1, 1) := by decide +kernel
theorem dX12_image_26 : decode cX12_image 26 = .ok (.aload_n 0, 1) := by decide +kernel
theorem dX12_image_27 : decode cX12_image 27 = .ok (.getfield 42, 3) := by decide +kernel
theorem dX12_image_30 : decode cX12_image 30 = .ok (.iastore, 1) := by decide +kernel
theorem dX12_image_31 : decode cX12_image 31 = .ok (.aload_n 0, 1) := by decide +kernel
theorem dX12_image_32 : decode cX12_image 32 = .ok (.getfield 83, 3) := by decide +kernel
theorem dX12_image_35 : decode cX12_image 35 = .ok (.iload_n 1, 1) := by decide +kernel
theorem dX12_image_36 : decode cX12_image 36 = .ok (.aload_n 0, 1) := by decide +kernel
theorem dX12_image_37 : decode cX12_image 37 = .ok (.getfield 442, 3) := by decide +kernel
theorem dX12_image_40 : decode cX12_image 40 = .ok (.iastore, 1) := by decide +kernel
theorem dX12_image_41 : decode cX12_image 41 = .ok (.iconst 0, 1) := by decide +kernel
theorem dX12_image_42 : decode cX12_image 42 = .ok (.istore_n 2, 1) := by decide +kernel
theorem dX12_image_43 : decode cX12_image 43 = .ok (.iload_n 2, 1) := by decide +kernel
theorem dX12_image_44 : decode cX12_image 44 = .ok (.bipush 115, 2) := by decide +kernel
theorem dX12_image_46 : decode cX12_image 46 = .ok (.if_icmp .ge 26, 3) := by decide +kernel
theorem dX12_image_49 : decode cX12_image 49 = .ok (.aload_n 0, 1) := by decide +kernel
theorem dX12_image_50 : decode cX12_image 50 = .ok (.getfield 77, 3) := by decide +kernel
theorem dX12_image_53 : decode cX12_image 53 = .ok (.bipush 115, 2) := by decide +kernel
theorem dX12_image_55 : decode cX12_image 55 = .ok (.iload_n 1, 1) := by decide +kernel
theorem dX12_image_56 : decode cX12_image 56 = .ok (.imul, 1) := by decide +kernel
theorem dX12_image_57 : decode cX12_image 57 = .ok (.iload_n 2, 1) := by decide +kernel
theorem dX12_image_58 : decode cX12_image 58 = .ok (.iadd, 1) := by decide +kernel
theorem dX12_image_59 : decode cX12_image 59 = .ok (.aload_n 0, 1) := by decide +kernel
theorem dX12_image_60 : decode cX12_image 60 = .ok (.getfield 39, 3) := by decide +kernel
theorem dX12_image_63 : decode cX12_image 63 = .ok (.iload_n 2, 1) := by decide +kernel
theorem dX12_image_64 : decode cX12_image 64 = .ok (.iaload, 1) := by decide +kernel
theorem dX12_image_65 : decode cX12_image 65 = .ok (.iastore, 1) := by decide +kernel
theorem dX12_image_66 : decode cX12_image 66 = .ok (.iinc 2 1, 3) := by decide +kernel
theorem dX12_image_69 : decode cX12_image 69 = .ok (.goto (-26), 3) := by decide +kernel
theorem dX12_image_72 : decode cX12_image 72 = .ok (.aload_n 0, 1) := by decide +kernel
theorem dX12_image_73 : decode cX12_image 73 = .ok (.getfield 39, 3) := by decide +kernel
theorem dX12_image_76 : decode cX12_image 76 = .ok (.bipush 10, 2) := by decide +kernel
theorem dX12_image_78 : decode cX12_image 78 = .ok (.iaload, 1) := by decide +kernel
theorem dX12_image_79 : decode cX12_image 79 = .ok (.ireturn, 1) := by decide +kernel
theorem dX12_keeps_0 : decode cX12_keeps 0 = .ok (.iconst 0, 1) := by decide +kernel
theorem dX12_keeps_1 : decode cX12_keeps 1 = .ok (.istore_n 1, 1) := by decide +kernel
theorem dX12_keeps_2 : decode cX12_keeps 2 = .ok (.iload_n 1, 1) := by decide +kernel
theorem dX12_keeps_3 : decode cX12_keeps 3 = .ok (.bipush 30, 2) := by decide +kernel
theorem dX12_keeps_5 : decode cX12_keeps 5 = .ok (.if_icmp .ge 24, 3) := by decide +kernel
theorem dX12_keeps_8 : decode cX12_keeps 8 = .ok (.aload_n 0, 1) := by decide +kernel
theorem dX12_keeps_9 : decode cX12_keeps 9 = .ok (.getfield 58, 3) := by decide +kernel
theorem dX12_keeps_12 : decode cX12_keeps 12 = .ok (.iload_n 1, 1) := by decide +kernel
theorem dX12_keeps_13 : decode cX12_keeps 13 = .ok (.aload_n 0, 1) := by decide +kernel
theorem dX12_keeps_14 : decode cX12_keeps 14 = .ok (.getfield 39, 3) := by decide +kernel
theorem dX12_keeps_17 : decode cX12_keeps 17 = .ok (.bipush 10, 2) := by decide +kernel
theorem dX12_keeps_19 : decode cX12_keeps 19 = .ok (.iload_n 1, 1) := by decide +kernel
theorem dX12_keeps_20 : decode cX12_keeps 20 = .ok (.iadd, 1) := by decide +kernel
theorem dX12_keeps_21 : decode cX12_keeps 21 = .ok (.iaload, 1) := by decide +kernel
theorem dX12_keeps_22 : decode cX12_keeps 22 = .ok (.iastore, 1) := by decide +kernel
theorem dX12_keeps_23 : decode cX12_keeps 23 = .ok (.iinc 1 1, 3) := by decide +kernel
theorem dX12_keeps_26 : decode cX12_keeps 26 = .ok (.goto (-24), 3) := by decide +kernel
theorem dX12_keeps_29 : decode cX12_keeps 29 = .ok (.return_, 1) := by decide +kernel
theorem dX12_makes_0 : decode cX12_makes 0 = .ok (.aload_n 0, 1) := by decide +kernel
theorem dX12_makes_1 : decode cX12_makes 1 = .ok (.getfield 160, 3) := by decide +kernel
theorem dX12_makes_4 : decode cX12_makes 4 = .ok (.bipush 60, 2) := by decide +kernel
theorem dX12_makes_6 : decode cX12_makes 6 = .ok (.if_icmp .ne 10, 3) := by decide +kernel
theorem dX12_makes_9 : decode cX12_makes 9 = .ok (.aload_n 0, 1) := by decide +kernel
theorem dX12_makes_10 : decode cX12_makes 10 = .ok (.iconst 3, 1) := by decide +kernel
theorem dX12_makes_11 : decode cX12_makes 11 = .ok (.iload_n 1, 1) := by decide +kernel
theorem dX12_makes_12 : decode cX12_makes 12 = .ok (.invokevirtual 120, 3) := by decide +kernel
theorem dX12_makes_15 : decode cX12_makes 15 = .ok (.ireturn, 1) := by decide +kernel
theorem dX12_makes_16 : decode cX12_makes 16 = .ok (.aload_n 0, 1) := by decide +kernel
theorem dX12_makes_17 : decode cX12_makes 17 = .ok (.dup, 1) := by decide +kernel
theorem dX12_makes_18 : decode cX12_makes 18 = .ok (.getfield 160, 3) := by decide +kernel
theorem dX12_makes_21 : decode cX12_makes 21 = .ok (.iconst 1, 1) := by decide +kernel
theorem dX12_makes_22 : decode cX12_makes 22 = .ok (.iadd, 1) := by decide +kernel
theorem dX12_makes_23 : decode cX12_makes 23 = .ok (.putfield 160, 3) := by decide +kernel
theorem dX12_makes_26 : decode cX12_makes 26 = .ok (.iconst 1, 1) := by decide +kernel
theorem dX12_makes_27 : decode cX12_makes 27 = .ok (.ireturn, 1) := by decide +kernel
theorem dX12_opens_0 : decode cX12_opens 0 = .ok (.aload_n 0, 1) := by decide +kernel
theorem dX12_opens_1 : decode cX12_opens 1 = .ok (.getfield 163, 3) := by decide +kernel
theorem dX12_opens_4 : decode cX12_opens 4 = .ok (.bipush 10, 2) := by decide +kernel
theorem dX12_opens_6 : decode cX12_opens 6 = .ok (.if_icmp .ne 13, 3) := by decide +kernel
theorem dX12_opens_9 : decode cX12_opens 9 = .ok (.aload_n 0, 1) := by decide +kernel
theorem dX12_opens_10 : decode cX12_opens 10 = .ok (.iconst 2, 1) := by decide +kernel
theorem dX12_opens_11 : decode cX12_opens 11 = .ok (.aload_n 0, 1) := by decide +kernel
theorem dX12_opens_12 : decode cX12_opens 12 = .ok (.getfield 99, 3) := by decide +kernel
theorem dX12_opens_15 : decode cX12_opens 15 = .ok (.invokevirtual 120, 3) := by decide +kernel
theorem dX12_opens_18 : decode cX12_opens 18 = .ok (.ireturn, 1) := by decide +kernel
theorem dX12_opens_19 : decode cX12_opens 19 = .ok (.aload_n 0, 1) := by decide +kernel
theorem dX12_opens_20 : decode cX12_opens 20 = .ok (.dup, 1) := by decide +kernel
theorem dX12_opens_21 : decode cX12_opens 21 = .ok (.getfield 163, 3) := by decide +kernel
theorem dX12_opens_24 : decode cX12_opens 24 = .ok (.iconst 1, 1) := by decide +kernel
theorem dX12_opens_25 : decode cX12_opens 25 = .ok (.iadd, 1) := by decide +kernel
theorem dX12_opens_26 : decode cX12_opens 26 = .ok (.putfield 163, 3) := by decide +kernel
theorem dX12_opens_29 : decode cX12_opens 29 = .ok (.aload_n 0, 1) := by decide +kernel
theorem dX12_opens_30 : decode cX12_opens 30 = .ok (.getfield 29, 3) := by decide +kernel
theorem dX12_opens_33 : decode cX12_opens 33 = .ok (.aload_n 0, 1) := by decide +kernel
theorem dX12_opens_34 : decode cX12_opens 34 = .ok (.getfield 166, 3) := by decide +kernel
theorem dX12_opens_37 : decode cX12_opens 37 = .ok (.iload_n 1, 1) := by decide +kernel
theorem dX12_opens_38 : decode cX12_opens 38 = .ok (.iastore, 1) := by decide +kernel
theorem dX12_opens_39 : decode cX12_opens 39 = .ok (.aload_n 0, 1) := by decide +kernel
theorem dX12_opens_40 : decode cX12_opens 40 = .ok (.dup, 1) := by decide +kernel
theorem dX12_opens_41 : decode cX12_opens 41 = .ok (.getfield 166, 3) := by decide +kernel
theorem dX12_opens_44 : decode cX12_opens 44 = .ok (.iconst 1, 1) := by decide +kernel
theorem dX12_opens_45 : decode cX12_opens 45 = .ok (.iadd, 1) := by decide +kernel
theorem dX12_opens_46 : decode cX12_opens 46 = .ok (.putfield 166, 3) := by decide +kernel
theorem dX12_opens_49 : decode cX12_opens 49 = .ok (.iconst 1, 1) := by decide +kernel
theorem dX12_opens_50 : decode cX12_opens 50 = .ok (.ireturn, 1) := by decide +kernel
theorem dX12_pence_0 : decode cX12_pence 0 = .ok (.aload_n 0, 1) := by decide +kernel
theorem dX12_pence_1 : decode cX12_pence 1 = .ok (.iload_n 2, 1) := by decide +kernel
theorem dX12_pence_2 : decode cX12_pence 2 = .ok (.invokevirtual 309, 3) := by decide +kernel
theorem dX12_pence_5 : decode cX12_pence 5 = .ok (.ifCond .eq 15, 3) := by decide +kernel
theorem dX12_pence_8 : decode cX12_pence 8 = .ok (.iload_n 1, 1) := by decide +kernel
theorem dX12_pence_9 : decode cX12_pence 9 = .ok (.i2l, 1) := by decide +kernel
theorem dX12_pence_10 : decode cX12_pence 10 = .ok (.lconst 0, 1) := by decide +kernel
theorem dX12_pence_11 : decode cX12_pence 11 = .ok (.ldc2_w 422, 3) := by decide +kernel
theorem dX12_pence_14 : decode cX12_pence 14 = .ok (.invokestatic 127, 3) := by decide +kernel
theorem dX12_pence_17 : decode cX12_pence 17 = .ok (.ifCond .ne 5, 3) := by decide +kernel
theorem dX12_pence_20 : decode cX12_pence 20 = .ok (.iconst (-1), 1) := by decide +kernel
theorem dX12_pence_21 : decode cX12_pence 21 = .ok (.ireturn, 1) := by decide +kernel
theorem dX12_pence_22 : decode cX12_pence 22 = .ok (.lconst 0, 1) := by decide +kernel
theorem dX12_pence_23 : decode cX12_pence 23 = .ok (.lstore_n 3, 1) := by decide +kernel
theorem dX12_pence_24 : decode cX12_pence 24 = .ok (.iconst 0, 1) := by decide +kernel
theorem dX12_pence_25 : decode cX12_pence 25 = .ok (.istore 5, 2) := by decide +kernel
theorem dX12_pence_27 : decode cX12_pence 27 = .ok (.iload 5, 2) := by decide +kernel
theorem dX12_pence_29 : decode cX12_pence 29 = .ok (.aload_n 0, 1) := by decide +kernel
theorem dX12_pence_30 : decode cX12_pence 30 = .ok (.getfield 39, 3) := by decide +kernel
theorem dX12_pence_33 : decode cX12_pence 33 = .ok (.iconst 4, 1) := by decide +kernel
theorem dX12_pence_34 : decode cX12_pence 34 = .ok (.iaload, 1) := by decide +kernel
theorem dX12_pence_35 : decode cX12_pence 35 = .ok (.if_icmp .ge 23, 3) := by decide +kernel
theorem dX12_pence_38 : decode cX12_pence 38 = .ok (.lload_n 3, 1) := by decide +kernel
theorem dX12_pence_39 : decode cX12_pence 39 = .ok (.aload_n 0, 1) := by decide +kernel
theorem dX12_pence_40 : decode cX12_pence 40 = .ok (.getfield 39, 3) := by decide +kernel
theorem dX12_pence_43 : decode cX12_pence 43 = .ok (.bipush 19, 2) := by decide +kernel
theorem dX12_pence_45 : decode cX12_pence 45 = .ok (.iload 5, 2) := by decide +kernel
theorem dX12_pence_47 : decode cX12_pence 47 = .ok (.iadd, 1) := by decide +kernel
theorem dX12_pence_48 : decode cX12_pence 48 = .ok (.iaload, 1) := by decide +kernel
theorem dX12_pence_49 : decode cX12_pence 49 = .ok (.i2l, 1) := by decide +kernel
theorem dX12_pence_50 : decode cX12_pence 50 = .ok (.ladd, 1) := by decide +kernel
theorem dX12_pence_51 : decode cX12_pence 51 = .ok (.lstore_n 3, 1) := by decide +kernel
theorem dX12_pence_52 : decode cX12_pence 52 = .ok (.iinc 5 1, 3) := by decide +kernel
theorem dX12_pence_55 : decode cX12_pence 55 = .ok (.goto (-28), 3) := by decide +kernel
theorem dX12_pence_58 : decode cX12_pence 58 = .ok (.lload_n 3, 1) := by decide +kernel
theorem dX12_pence_59 : decode cX12_pence 59 = .ok (.lconst 0, 1) := by decide +kernel
theorem dX12_pence_60 : decode cX12_pence 60 = .ok (.lcmp, 1) := by decide +kernel
theorem dX12_pence_61 : decode cX12_pence 61 = .ok (.ifCond .ne 5, 3) := by decide +kernel
theorem dX12_pence_64 : decode cX12_pence 64 = .ok (.iconst 0, 1) := by decide +kernel
theorem dX12_pence_65 : decode cX12_pence 65 = .ok (.ireturn, 1) := by decide +kernel
theorem dX12_pence_66 : decode cX12_pence 66 = .ok (.iload_n 1, 1) := by decide +kernel
theorem dX12_pence_67 : decode cX12_pence 67 = .ok (.i2l, 1) := by decide +kernel
theorem dX12_pence_68 : decode cX12_pence 68 = .ok (.aload_n 0, 1) := by decide +kernel
theorem dX12_pence_69 : decode cX12_pence 69 = .ok (.getfield 39, 3) := by decide +kernel
theorem dX12_pence_72 : decode cX12_pence 72 = .ok (.bipush 19, 2) := by decide +kernel
theorem dX12_pence_74 : decode cX12_pence 74 = .ok (.iload_n 2, 1) := by decide +kernel
theorem dX12_pence_75 : decode cX12_pence 75 = .ok (.iadd, 1) := by decide +kernel
theorem dX12_pence_76 : decode cX12_pence 76 = .ok (.iaload, 1) := by decide +kernel
theorem dX12_pence_77 : decode cX12_pence 77 = .ok (.i2l, 1) := by decide +kernel
theorem dX12_pence_78 : decode cX12_pence 78 = .ok (.lmul, 1) := by decide +kernel
theorem dX12_pence_79 : decode cX12_pence 79 = .ok (.lstore 5, 2) := by decide +kernel
theorem dX12_pence_81 : decode cX12_pence 81 = .ok (.iload_n 1, 1) := by decide +kernel
theorem dX12_pence_82 : decode cX12_pence 82 = .ok (.i2l, 1) := by decide +kernel
theorem dX12_pence_83 : decode cX12_pence 83 = .ok (.lstore 7, 2) := by decide +kernel
theorem dX12_pence_85 : decode cX12_pence 85 = .ok (.iconst 0, 1) := by decide +kernel
theorem dX12_pence_86 : decode cX12_pence 86 = .ok (.istore 9, 2) := by decide +kernel
theorem dX12_pence_88 : decode cX12_pence 88 = .ok (.iconst 0, 1) := by decide +kernel
theorem dX12_pence_89 : decode cX12_pence 89 = .ok (.istore 10, 2) := by decide +kernel
theorem dX12_pence_91 : decode cX12_pence 91 = .ok (.iload 10, 2) := by decide +kernel
theorem dX12_pence_93 : decode cX12_pence 93 = .ok (.aload_n 0, 1) := by decide +kernel
theorem dX12_pence_94 : decode cX12_pence 94 = .ok (.getfield 39, 3) := by decide +kernel
theorem dX12_pence_97 : decode cX12_pence 97 = .ok (.iconst 4, 1) := by decide +kernel
theorem dX12_pence_98 : decode cX12_pence 98 = .ok (.iaload, 1) := by decide +kernel
theorem dX12_pence_99 : decode cX12_pence 99 = .ok (.if_icmp .ge 74, 3) := by decide +kernel
theorem dX12_pence_102 : decode cX12_pence 102 = .ok (.iload_n 1, 1) := by decide +kernel
theorem dX12_pence_103 : decode cX12_pence 103 = .ok (.i2l, 1) := by decide +kernel
theorem dX12_pence_104 : decode cX12_pence 104 = .ok (.aload_n 0, 1) := by decide +kernel
theorem dX12_pence_105 : decode cX12_pence 105 = .ok (.getfield 39, 3) := by decide +kernel
theorem dX12_pence_108 : decode cX12_pence 108 = .ok (.bipush 19, 2) := by decide +kernel
theorem dX12_pence_110 : decode cX12_pence 110 = .ok (.iload 10, 2) := by decide +kernel
theorem dX12_pence_112 : decode cX12_pence 112 = .ok (.iadd, 1) := by decide +kernel
theorem dX12_pence_113 : decode cX12_pence 113 = .ok (.iaload, 1) := by decide +kernel
theorem dX12_pence_114 : decode cX12_pence 114 = .ok (.i2l, 1) := by decide +kernel
theorem dX12_pence_115 : decode cX12_pence 115 = .ok (.lmul, 1) := by decide +kernel
theorem dX12_pence_116 : decode cX12_pence 116 = .ok (.lstore 11, 2) := by decide +kernel
theorem dX12_pence_118 : decode cX12_pence 118 = .ok (.lload 7, 2) := by decide +kernel
theorem dX12_pence_120 : decode cX12_pence 120 = .ok (.lload 11, 2) := by decide +kernel
theorem dX12_pence_122 : decode cX12_pence 122 = .ok (.lload_n 3, 1) := by decide +kernel
theorem dX12_pence_123 : decode cX12_pence 123 = .ok (.ldiv, 1) := by decide +kernel
theorem dX12_pence_124 : decode cX12_pence 124 = .ok (.lsub, 1) := by decide +kernel
theorem dX12_pence_125 : decode cX12_pence 125 = .ok (.lstore 7, 2) := by decide +kernel
theorem dX12_pence_127 : decode cX12_pence 127 = .ok (.iload 9, 2) := by decide +kernel
theorem dX12_pence_129 : decode cX12_pence 129 = .ok (.lload 11, 2) := by decide +kernel
theorem dX12_pence_131 : decode cX12_pence 131 = .ok (.lload_n 3, 1) := by decide +kernel
theorem dX12_pence_132 : decode cX12_pence 132 = .ok (.lrem, 1) := by decide +kernel
theorem dX12_pence_133 : decode cX12_pence 133 = .ok (.lload 5, 2) := by decide +kernel
theorem dX12_pence_135 : decode cX12_pence 135 = .ok (.lload_n 3, 1) := by decide +kernel
theorem dX12_pence_136 : decode cX12_pence 136 = .ok (.lrem, 1) := by decide +kernel
theorem dX12_pence_137 : decode cX12_pence 137 = .ok (.lcmp, 1) := by decide +kernel
theorem dX12_pence_138 : decode cX12_pence 138 = .ok (.ifCond .gt 21, 3) := by decide +kernel
theorem dX12_pence_141 : decode cX12_pence 141 = .ok (.lload 11, 2) := by decide +kernel
theorem dX12_pence_143 : decode cX12_pence 143 = .ok (.lload_n 3, 1) := by decide +kernel
theorem dX12_pence_144 : decode cX12_pence 144 = .ok (.lrem, 1) := by decide +kernel
theorem dX12_pence_145 : decode cX12_pence 145 = .ok (.lload 5, 2) := by decide +kernel
theorem dX12_pence_147 : decode cX12_pence 147 = .ok (.lload_n 3, 1) := by decide +kernel
theorem dX12_pence_148 : decode cX12_pence 148 = .ok (.lrem, 1) := by decide +kernel
theorem dX12_pence_149 : decode cX12_pence 149 = .ok (.lcmp, 1) := by decide +kernel
theorem dX12_pence_150 : decode cX12_pence 150 = .ok (.ifCond .ne 13, 3) := by decide +kernel
theorem dX12_pence_153 : decode cX12_pence 153 = .ok (.iload 10, 2) := by decide +kernel
theorem dX12_pence_155 : decode cX12_pence 155 = .ok (.iload_n 2, 1) := by decide +kernel
theorem dX12_pence_156 : decode cX12_pence 156 = .ok (.if_icmp .ge 7, 3) := by decide +kernel
theorem dX12_pence_159 : decode cX12_pence 159 = .ok (.iconst 1, 1) := by decide +kernel
theorem dX12_pence_160 : decode cX12_pence 160 = .ok (.goto 4, 3) := by decide +kernel
theorem dX12_pence_163 : decode cX12_pence 163 = .ok (.iconst 0, 1) := by decide +kernel
theorem dX12_pence_164 : decode cX12_pence 164 = .ok (.iadd, 1) := by decide +kernel
theorem dX12_pence_165 : decode cX12_pence 165 = .ok (.istore 9, 2) := by decide +kernel
theorem dX12_pence_167 : decode cX12_pence 167 = .ok (.iinc 10 1, 3) := by decide +kernel
theorem dX12_pence_170 : decode cX12_pence 170 = .ok (.goto (-79), 3) := by decide +kernel
theorem dX12_pence_173 : decode cX12_pence 173 = .ok (.lload 5, 2) := by decide +kernel
theorem dX12_pence_175 : decode cX12_pence 175 = .ok (.lload_n 3, 1) := by decide +kernel
theorem dX12_pence_176 : decode cX12_pence 176 = .ok (.ldiv, 1) := by decide +kernel
theorem dX12_pence_177 : decode cX12_pence 177 = .ok (.l2i, 1) := by decide +kernel
theorem dX12_pence_178 : decode cX12_pence 178 = .ok (.iload 9, 2) := by decide +kernel
theorem dX12_pence_180 : decode cX12_pence 180 = .ok (.i2l, 1) := by decide +kernel
theorem dX12_pence_181 : decode cX12_pence 181 = .ok (.lload 7, 2) := by decide +kernel
theorem dX12_pence_183 : decode cX12_pence 183 = .ok (.lcmp, 1) := by decide +kernel
theorem dX12_pence_184 : decode cX12_pence 184 = .ok (.ifCond .ge 7, 3) := by decide +kernel
theorem dX12_pence_187 : decode cX12_pence 187 = .ok (.iconst 1, 1) := by decide +kernel
theorem dX12_pence_188 : decode cX12_pence 188 = .ok (.goto 4, 3) := by decide +kernel
theorem dX12_pence_191 : decode cX12_pence 191 = .ok (.iconst 0, 1) := by decide +kernel
theorem dX12_pence_192 : decode cX12_pence 192 = .ok (.iadd, 1) := by decide +kernel
theorem dX12_pence_193 : decode cX12_pence 193 = .ok (.ireturn, 1) := by decide +kernel
theorem dX12_rests_0 : decode cX12_rests 0 = .ok (.aload_n 0, 1) := by decide +kernel
theorem dX12_rests_1 : decode cX12_rests 1 = .ok (.iload_n 1, 1) := by decide +kernel
theorem dX12_rests_2 : decode cX12_rests 2 = .ok (.invokevirtual 314, 3) := by decide +kernel
theorem dX12_rests_5 : decode cX12_rests 5 = .ok (.ifCond .eq 41, 3) := by decide +kernel
theorem dX12_rests_8 : decode cX12_rests 8 = .ok (.aload_n 0, 1) := by decide +kernel
theorem dX12_rests_9 : decode cX12_rests 9 = .ok (.iload_n 2, 1) := by decide +kernel
theorem dX12_rests_10 : decode cX12_rests 10 = .ok (.invokevirtual 314, 3) := by decide +kernel
theorem dX12_rests_13 : decode cX12_rests 13 = .ok (.ifCond .eq 33, 3) := by decide +kernel
theorem dX12_rests_16 : decode cX12_rests 16 = .ok (.iload_n 1, 1) := by decide +kernel
theorem dX12_rests_17 : decode cX12_rests 17 = .ok (.iload_n 2, 1) := by decide +kernel
theorem dX12_rests_18 : decode cX12_rests 18 = .ok (.if_icmp .eq 28, 3) := by decide +kernel
theorem dX12_rests_21 : decode cX12_rests 21 = .ok (.iload_n 3, 1) := by decide +kernel
theorem dX12_rests_22 : decode cX12_rests 22 = .ok (.i2l, 1) := by decide +kernel
theorem dX12_rests_23 : decode cX12_rests 23 = .ok (.lconst 1, 1) := by decide +kernel
theorem dX12_rests_24 : decode cX12_rests 24 = .ok (.ldc2_w 366, 3) := by decide +kernel
theorem dX12_rests_27 : decode cX12_rests 27 = .ok (.invokestatic 127, 3) := by decide +kernel
theorem dX12_rests_30 : decode cX12_rests 30 = .ok (.ifCond .eq 16, 3) := by decide +kernel
theorem dX12_rests_33 : decode cX12_rests 33 = .ok (.iload 4, 2) := by decide +kernel
theorem dX12_rests_35 : decode cX12_rests 35 = .ok (.i2l, 1) := by decide +kernel
theorem dX12_rests_36 : decode cX12_rests 36 = .ok (.lconst 0, 1) := by decide +kernel
theorem dX12_rests_37 : decode cX12_rests 37 = .ok (.ldc2_w 312, 3) := by decide +kernel
theorem dX12_rests_40 : decode cX12_rests 40 = .ok (.invokestatic 127, 3) := by decide +kernel
theorem dX12_rests_43 : decode cX12_rests 43 = .ok (.ifCond .ne 5, 3) := by decide +kernel
theorem dX12_rests_46 : decode cX12_rests 46 = .ok (.iconst (-1), 1) := by decide +kernel
theorem dX12_rests_47 : decode cX12_rests 47 = .ok (.ireturn, 1) := by decide +kernel
theorem dX12_rests_48 : decode cX12_rests 48 = .ok (.aload_n 0, 1) := by decide +kernel
theorem dX12_rests_49 : decode cX12_rests 49 = .ok (.invokevirtual 372, 3) := by decide +kernel
theorem dX12_rests_52 : decode cX12_rests 52 = .ok (.iconst 0, 1) := by decide +kernel
theorem dX12_rests_53 : decode cX12_rests 53 = .ok (.istore 5, 2) := by decide +kernel
theorem dX12_rests_55 : decode cX12_rests 55 = .ok (.iload 5, 2) := by decide +kernel
theorem dX12_rests_57 : decode cX12_rests 57 = .ok (.aload_n 0, 1) := by decide +kernel
theorem dX12_rests_58 : decode cX12_rests 58 = .ok (.getfield 39, 3) := by decide +kernel
theorem dX12_rests_61 : decode cX12_rests 61 = .ok (.iconst 4, 1) := by decide +kernel
theorem dX12_rests_62 : decode cX12_rests 62 = .ok (.iaload, 1) := by decide +kernel
theorem dX12_rests_63 : decode cX12_rests 63 = .ok (.if_icmp .ge 40, 3) := by decide +kernel
theorem dX12_rests_66 : decode cX12_rests 66 = .ok (.iconst 0, 1) := by decide +kernel
theorem dX12_rests_67 : decode cX12_rests 67 = .ok (.istore 6, 2) := by decide +kernel
theorem dX12_rests_69 : decode cX12_rests 69 = .ok (.iload 6, 2) := by decide +kernel
theorem dX12_rests_71 : decode cX12_rests 71 = .ok (.aload_n 0, 1) := by decide +kernel
theorem dX12_rests_72 : decode cX12_rests 72 = .ok (.getfield 39, 3) := by decide +kernel
theorem dX12_rests_75 : decode cX12_rests 75 = .ok (.iconst 4, 1) := by decide +kernel
theorem dX12_rests_76 : decode cX12_rests 76 = .ok (.iaload, 1) := by decide +kernel
theorem dX12_rests_77 : decode cX12_rests 77 = .ok (.if_icmp .ge 20, 3) := by decide +kernel
theorem dX12_rests_80 : decode cX12_rests 80 = .ok (.aload_n 0, 1) := by decide +kernel
theorem dX12_rests_81 : decode cX12_rests 81 = .ok (.iload_n 1, 1) := by decide +kernel
theorem dX12_rests_82 : decode cX12_rests 82 = .ok (.iload_n 2, 1) := by decide +kernel
theorem dX12_rests_83 : decode cX12_rests 83 = .ok (.iload 5, 2) := by decide +kernel
theorem dX12_rests_85 : decode cX12_rests 85 = .ok (.iload 6, 2) := by decide +kernel
theorem dX12_rests_87 : decode cX12_rests 87 = .ok (.iload_n 3, 1) := by decide +kernel
theorem dX12_rests_88 : decode cX12_rests 88 = .ok (.invokevirtual 415, 3) := by decide +kernel
theorem dX12_rests_91 : decode cX12_rests 91 = .ok (.iinc 6 1, 3) := by decide +kernel
theorem dX12_rests_94 : decode cX12_rests 94 = .ok (.goto (-25), 3) := by decide +kernel
theorem dX12_rests_97 : decode cX12_rests 97 = .ok (.iinc 5 1, 3) := by decide +kernel
theorem dX12_rests_100 : decode cX12_rests 100 = .ok (.goto (-45), 3) := by decide +kernel
theorem dX12_rests_103 : decode cX12_rests 103 = .ok (.iconst 0, 1) := by decide +kernel
theorem dX12_rests_104 : decode cX12_rests 104 = .ok (.istore 5, 2) := by decide +kernel
theorem dX12_rests_106 : decode cX12_rests 106 = .ok (.iconst (-1), 1) := by decide +kernel
theorem dX12_rests_107 : decode cX12_rests 107 = .ok (.istore 6, 2) := by decide +kernel
theorem dX12_rests_109 : decode cX12_rests 109 = .ok (.aload_n 0, 1) := by decide +kernel
theorem dX12_rests_110 : decode cX12_rests 110 = .ok (.getfield 39, 3) := by decide +kernel
theorem dX12_rests_113 : decode cX12_rests 113 = .ok (.iconst 4, 1) := by decide +kernel
theorem dX12_rests_114 : decode cX12_rests 114 = .ok (.iaload, 1) := by decide +kernel
theorem dX12_rests_115 : decode cX12_rests 115 = .ok (.iconst 1, 1) := by decide +kernel
theorem dX12_rests_116 : decode cX12_rests 116 = .ok (.isub, 1) := by decide +kernel
theorem dX12_rests_117 : decode cX12_rests 117 = .ok (.istore 7, 2) := by decide +kernel
theorem dX12_rests_119 : decode cX12_rests 119 = .ok (.iload 7, 2) := by decide +kernel
theorem dX12_rests_121 : decode cX12_rests 121 = .ok (.ifCond .lt 57, 3) := by decide +kernel
theorem dX12_rests_124 : decode cX12_rests 124 = .ok (.aload_n 0, 1) := by decide +kernel
theorem dX12_rests_125 : decode cX12_rests 125 = .ok (.getfield 39, 3) := by decide +kernel
theorem dX12_rests_128 : decode cX12_rests 128 = .ok (.iconst 4, 1) := by decide +kernel
theorem dX12_rests_129 : decode cX12_rests 129 = .ok (.iaload, 1) := by decide +kernel
theorem dX12_rests_130 : decode cX12_rests 130 = .ok (.iconst 1, 1) := by decide +kernel
theorem dX12_rests_131 : decode cX12_rests 131 = .ok (.isub, 1) := by decide +kernel
theorem dX12_rests_132 : decode cX12_rests 132 = .ok (.istore 8, 2) := by decide +kernel
theorem dX12_rests_134 : decode cX12_rests 134 = .ok (.iload 8, 2) := by decide +kernel
theorem dX12_rests_136 : decode cX12_rests 136 = .ok (.ifCond .lt 36, 3) := by decide +kernel
theorem dX12_rests_139 : decode cX12_rests 139 = .ok (.aload_n 0, 1) := by decide +kernel
theorem dX12_rests_140 : decode cX12_rests 140 = .ok (.iload 7, 2) := by decide +kernel
theorem dX12_rests_142 : decode cX12_rests 142 = .ok (.iload 8, 2) := by decide +kernel
theorem dX12_rests_144 : decode cX12_rests 144 = .ok (.invokevirtual 419, 3) := by decide +kernel
theorem dX12_rests_147 : decode cX12_rests 147 = .ok (.ifCond .ne 6, 3) := by decide +kernel
theorem dX12_rests_150 : decode cX12_rests 150 = .ok (.goto 16, 3) := by decide +kernel
theorem dX12_rests_153 : decode cX12_rests 153 = .ok (.bipush 6, 2) := by decide +kernel
theorem dX12_rests_155 : decode cX12_rests 155 = .ok (.iload 7, 2) := by decide +kernel
theorem dX12_rests_157 : decode cX12_rests 157 = .ok (.imul, 1) := by decide +kernel
theorem dX12_rests_158 : decode cX12_rests 158 = .ok (.iload 8, 2) := by decide +kernel
theorem dX12_rests_160 : decode cX12_rests 160 = .ok (.iadd, 1) := by decide +kernel
theorem dX12_rests_161 : decode cX12_rests 161 = .ok (.istore 6, 2) := by decide +kernel
theorem dX12_rests_163 : decode cX12_rests 163 = .ok (.iinc 5 1, 3) := by decide +kernel
theorem dX12_rests_166 : decode cX12_rests 166 = .ok (.iinc 8 (-1), 3) := by decide +kernel
theorem dX12_rests_169 : decode cX12_rests 169 = .ok (.goto (-35), 3) := by decide +kernel
theorem dX12_rests_172 : decode cX12_rests 172 = .ok (.iinc 7 (-1), 3) := by decide +kernel
theorem dX12_rests_175 : decode cX12_rests 175 = .ok (.goto (-56), 3) := by decide +kernel
theorem dX12_rests_178 : decode cX12_rests 178 = .ok (.iload 4, 2) := by decide +kernel
theorem dX12_rests_180 : decode cX12_rests 180 = .ok (.ifCond .ne 6, 3) := by decide +kernel
theorem dX12_rests_183 : decode cX12_rests 183 = .ok (.iload 5, 2) := by decide +kernel
theorem dX12_rests_185 : decode cX12_rests 185 = .ok (.ireturn, 1) := by decide +kernel
theorem dX12_rests_186 : decode cX12_rests 186 = .ok (.iload 6, 2) := by decide +kernel
theorem dX12_rests_188 : decode cX12_rests 188 = .ok (.ifCond .ge 8, 3) := by decide +kernel
theorem dX12_rests_191 : decode cX12_rests 191 = .ok (.bipush (-2), 2) := by decide +kernel
theorem dX12_rests_193 : decode cX12_rests 193 = .ok (.goto 22, 3) := by decide +kernel
theorem dX12_rests_196 : decode cX12_rests 196 = .ok (.iload 4, 2) := by decide +kernel
theorem dX12_rests_198 : decode cX12_rests 198 = .ok (.iconst 1, 1) := by decide +kernel
theorem dX12_rests_199 : decode cX12_rests 199 = .ok (.if_icmp .ne 11, 3) := by decide +kernel
theorem dX12_rests_202 : decode cX12_rests 202 = .ok (.iload 6, 2) := by decide +kernel
theorem dX12_rests_204 : decode cX12_rests 204 = .ok (.bipush 6, 2) := by decide +kernel
theorem dX12_rests_206 : decode cX12_rests 206 = .ok (.idiv, 1) := by decide +kernel
theorem dX12_rests_207 : decode cX12_rests 207 = .ok (.goto 8, 3) := by decide +kernel
theorem dX12_rests_210 : decode cX12_rests 210 = .ok (.iload 6, 2) := by decide +kernel
theorem dX12_rests_212 : decode cX12_rests 212 = .ok (.bipush 6, 2) := by decide +kernel
theorem dX12_rests_214 : decode cX12_rests 214 = .ok (.irem, 1) := by decide +kernel
theorem dX12_rests_215 : decode cX12_rests 215 = .ok (.ireturn, 1) := by decide +kernel
theorem dX12_round_0 : decode cX12_round 0 = .ok (.aload_n 0, 1) := by decide +kernel
theorem dX12_round_1 : decode cX12_round 1 = .ok (.invokevirtual 294, 3) := by decide +kernel
theorem dX12_round_4 : decode cX12_round 4 = .ok (.ifCond .eq 16, 3) := by decide +kernel
theorem dX12_round_7 : decode cX12_round 7 = .ok (.aload_n 0, 1) := by decide +kernel
theorem dX12_round_8 : decode cX12_round 8 = .ok (.getfield 39, 3) := by decide +kernel
theorem dX12_round_11 : decode cX12_round 11 = .ok (.bipush 10, 2) := by decide +kernel
theorem dX12_round_13 : decode cX12_round 13 = .ok (.iaload, 1) := by decide +kernel
theorem dX12_round_14 : decode cX12_round 14 = .ok (.sipush 999, 3) := by decide +kernel
theorem dX12_round_17 : decode cX12_round 17 = .ok (.if_icmp .ne 5, 3) := by decide +kernel
theorem dX12_round_20 : decode cX12_round 20 = .ok (.iconst (-1), 1) := by decide +kernel
theorem dX12_round_21 : decode cX12_round 21 = .ok (.ireturn, 1) := by decide +kernel
theorem dX12_round_22 : decode cX12_round 22 = .ok (.aload_n 0, 1) := by decide +kernel
theorem dX12_round_23 : decode cX12_round 23 = .ok (.invokevirtual 363, 3) := by decide +kernel
theorem dX12_round_26 : decode cX12_round 26 = .ok (.aload_n 0, 1) := by decide +kernel
theorem dX12_round_27 : decode cX12_round 27 = .ok (.invokevirtual 360, 3) := by decide +kernel
theorem dX12_round_30 : decode cX12_round 30 = .ok (.ireturn, 1) := by decide +kernel
theorem dX12_ruled_0 : decode cX12_ruled 0 = .ok (.aload_n 0, 1) := by decide +kernel
theorem dX12_ruled_1 : decode cX12_ruled 1 = .ok (.invokevirtual 294, 3) := by decide +kernel
theorem dX12_ruled_4 : decode cX12_ruled 4 = .ok (.ifCond .eq 13, 3) := by decide +kernel
theorem dX12_ruled_7 : decode cX12_ruled 7 = .ok (.iload_n 1, 1) := by decide +kernel
theorem dX12_ruled_8 : decode cX12_ruled 8 = .ok (.i2l, 1) := by decide +kernel
theorem dX12_ruled_9 : decode cX12_ruled 9 = .ok (.lconst 0, 1) := by decide +kernel
theorem dX12_ruled_10 : decode cX12_ruled 10 = .ok (.lconst 1, 1) := by decide +kernel
theorem dX12_ruled_11 : decode cX12_ruled 11 = .ok (.invokestatic 127, 3) := by decide +kernel
theorem dX12_ruled_14 : decode cX12_ruled 14 = .ok (.ifCond .ne 6, 3) := by decide +kernel
theorem dX12_ruled_17 : decode cX12_ruled 17 = .ok (.bipush (-3), 2) := by decide +kernel
theorem dX12_ruled_19 : decode cX12_ruled 19 = .ok (.ireturn, 1) := by decide +kernel
theorem dX12_ruled_20 : decode cX12_ruled 20 = .ok (.aload_n 0, 1) := by decide +kernel
theorem dX12_ruled_21 : decode cX12_ruled 21 = .ok (.iconst 0, 1) := by decide +kernel
theorem dX12_ruled_22 : decode cX12_ruled 22 = .ok (.invokevirtual 432, 3) := by decide +kernel
theorem dX12_ruled_25 : decode cX12_ruled 25 = .ok (.iconst 0, 1) := by decide +kernel
theorem dX12_ruled_26 : decode cX12_ruled 26 = .ok (.istore_n 2, 1) := by decide +kernel
theorem dX12_ruled_27 : decode cX12_ruled 27 = .ok (.bipush (-2), 2) := by decide +kernel
theorem dX12_ruled_29 : decode cX12_ruled 29 = .ok (.istore_n 3, 1) := by decide +kernel
theorem dX12_ruled_30 : decode cX12_ruled 30 = .ok (.aload_n 0, 1) := by decide +kernel
theorem dX12_ruled_31 : decode cX12_ruled 31 = .ok (.getfield 267, 3) := by decide +kernel
theorem dX12_ruled_34 : decode cX12_ruled 34 = .ok (.istore 4, 2) := by decide +kernel
theorem dX12_ruled_36 : decode cX12_ruled 36 = .ok (.iload 4, 2) := by decide +kernel
theorem dX12_ruled_38 : decode cX12_ruled 38 = .ok (.ifCond .lt 30, 3) := by decide +kernel
theorem dX12_ruled_41 : decode cX12_ruled 41 = .ok (.aload_n 0, 1) := by decide +kernel
theorem dX12_ruled_42 : decode cX12_ruled 42 = .ok (.getfield 70, 3) := by decide +kernel
theorem dX12_ruled_45 : decode cX12_ruled 45 = .ok (.iload 4, 2) := by decide +kernel
theorem dX12_ruled_47 : decode cX12_ruled 47 = .ok (.baload, 1) := by decide +kernel
theorem dX12_ruled_48 : decode cX12_ruled 48 = .ok (.ifCond .ne 6, 3) := by decide +kernel
theorem dX12_ruled_51 : decode cX12_ruled 51 = .ok (.goto 11, 3) := by decide +kernel
theorem dX12_ruled_54 : decode cX12_ruled 54 = .ok (.iload 4, 2) := by decide +kernel
theorem dX12_ruled_56 : decode cX12_ruled 56 = .ok (.iconst 1, 1) := by decide +kernel
theorem dX12_ruled_57 : decode cX12_ruled 57 = .ok (.isub, 1) := by decide +kernel
theorem dX12_ruled_58 : decode cX12_ruled 58 = .ok (.istore_n 3, 1) := by decide +kernel
theorem dX12_ruled_59 : decode cX12_ruled 59 = .ok (.iinc 2 1, 3) := by decide +kernel
theorem dX12_ruled_62 : decode cX12_ruled 62 = .ok (.iinc 4 (-1), 3) := by decide +kernel
theorem dX12_ruled_65 : decode cX12_ruled 65 = .ok (.goto (-29), 3) := by decide +kernel
theorem dX12_ruled_68 : decode cX12_ruled 68 = .ok (.iload_n 1, 1) := by decide +kernel
theorem dX12_ruled_69 : decode cX12_ruled 69 = .ok (.ifCond .ne 7, 3) := by decide +kernel
theorem dX12_ruled_72 : decode cX12_ruled 72 = .ok (.iload_n 2, 1) := by decide +kernel
theorem dX12_ruled_73 : decode cX12_ruled 73 = .ok (.goto 4, 3) := by decide +kernel
theorem dX12_ruled_76 : decode cX12_ruled 76 = .ok (.iload_n 3, 1) := by decide +kernel
theorem dX12_ruled_77 : decode cX12_ruled 77 = .ok (.ireturn, 1) := by decide +kernel
theorem dX12_shoot_0 : decode cX12_shoot 0 = .ok (.aload_n 0, 1) := by decide +kernel
theorem dX12_shoot_1 : decode cX12_shoot 1 = .ok (.iload_n 1, 1) := by decide +kernel
theorem dX12_shoot_2 : decode cX12_shoot 2 = .ok (.invokevirtual 314, 3) := by decide +kernel
theorem dX12_shoot_5 : decode cX12_shoot 5 = .ok (.ifCond .eq 19, 3) := by decide +kernel
theorem dX12_shoot_8 : decode cX12_shoot 8 = .ok (.aload_n 0, 1) := by decide +kernel
theorem dX12_shoot_9 : decode cX12_shoot 9 = .ok (.iload_n 2, 1) := by decide +kernel
theorem dX12_shoot_10 : decode cX12_shoot 10 = .ok (.invokevirtual 309, 3) := by decide +kernel
theorem dX12_shoot_13 : decode cX12_shoot 13 = .ok (.ifCond .eq 11, 3) := by decide +kernel
theorem dX12_shoot_16 : decode cX12_shoot 16 = .ok (.aload_n 0, 1) := by decide +kernel
theorem dX12_shoot_17 : decode cX12_shoot 17 = .ok (.iload_n 1, 1) := by decide +kernel
theorem dX12_shoot_18 : decode cX12_shoot 18 = .ok (.invokevirtual 320, 3) := by decide +kernel
theorem dX12_shoot_21 : decode cX12_shoot 21 = .ok (.ifCond .ne 5, 3) := by decide +kernel
theorem dX12_shoot_24 : decode cX12_shoot 24 = .ok (.iconst (-1), 1) := by decide +kernel
theorem dX12_shoot_25 : decode cX12_shoot 25 = .ok (.ireturn, 1) := by decide +kernel
theorem dX12_shoot_26 : decode cX12_shoot 26 = .ok (.aload_n 0, 1) := by decide +kernel
theorem dX12_shoot_27 : decode cX12_shoot 27 = .ok (.invokevirtual 363, 3) := by decide +kernel
theorem dX12_shoot_30 : decode cX12_shoot 30 = .ok (.aload_n 0, 1) := by decide +kernel
theorem dX12_shoot_31 : decode cX12_shoot 31 = .ok (.iload_n 1, 1) := by decide +kernel
theorem dX12_shoot_32 : decode cX12_shoot 32 = .ok (.iload_n 2, 1) := by decide +kernel
theorem dX12_shoot_33 : decode cX12_shoot 33 = .ok (.invokevirtual 354, 3) := by decide +kernel
theorem dX12_shoot_36 : decode cX12_shoot 36 = .ok (.istore_n 3, 1) := by decide +kernel
theorem dX12_shoot_37 : decode cX12_shoot 37 = .ok (.iload_n 3, 1) := by decide +kernel
theorem dX12_shoot_38 : decode cX12_shoot 38 = .ok (.ifCond .ge 8, 3) := by decide +kernel
theorem dX12_shoot_41 : decode cX12_shoot 41 = .ok (.bipush (-2), 2) := by decide +kernel
theorem dX12_shoot_43 : decode cX12_shoot 43 = .ok (.goto 4, 3) := by decide +kernel
theorem dX12_shoot_46 : decode cX12_shoot 46 = .ok (.iload_n 3, 1) := by decide +kernel
theorem dX12_shoot_47 : decode cX12_shoot 47 = .ok (.ireturn, 1) := by decide +kernel
theorem dX12_sumOf_0 : decode cX12_sumOf 0 = .ok (.aload_n 0, 1) := by decide +kernel
theorem dX12_sumOf_1 : decode cX12_sumOf 1 = .ok (.getfield 36, 3) := by decide +kernel
theorem dX12_sumOf_4 : decode cX12_sumOf 4 = .ok (.iconst 0, 1) := by decide +kernel
theorem dX12_sumOf_5 : decode cX12_sumOf 5 = .ok (.iload_n 1, 1) := by decide +kernel
theorem dX12_sumOf_6 : decode cX12_sumOf 6 = .ok (.i2l, 1) := by decide +kernel
theorem dX12_sumOf_7 : decode cX12_sumOf 7 = .ok (.lastore, 1) := by decide +kernel
theorem dX12_sumOf_8 : decode cX12_sumOf 8 = .ok (.aload_n 0, 1) := by decide +kernel
theorem dX12_sumOf_9 : decode cX12_sumOf 9 = .ok (.getfield 36, 3) := by decide +kernel
theorem dX12_sumOf_12 : decode cX12_sumOf 12 = .ok (.iconst 1, 1) := by decide +kernel
theorem dX12_sumOf_13 : decode cX12_sumOf 13 = .ok (.iload_n 2, 1) := by decide +kernel
theorem dX12_sumOf_14 : decode cX12_sumOf 14 = .ok (.i2l, 1) := by decide +kernel
theorem dX12_sumOf_15 : decode cX12_sumOf 15 = .ok (.lastore, 1) := by decide +kernel
theorem dX12_sumOf_16 : decode cX12_sumOf 16 = .ok (.aload_n 0, 1) := by decide +kernel
theorem dX12_sumOf_17 : decode cX12_sumOf 17 = .ok (.getfield 36, 3) := by decide +kernel
theorem dX12_sumOf_20 : decode cX12_sumOf 20 = .ok (.iconst 2, 1) := by decide +kernel
theorem dX12_sumOf_21 : decode cX12_sumOf 21 = .ok (.aload_n 0, 1) := by decide +kernel
theorem dX12_sumOf_22 : decode cX12_sumOf 22 = .ok (.getfield 39, 3) := by decide +kernel
theorem dX12_sumOf_25 : decode cX12_sumOf 25 = .ok (.bipush 46, 2) := by decide +kernel
theorem dX12_sumOf_27 : decode cX12_sumOf 27 = .ok (.iload_n 1, 1) := by decide +kernel
theorem dX12_sumOf_28 : decode cX12_sumOf 28 = .ok (.iadd, 1) := by decide +kernel
theorem dX12_sumOf_29 : decode cX12_sumOf 29 = .ok (.iaload, 1) := by decide +kernel
theorem dX12_sumOf_30 : decode cX12_sumOf 30 = .ok (.iload_n 2, 1) := by decide +kernel
theorem dX12_sumOf_31 : decode cX12_sumOf 31 = .ok (.if_icmp .ne 7, 3) := by decide +kernel
theorem dX12_sumOf_34 : decode cX12_sumOf 34 = .ok (.lconst 1, 1) := by decide +kernel
theorem dX12_sumOf_35 : decode cX12_sumOf 35 = .ok (.goto 4, 3) := by decide +kernel
theorem dX12_sumOf_38 : decode cX12_sumOf 38 = .ok (.lconst 0, 1) := by decide +kernel
theorem dX12_sumOf_39 : decode cX12_sumOf 39 = .ok (.lastore, 1) := by decide +kernel
theorem dX12_sumOf_40 : decode cX12_sumOf 40 = .ok (.aload_n 0, 1) := by decide +kernel
theorem dX12_sumOf_41 : decode cX12_sumOf 41 = .ok (.getfield 36, 3) := by decide +kernel
theorem dX12_sumOf_44 : decode cX12_sumOf 44 = .ok (.iconst 3, 1) := by decide +kernel
theorem dX12_sumOf_45 : decode cX12_sumOf 45 = .ok (.aload_n 0, 1) := by decide +kernel
theorem dX12_sumOf_46 : decode cX12_sumOf 46 = .ok (.getfield 39, 3) := by decide +kernel
theorem dX12_sumOf_49 : decode cX12_sumOf 49 = .ok (.bipush 13, 2) := by decide +kernel
theorem dX12_sumOf_51 : decode cX12_sumOf 51 = .ok (.iload_n 2, 1) := by decide +kernel
theorem dX12_sumOf_52 : decode cX12_sumOf 52 = .ok (.iadd, 1) := by decide +kernel
theorem dX12_sumOf_53 : decode cX12_sumOf 53 = .ok (.iaload, 1) := by decide +kernel
theorem dX12_sumOf_54 : decode cX12_sumOf 54 = .ok (.i2l, 1) := by decide +kernel
theorem dX12_sumOf_55 : decode cX12_sumOf 55 = .ok (.lastore, 1) := by decide +kernel
theorem dX12_sumOf_56 : decode cX12_sumOf 56 = .ok (.aload_n 0, 1) := by decide +kernel
theorem dX12_sumOf_57 : decode cX12_sumOf 57 = .ok (.getfield 36, 3) := by decide +kernel
theorem dX12_sumOf_60 : decode cX12_sumOf 60 = .ok (.iconst 4, 1) := by decide +kernel
theorem dX12_sumOf_61 : decode cX12_sumOf 61 = .ok (.aload_n 0, 1) := by decide +kernel
theorem dX12_sumOf_62 : decode cX12_sumOf 62 = .ok (.getfield 39, 3) := by decide +kernel
theorem dX12_sumOf_65 : decode cX12_sumOf 65 = .ok (.bipush 40, 2) := by decide +kernel
theorem dX12_sumOf_67 : decode cX12_sumOf 67 = .ok (.iload_n 2, 1) := by decide +kernel
theorem dX12_sumOf_68 : decode cX12_sumOf 68 = .ok (.iadd, 1) := by decide +kernel
theorem dX12_sumOf_69 : decode cX12_sumOf 69 = .ok (.iaload, 1) := by decide +kernel
theorem dX12_sumOf_70 : decode cX12_sumOf 70 = .ok (.i2l, 1) := by decide +kernel
theorem dX12_sumOf_71 : decode cX12_sumOf 71 = .ok (.lastore, 1) := by decide +kernel
theorem dX12_sumOf_72 : decode cX12_sumOf 72 = .ok (.aload_n 0, 1) := by decide +kernel
theorem dX12_sumOf_73 : decode cX12_sumOf 73 = .ok (.getfield 36, 3) := by decide +kernel
theorem dX12_sumOf_76 : decode cX12_sumOf 76 = .ok (.iconst 5, 1) := by decide +kernel
theorem dX12_sumOf_77 : decode cX12_sumOf 77 = .ok (.aload_n 0, 1) := by decide +kernel
theorem dX12_sumOf_78 : decode cX12_sumOf 78 = .ok (.getfield 39, 3) := by decide +kernel
theorem dX12_sumOf_81 : decode cX12_sumOf 81 = .ok (.bipush 19, 2) := by decide +kernel
theorem dX12_sumOf_83 : decode cX12_sumOf 83 = .ok (.iload_n 2, 1) := by decide +kernel
theorem dX12_sumOf_84 : decode cX12_sumOf 84 = .ok (.iadd, 1) := by decide +kernel
theorem dX12_sumOf_85 : decode cX12_sumOf 85 = .ok (.iaload, 1) := by decide +kernel
theorem dX12_sumOf_86 : decode cX12_sumOf 86 = .ok (.i2l, 1) := by decide +kernel
theorem dX12_sumOf_87 : decode cX12_sumOf 87 = .ok (.lastore, 1) := by decide +kernel
theorem dX12_sumOf_88 : decode cX12_sumOf 88 = .ok (.aload_n 0, 1) := by decide +kernel
theorem dX12_sumOf_89 : decode cX12_sumOf 89 = .ok (.getfield 36, 3) := by decide +kernel
theorem dX12_sumOf_92 : decode cX12_sumOf 92 = .ok (.bipush 6, 2) := by decide +kernel
theorem dX12_sumOf_94 : decode cX12_sumOf 94 = .ok (.aload_n 0, 1) := by decide +kernel
theorem dX12_sumOf_95 : decode cX12_sumOf 95 = .ok (.iload_n 1, 1) := by decide +kernel
theorem dX12_sumOf_96 : decode cX12_sumOf 96 = .ok (.invokevirtual 303, 3) := by decide +kernel
theorem dX12_sumOf_99 : decode cX12_sumOf 99 = .ok (.i2l, 1) := by decide +kernel
theorem dX12_sumOf_100 : decode cX12_sumOf 100 = .ok (.lastore, 1) := by decide +kernel
theorem dX12_sumOf_101 : decode cX12_sumOf 101 = .ok (.aload_n 0, 1) := by decide +kernel
theorem dX12_sumOf_102 : decode cX12_sumOf 102 = .ok (.getfield 36, 3) := by decide +kernel
theorem dX12_sumOf_105 : decode cX12_sumOf 105 = .ok (.bipush 7, 2) := by decide +kernel
theorem dX12_sumOf_107 : decode cX12_sumOf 107 = .ok (.aload_n 0, 1) := by decide +kernel
theorem dX12_sumOf_108 : decode cX12_sumOf 108 = .ok (.getfield 39, 3) := by decide +kernel
theorem dX12_sumOf_111 : decode cX12_sumOf 111 = .ok (.bipush 51, 2) := by decide +kernel
theorem dX12_sumOf_113 : decode cX12_sumOf 113 = .ok (.iload_n 1, 1) := by decide +kernel
theorem dX12_sumOf_114 : decode cX12_sumOf 114 = .ok (.iadd, 1) := by decide +kernel
theorem dX12_sumOf_115 : decode cX12_sumOf 115 = .ok (.iaload, 1) := by decide +kernel
theorem dX12_sumOf_116 : decode cX12_sumOf 116 = .ok (.i2l, 1) := by decide +kernel
theorem dX12_sumOf_117 : decode cX12_sumOf 117 = .ok (.lastore, 1) := by decide +kernel
theorem dX12_sumOf_118 : decode cX12_sumOf 118 = .ok (.aload_n 0, 1) := by decide +kernel
theorem dX12_sumOf_119 : decode cX12_sumOf 119 = .ok (.getfield 36, 3) := by decide +kernel
theorem dX12_sumOf_122 : decode cX12_sumOf 122 = .ok (.bipush 8, 2) := by decide +kernel
theorem dX12_sumOf_124 : decode cX12_sumOf 124 = .ok (.aload_n 0, 1) := by decide +kernel
theorem dX12_sumOf_125 : decode cX12_sumOf 125 = .ok (.iload_n 1, 1) := by decide +kernel
theorem dX12_sumOf_126 : decode cX12_sumOf 126 = .ok (.invokevirtual 317, 3) := by decide +kernel
theorem dX12_sumOf_129 : decode cX12_sumOf 129 = .ok (.i2l, 1) := by decide +kernel
theorem dX12_sumOf_130 : decode cX12_sumOf 130 = .ok (.lastore, 1) := by decide +kernel
theorem dX12_sumOf_131 : decode cX12_sumOf 131 = .ok (.aload_n 0, 1) := by decide +kernel
theorem dX12_sumOf_132 : decode cX12_sumOf 132 = .ok (.getfield 36, 3) := by decide +kernel
theorem dX12_sumOf_135 : decode cX12_sumOf 135 = .ok (.bipush 9, 2) := by decide +kernel
theorem dX12_sumOf_137 : decode cX12_sumOf 137 = .ok (.aload_n 0, 1) := by decide +kernel
theorem dX12_sumOf_138 : decode cX12_sumOf 138 = .ok (.iload_n 1, 1) := by decide +kernel
theorem dX12_sumOf_139 : decode cX12_sumOf 139 = .ok (.invokevirtual 320, 3) := by decide +kernel
theorem dX12_sumOf_142 : decode cX12_sumOf 142 = .ok (.i2l, 1) := by decide +kernel
theorem dX12_sumOf_143 : decode cX12_sumOf 143 = .ok (.lastore, 1) := by decide +kernel
theorem dX12_sumOf_144 : decode cX12_sumOf 144 = .ok (.aload_n 0, 1) := by decide +kernel
theorem dX12_sumOf_145 : decode cX12_sumOf 145 = .ok (.getfield 36, 3) := by decide +kernel
theorem dX12_sumOf_148 : decode cX12_sumOf 148 = .ok (.bipush 10, 2) := by decide +kernel
theorem dX12_sumOf_150 : decode cX12_sumOf 150 = .ok (.aload_n 0, 1) := by decide +kernel
theorem dX12_sumOf_151 : decode cX12_sumOf 151 = .ok (.invokevirtual 300, 3) := by decide +kernel
theorem dX12_sumOf_154 : decode cX12_sumOf 154 = .ok (.i2l, 1) := by decide +kernel
theorem dX12_sumOf_155 : decode cX12_sumOf 155 = .ok (.lastore, 1) := by decide +kernel
theorem dX12_sumOf_156 : decode cX12_sumOf 156 = .ok (.aload_n 0, 1) := by decide +kernel
theorem dX12_sumOf_157 : decode cX12_sumOf 157 = .ok (.getfield 36, 3) := by decide +kernel
theorem dX12_sumOf_160 : decode cX12_sumOf 160 = .ok (.bipush 11, 2) := by decide +kernel
theorem dX12_sumOf_162 : decode cX12_sumOf 162 = .ok (.aload_n 0, 1) := by decide +kernel
theorem dX12_sumOf_163 : decode cX12_sumOf 163 = .ok (.iload_n 1, 1) := by decide +kernel
theorem dX12_sumOf_164 : decode cX12_sumOf 164 = .ok (.invokevirtual 330, 3) := by decide +kernel
theorem dX12_sumOf_167 : decode cX12_sumOf 167 = .ok (.i2l, 1) := by decide +kernel
theorem dX12_sumOf_168 : decode cX12_sumOf 168 = .ok (.lastore, 1) := by decide +kernel
theorem dX12_sumOf_169 : decode cX12_sumOf 169 = .ok (.aload_n 0, 1) := by decide +kernel
theorem dX12_sumOf_170 : decode cX12_sumOf 170 = .ok (.getfield 36, 3) := by decide +kernel
theorem dX12_sumOf_173 : decode cX12_sumOf 173 = .ok (.bipush 12, 2) := by decide +kernel
theorem dX12_sumOf_175 : decode cX12_sumOf 175 = .ok (.aload_n 0, 1) := by decide +kernel
theorem dX12_sumOf_176 : decode cX12_sumOf 176 = .ok (.getfield 39, 3) := by decide +kernel
theorem dX12_sumOf_179 : decode cX12_sumOf 179 = .ok (.bipush 10, 2) := by decide +kernel
theorem dX12_sumOf_181 : decode cX12_sumOf 181 = .ok (.iaload, 1) := by decide +kernel
theorem dX12_sumOf_182 : decode cX12_sumOf 182 = .ok (.i2l, 1) := by decide +kernel
theorem dX12_sumOf_183 : decode cX12_sumOf 183 = .ok (.lastore, 1) := by decide +kernel
theorem dX12_sumOf_184 : decode cX12_sumOf 184 = .ok (.aload_n 0, 1) := by decide +kernel
theorem dX12_sumOf_185 : decode cX12_sumOf 185 = .ok (.aload_n 0, 1) := by decide +kernel
theorem dX12_sumOf_186 : decode cX12_sumOf 186 = .ok (.getfield 42, 3) := by decide +kernel
theorem dX12_sumOf_189 : decode cX12_sumOf 189 = .ok (.invokevirtual 333, 3) := by decide +kernel
theorem dX12_sumOf_192 : decode cX12_sumOf 192 = .ok (.lreturn, 1) := by decide +kernel
theorem dX12_teach_0 : decode cX12_teach 0 = .ok (.aload_n 0, 1) := by decide +kernel
theorem dX12_teach_1 : decode cX12_teach 1 = .ok (.iload_n 1, 1) := by decide +kernel
theorem dX12_teach_2 : decode cX12_teach 2 = .ok (.invokevirtual 314, 3) := by decide +kernel
theorem dX12_teach_5 : decode cX12_teach 5 = .ok (.ifCond .eq 24, 3) := by decide +kernel
theorem dX12_teach_8 : decode cX12_teach 8 = .ok (.iload_n 2, 1) := by decide +kernel
theorem dX12_teach_9 : decode cX12_teach 9 = .ok (.i2l, 1) := by decide +kernel
theorem dX12_teach_10 : decode cX12_teach 10 = .ok (.lconst 1, 1) := by decide +kernel
theorem dX12_teach_11 : decode cX12_teach 11 = .ok (.ldc2_w 368, 3) := by decide +kernel
theorem dX12_teach_14 : decode cX12_teach 14 = .ok (.invokestatic 127, 3) := by decide +kernel
theorem dX12_teach_17 : decode cX12_teach 17 = .ok (.ifCond .eq 12, 3) := by decide +kernel
theorem dX12_teach_20 : decode cX12_teach 20 = .ok (.aload_n 0, 1) := by decide +kernel
theorem dX12_teach_21 : decode cX12_teach 21 = .ok (.iload_n 1, 1) := by decide +kernel
theorem dX12_teach_22 : decode cX12_teach 22 = .ok (.invokevirtual 303, 3) := by decide +kernel
theorem dX12_teach_25 : decode cX12_teach 25 = .ok (.iload_n 2, 1) := by decide +kernel
theorem dX12_teach_26 : decode cX12_teach 26 = .ok (.if_icmp .ne 5, 3) := by decide +kernel
theorem dX12_teach_29 : decode cX12_teach 29 = .ok (.iconst (-1), 1) := by decide +kernel
theorem dX12_teach_30 : decode cX12_teach 30 = .ok (.ireturn, 1) := by decide +kernel
theorem dX12_teach_31 : decode cX12_teach 31 = .ok (.aload_n 0, 1) := by decide +kernel
theorem dX12_teach_32 : decode cX12_teach 32 = .ok (.invokevirtual 363, 3) := by decide +kernel
theorem dX12_teach_35 : decode cX12_teach 35 = .ok (.aload_n 0, 1) := by decide +kernel
theorem dX12_teach_36 : decode cX12_teach 36 = .ok (.iload_n 1, 1) := by decide +kernel
theorem dX12_teach_37 : decode cX12_teach 37 = .ok (.invokevirtual 303, 3) := by decide +kernel
theorem dX12_teach_40 : decode cX12_teach 40 = .ok (.istore_n 3, 1) := by decide +kernel
theorem dX12_teach_41 : decode cX12_teach 41 = .ok (.aload_n 0, 1) := by decide +kernel
theorem dX12_teach_42 : decode cX12_teach 42 = .ok (.getfield 39, 3) := by decide +kernel
theorem dX12_teach_45 : decode cX12_teach 45 = .ok (.bipush 25, 2) := by decide +kernel
theorem dX12_teach_47 : decode cX12_teach 47 = .ok (.iconst 3, 1) := by decide +kernel
theorem dX12_teach_48 : decode cX12_teach 48 = .ok (.iload_n 1, 1) := by decide +kernel
theorem dX12_teach_49 : decode cX12_teach 49 = .ok (.imul, 1) := by decide +kernel
theorem dX12_teach_50 : decode cX12_teach 50 = .ok (.iadd, 1) := by decide +kernel
theorem dX12_teach_51 : decode cX12_teach 51 = .ok (.iload_n 2, 1) := by decide +kernel
theorem dX12_teach_52 : decode cX12_teach 52 = .ok (.iastore, 1) := by decide +kernel
theorem dX12_teach_53 : decode cX12_teach 53 = .ok (.iload_n 3, 1) := by decide +kernel
theorem dX12_teach_54 : decode cX12_teach 54 = .ok (.ireturn, 1) := by decide +kernel
theorem dX12_value_0 : decode cX12_value 0 = .ok (.aload_n 0, 1) := by decide +kernel
theorem dX12_value_1 : decode cX12_value 1 = .ok (.invokevirtual 102, 3) := by decide +kernel
theorem dX12_value_4 : decode cX12_value 4 = .ok (.pop, 1) := by decide +kernel
theorem dX12_value_5 : decode cX12_value 5 = .ok (.aload_n 0, 1) := by decide +kernel
theorem dX12_value_6 : decode cX12_value 6 = .ok (.getfield 99, 3) := by decide +kernel
theorem dX12_value_9 : decode cX12_value 9 = .ok (.istore_n 1, 1) := by decide +kernel
theorem dX12_value_10 : decode cX12_value 10 = .ok (.aload_n 0, 1) := by decide +kernel
theorem dX12_value_11 : decode cX12_value 11 = .ok (.aload_n 0, 1) := by decide +kernel
theorem dX12_value_12 : decode cX12_value 12 = .ok (.getfield 99, 3) := by decide +kernel
theorem dX12_value_15 : decode cX12_value 15 = .ok (.invokevirtual 117, 3) := by decide +kernel
theorem dX12_value_18 : decode cX12_value 18 = .ok (.ifCond .eq 34, 3) := by decide +kernel
theorem dX12_value_21 : decode cX12_value 21 = .ok (.aload_n 0, 1) := by decide +kernel
theorem dX12_value_22 : decode cX12_value 22 = .ok (.iconst 0, 1) := by decide +kernel
theorem dX12_value_23 : decode cX12_value 23 = .ok (.ldc 177, 2) := by decide +kernel
theorem dX12_value_25 : decode cX12_value 25 = .ok (.invokevirtual 178, 3) := by decide +kernel
theorem dX12_value_28 : decode cX12_value 28 = .ok (.ifCond .eq 11, 3) := by decide +kernel
theorem dX12_value_31 : decode cX12_value 31 = .ok (.aload_n 0, 1) := by decide +kernel
theorem dX12_value_32 : decode cX12_value 32 = .ok (.iload_n 1, 1) := by decide +kernel
theorem dX12_value_33 : decode cX12_value 33 = .ok (.invokevirtual 181, 3) := by decide +kernel
theorem dX12_value_36 : decode cX12_value 36 = .ok (.ifCond .ne 5, 3) := by decide +kernel
theorem dX12_value_39 : decode cX12_value 39 = .ok (.iconst 0, 1) := by decide +kernel
theorem dX12_value_40 : decode cX12_value 40 = .ok (.ireturn, 1) := by decide +kernel
theorem dX12_value_41 : decode cX12_value 41 = .ok (.aload_n 0, 1) := by decide +kernel
theorem dX12_value_42 : decode cX12_value 42 = .ok (.iconst 0, 1) := by decide +kernel
theorem dX12_value_43 : decode cX12_value 43 = .ok (.aload_n 0, 1) := by decide +kernel
theorem dX12_value_44 : decode cX12_value 44 = .ok (.getfield 124, 3) := by decide +kernel
theorem dX12_value_47 : decode cX12_value 47 = .ok (.invokevirtual 173, 3) := by decide +kernel
theorem dX12_value_50 : decode cX12_value 50 = .ok (.iconst 1, 1) := by decide +kernel
theorem dX12_value_51 : decode cX12_value 51 = .ok (.ireturn, 1) := by decide +kernel
theorem dX12_value_52 : decode cX12_value 52 = .ok (.aload_n 0, 1) := by decide +kernel
theorem dX12_value_53 : decode cX12_value 53 = .ok (.invokevirtual 184, 3) := by decide +kernel
theorem dX12_value_56 : decode cX12_value 56 = .ok (.istore_n 2, 1) := by decide +kernel
theorem dX12_value_57 : decode cX12_value 57 = .ok (.iload_n 2, 1) := by decide +kernel
theorem dX12_value_58 : decode cX12_value 58 = .ok (.ifCond .ge 10, 3) := by decide +kernel
theorem dX12_value_61 : decode cX12_value 61 = .ok (.aload_n 0, 1) := by decide +kernel
theorem dX12_value_62 : decode cX12_value 62 = .ok (.iconst 0, 1) := by decide +kernel
theorem dX12_value_63 : decode cX12_value 63 = .ok (.iload_n 1, 1) := by decide +kernel
theorem dX12_value_64 : decode cX12_value 64 = .ok (.invokevirtual 120, 3) := by decide +kernel
theorem dX12_value_67 : decode cX12_value 67 = .ok (.ireturn, 1) := by decide +kernel
theorem dX12_value_68 : decode cX12_value 68 = .ok (.aload_n 0, 1) := by decide +kernel
theorem dX12_value_69 : decode cX12_value 69 = .ok (.iload_n 1, 1) := by decide +kernel
theorem dX12_value_70 : decode cX12_value 70 = .ok (.invokevirtual 181, 3) := by decide +kernel
theorem dX12_value_73 : decode cX12_value 73 = .ok (.ifCond .ne 5, 3) := by decide +kernel
theorem dX12_value_76 : decode cX12_value 76 = .ok (.iconst 0, 1) := by decide +kernel
theorem dX12_value_77 : decode cX12_value 77 = .ok (.ireturn, 1) := by decide +kernel
theorem dX12_value_78 : decode cX12_value 78 = .ok (.aload_n 0, 1) := by decide +kernel
theorem dX12_value_79 : decode cX12_value 79 = .ok (.invokevirtual 114, 3) := by decide +kernel
theorem dX12_value_82 : decode cX12_value 82 = .ok (.aload_n 0, 1) := by decide +kernel
theorem dX12_value_83 : decode cX12_value 83 = .ok (.iconst 1, 1) := by decide +kernel
theorem dX12_value_84 : decode cX12_value 84 = .ok (.iload_n 2, 1) := by decide +kernel
theorem dX12_value_85 : decode cX12_value 85 = .ok (.invokevirtual 173, 3) := by decide +kernel
theorem dX12_value_88 : decode cX12_value 88 = .ok (.iconst 1, 1) := by decide +kernel
theorem dX12_value_89 : decode cX12_value 89 = .ok (.ireturn, 1) := by decide +kernel
theorem dX1_isTold_0 : decode cX1_isTold 0 = .ok (.aload_n 0, 1) := by decide +kernel
theorem dX1_isTold_1 : decode cX1_isTold 1 = .ok (.getfield 11, 3) := by decide +kernel
theorem dX1_isTold_4 : decode cX1_isTold 4 = .ok (.iconst 0, 1) := by decide +kernel
theorem dX1_isTold_5 : decode cX1_isTold 5 = .ok (.iaload, 1) := by decide +kernel
theorem dX1_isTold_6 : decode cX1_isTold 6 = .ok (.ifCond .le 7, 3) := by decide +kernel
theorem dX1_isTold_9 : decode cX1_isTold 9 = .ok (.iconst 1, 1) := by decide +kernel
theorem dX1_isTold_10 : decode cX1_isTold 10 = .ok (.goto 4, 3) := by decide +kernel
theorem dX1_isTold_13 : decode cX1_isTold 13 = .ok (.iconst 0, 1) := by decide +kernel
theorem dX1_isTold_14 : decode cX1_isTold 14 = .ok (.ireturn, 1) := by decide +kernel
theorem dX1_ringAt_0 : decode cX1_ringAt 0 = .ok (.iconst 0, 1) := by decide +kernel
theorem dX1_ringAt_1 : decode cX1_ringAt 1 = .ok (.istore_n 2, 1) := by decide +kernel
theorem dX1_ringAt_2 : decode cX1_ringAt 2 = .ok (.iload_n 2, 1) := by decide +kernel
theorem dX1_ringAt_3 : decode cX1_ringAt 3 = .ok (.aload_n 0, 1) := by decide +kernel
theorem dX1_ringAt_4 : decode cX1_ringAt 4 = .ok (.getfield 11, 3) := by decide +kernel
theorem dX1_ringAt_7 : decode cX1_ringAt 7 = .ok (.iconst 3, 1) := by decide +kernel
theorem dX1_ringAt_8 : decode cX1_ringAt 8 = .ok (.iaload, 1) := by decide +kernel
theorem dX1_ringAt_9 : decode cX1_ringAt 9 = .ok (.if_icmp .ge 24, 3) := by decide +kernel
theorem dX1_ringAt_12 : decode cX1_ringAt 12 = .ok (.aload_n 0, 1) := by decide +kernel
theorem dX1_ringAt_13 : decode cX1_ringAt 13 = .ok (.getfield 11, 3) := by decide +kernel
theorem dX1_ringAt_16 : decode cX1_ringAt 16 = .ok (.bipush 20, 2) := by decide +kernel
theorem dX1_ringAt_18 : decode cX1_ringAt 18 = .ok (.iload_n 2, 1) := by decide +kernel
theorem dX1_ringAt_19 : decode cX1_ringAt 19 = .ok (.iadd, 1) := by decide +kernel
theorem dX1_ringAt_20 : decode cX1_ringAt 20 = .ok (.iaload, 1) := by decide +kernel
theorem dX1_ringAt_21 : decode cX1_ringAt 21 = .ok (.iload_n 1, 1) := by decide +kernel
theorem dX1_ringAt_22 : decode cX1_ringAt 22 = .ok (.if_icmp .ne 5, 3) := by decide +kernel
theorem dX1_ringAt_25 : decode cX1_ringAt 25 = .ok (.iload_n 2, 1) := by decide +kernel
theorem dX1_ringAt_26 : decode cX1_ringAt 26 = .ok (.ireturn, 1) := by decide +kernel
theorem dX1_ringAt_27 : decode cX1_ringAt 27 = .ok (.iinc 2 1, 3) := by decide +kernel
theorem dX1_ringAt_30 : decode cX1_ringAt 30 = .ok (.goto (-28), 3) := by decide +kernel
theorem dX1_ringAt_33 : decode cX1_ringAt 33 = .ok (.iconst (-1), 1) := by decide +kernel
theorem dX1_ringAt_34 : decode cX1_ringAt 34 = .ok (.ireturn, 1) := by decide +kernel
theorem dX1_windOf_0 : decode cX1_windOf 0 = .ok (.aload_n 0, 1) := by decide +kernel
theorem dX1_windOf_1 : decode cX1_windOf 1 = .ok (.getfield 11, 3) := by decide +kernel
theorem dX1_windOf_4 : decode cX1_windOf 4 = .ok (.iconst 2, 1) := by decide +kernel
theorem dX1_windOf_5 : decode cX1_windOf 5 = .ok (.iaload, 1) := by decide +kernel
theorem dX1_windOf_6 : decode cX1_windOf 6 = .ok (.istore_n 2, 1) := by decide +kernel
theorem dX1_windOf_7 : decode cX1_windOf 7 = .ok (.iload_n 2, 1) := by decide +kernel
theorem dX1_windOf_8 : decode cX1_windOf 8 = .ok (.iconst 1, 1) := by decide +kernel
theorem dX1_windOf_9 : decode cX1_windOf 9 = .ok (.if_icmp .lt 7, 3) := by decide +kernel
theorem dX1_windOf_12 : decode cX1_windOf 12 = .ok (.iload_n 1, 1) := by decide +kernel
theorem dX1_windOf_13 : decode cX1_windOf 13 = .ok (.ifCond .ge 7, 3) := by decide +kernel
theorem dX1_windOf_16 : decode cX1_windOf 16 = .ok (.iconst 4, 1) := by decide +kernel
theorem dX1_windOf_17 : decode cX1_windOf 17 = .ok (.goto 14, 3) := by decide +kernel
theorem dX1_windOf_20 : decode cX1_windOf 20 = .ok (.aload_n 0, 1) := by decide +kernel
theorem dX1_windOf_21 : decode cX1_windOf 21 = .ok (.getfield 11, 3) := by decide +kernel
theorem dX1_windOf_24 : decode cX1_windOf 24 = .ok (.bipush 8, 2) := by decide +kernel
theorem dX1_windOf_26 : decode cX1_windOf 26 = .ok (.iload_n 1, 1) := by decide +kernel
theorem dX1_windOf_27 : decode cX1_windOf 27 = .ok (.iload_n 2, 1) := by decide +kernel
theorem dX1_windOf_28 : decode cX1_windOf 28 = .ok (.irem, 1) := by decide +kernel
theorem dX1_windOf_29 : decode cX1_windOf 29 = .ok (.iadd, 1) := by decide +kernel
theorem dX1_windOf_30 : decode cX1_windOf 30 = .ok (.iaload, 1) := by decide +kernel
theorem dX1_windOf_31 : decode cX1_windOf 31 = .ok (.ireturn, 1) := by decide +kernel
theorem dX2_gainOf_0 : decode cX2_gainOf 0 = .ok (.aload_n 1, 1) := by decide +kernel
theorem dX2_gainOf_1 : decode cX2_gainOf 1 = .ok (.getfield 34, 3) := by decide +kernel
theorem dX2_gainOf_4 : decode cX2_gainOf 4 = .ok (.bipush 53, 2) := by decide +kernel
theorem dX2_gainOf_6 : decode cX2_gainOf 6 = .ok (.iload_n 2, 1) := by decide +kernel
theorem dX2_gainOf_7 : decode cX2_gainOf 7 = .ok (.iadd, 1) := by decide +kernel
theorem dX2_gainOf_8 : decode cX2_gainOf 8 = .ok (.iaload, 1) := by decide +kernel
theorem dX2_gainOf_9 : decode cX2_gainOf 9 = .ok (.aload_n 0, 1) := by decide +kernel
theorem dX2_gainOf_10 : decode cX2_gainOf 10 = .ok (.getfield 34, 3) := by decide +kernel
theorem dX2_gainOf_13 : decode cX2_gainOf 13 = .ok (.bipush 53, 2) := by decide +kernel
theorem dX2_gainOf_15 : decode cX2_gainOf 15 = .ok (.iload_n 2, 1) := by decide +kernel
theorem dX2_gainOf_16 : decode cX2_gainOf 16 = .ok (.iadd, 1) := by decide +kernel
theorem dX2_gainOf_17 : decode cX2_gainOf 17 = .ok (.iaload, 1) := by decide +kernel
theorem dX2_gainOf_18 : decode cX2_gainOf 18 = .ok (.isub, 1) := by decide +kernel
theorem dX2_gainOf_19 : decode cX2_gainOf 19 = .ok (.istore_n 3, 1) := by decide +kernel
theorem dX2_gainOf_20 : decode cX2_gainOf 20 = .ok (.iload_n 3, 1) := by decide +kernel
theorem dX2_gainOf_21 : decode cX2_gainOf 21 = .ok (.aload_n 0, 1) := by decide +kernel
theorem dX2_gainOf_22 : decode cX2_gainOf 22 = .ok (.getfield 34, 3) := by decide +kernel
theorem dX2_gainOf_25 : decode cX2_gainOf 25 = .ok (.bipush 58, 2) := by decide +kernel
theorem dX2_gainOf_27 : decode cX2_gainOf 27 = .ok (.iload_n 2, 1) := by decide +kernel
theorem dX2_gainOf_28 : decode cX2_gainOf 28 = .ok (.iadd, 1) := by decide +kernel
theorem dX2_gainOf_29 : decode cX2_gainOf 29 = .ok (.iaload, 1) := by decide +kernel
theorem dX2_gainOf_30 : decode cX2_gainOf 30 = .ok (.iconst 2, 1) := by decide +kernel
theorem dX2_gainOf_31 : decode cX2_gainOf 31 = .ok (.idiv, 1) := by decide +kernel
theorem dX2_gainOf_32 : decode cX2_gainOf 32 = .ok (.iadd, 1) := by decide +kernel
theorem dX2_gainOf_33 : decode cX2_gainOf 33 = .ok (.ireturn, 1) := by decide +kernel
theorem dX2_isRest_0 : decode cX2_isRest 0 = .ok (.iload_n 2, 1) := by decide +kernel
theorem dX2_isRest_1 : decode cX2_isRest 1 = .ok (.iconst 1, 1) := by decide +kernel
theorem dX2_isRest_2 : decode cX2_isRest 2 = .ok (.if_icmp .ge 5, 3) := by decide +kernel
theorem dX2_isRest_5 : decode cX2_isRest 5 = .ok (.iconst 0, 1) := by decide +kernel
theorem dX2_isRest_6 : decode cX2_isRest 6 = .ok (.ireturn, 1) := by decide +kernel
theorem dX2_isRest_7 : decode cX2_isRest 7 = .ok (.iload_n 1, 1) := by decide +kernel
theorem dX2_isRest_8 : decode cX2_isRest 8 = .ok (.iload_n 2, 1) := by decide +kernel
theorem dX2_isRest_9 : decode cX2_isRest 9 = .ok (.irem, 1) := by decide +kernel
theorem dX2_isRest_10 : decode cX2_isRest 10 = .ok (.istore_n 3, 1) := by decide +kernel
theorem dX2_isRest_11 : decode cX2_isRest 11 = .ok (.iload_n 1, 1) := by decide +kernel
theorem dX2_isRest_12 : decode cX2_isRest 12 = .ok (.iload_n 2, 1) := by decide +kernel
theorem dX2_isRest_13 : decode cX2_isRest 13 = .ok (.idiv, 1) := by decide +kernel
theorem dX2_isRest_14 : decode cX2_isRest 14 = .ok (.istore 4, 2) := by decide +kernel
theorem dX2_isRest_16 : decode cX2_isRest 16 = .ok (.iconst 0, 1) := by decide +kernel
theorem dX2_isRest_17 : decode cX2_isRest 17 = .ok (.istore 5, 2) := by decide +kernel
theorem dX2_isRest_19 : decode cX2_isRest 19 = .ok (.iload 5, 2) := by decide +kernel
theorem dX2_isRest_21 : decode cX2_isRest 21 = .ok (.iload_n 2, 1) := by decide +kernel
theorem dX2_isRest_22 : decode cX2_isRest 22 = .ok (.if_icmp .ge 64, 3) := by decide +kernel
theorem dX2_isRest_25 : decode cX2_isRest 25 = .ok (.aload_n 0, 1) := by decide +kernel
theorem dX2_isRest_26 : decode cX2_isRest 26 = .ok (.getfield 21, 3) := by decide +kernel
theorem dX2_isRest_29 : decode cX2_isRest 29 = .ok (.iload 5, 2) := by decide +kernel
theorem dX2_isRest_31 : decode cX2_isRest 31 = .ok (.iload_n 2, 1) := by decide +kernel
theorem dX2_isRest_32 : decode cX2_isRest 32 = .ok (.imul, 1) := by decide +kernel
theorem dX2_isRest_33 : decode cX2_isRest 33 = .ok (.iload_n 3, 1) := by decide +kernel
theorem dX2_isRest_34 : decode cX2_isRest 34 = .ok (.iadd, 1) := by decide +kernel
theorem dX2_isRest_35 : decode cX2_isRest 35 = .ok (.iaload, 1) := by decide +kernel
theorem dX2_isRest_36 : decode cX2_isRest 36 = .ok (.aload_n 0, 1) := by decide +kernel
theorem dX2_isRest_37 : decode cX2_isRest 37 = .ok (.getfield 21, 3) := by decide +kernel
theorem dX2_isRest_40 : decode cX2_isRest 40 = .ok (.iload_n 1, 1) := by decide +kernel
theorem dX2_isRest_41 : decode cX2_isRest 41 = .ok (.iaload, 1) := by decide +kernel
theorem dX2_isRest_42 : decode cX2_isRest 42 = .ok (.if_icmp .le 7, 3) := by decide +kernel
theorem dX2_isRest_45 : decode cX2_isRest 45 = .ok (.iconst 1, 1) := by decide +kernel
theorem dX2_isRest_46 : decode cX2_isRest 46 = .ok (.goto 4, 3) := by decide +kernel
theorem dX2_isRest_49 : decode cX2_isRest 49 = .ok (.iconst 0, 1) := by decide +kernel
theorem dX2_isRest_50 : decode cX2_isRest 50 = .ok (.istore 6, 2) := by decide +kernel
theorem dX2_isRest_52 : decode cX2_isRest 52 = .ok (.iload 6, 2) := by decide +kernel
theorem dX2_isRest_54 : decode cX2_isRest 54 = .ok (.ifCond .ne 24, 3) := by decide +kernel
theorem dX2_isRest_57 : decode cX2_isRest 57 = .ok (.aload_n 0, 1) := by decide +kernel
theorem dX2_isRest_58 : decode cX2_isRest 58 = .ok (.getfield 25, 3) := by decide +kernel
theorem dX2_isRest_61 : decode cX2_isRest 61 = .ok (.iload 4, 2) := by decide +kernel
theorem dX2_isRest_63 : decode cX2_isRest 63 = .ok (.iload_n 2, 1) := by decide +kernel
theorem dX2_isRest_64 : decode cX2_isRest 64 = .ok (.imul, 1) := by decide +kernel
theorem dX2_isRest_65 : decode cX2_isRest 65 = .ok (.iload 5, 2) := by decide +kernel
theorem dX2_isRest_67 : decode cX2_isRest 67 = .ok (.iadd, 1) := by decide +kernel
theorem dX2_isRest_68 : decode cX2_isRest 68 = .ok (.iaload, 1) := by decide +kernel
theorem dX2_isRest_69 : decode cX2_isRest 69 = .ok (.aload_n 0, 1) := by decide +kernel
theorem dX2_isRest_70 : decode cX2_isRest 70 = .ok (.getfield 25, 3) := by decide +kernel
theorem dX2_isRest_73 : decode cX2_isRest 73 = .ok (.iload_n 1, 1) := by decide +kernel
theorem dX2_isRest_74 : decode cX2_isRest 74 = .ok (.iaload, 1) := by decide +kernel
theorem dX2_isRest_75 : decode cX2_isRest 75 = .ok (.if_icmp .le 5, 3) := by decide +kernel
theorem dX2_isRest_78 : decode cX2_isRest 78 = .ok (.iconst 0, 1) := by decide +kernel
theorem dX2_isRest_79 : decode cX2_isRest 79 = .ok (.ireturn, 1) := by decide +kernel
theorem dX2_isRest_80 : decode cX2_isRest 80 = .ok (.iinc 5 1, 3) := by decide +kernel
theorem dX2_isRest_83 : decode cX2_isRest 83 = .ok (.goto (-64), 3) := by decide +kernel
theorem dX2_isRest_86 : decode cX2_isRest 86 = .ok (.iconst 1, 1) := by decide +kernel
theorem dX2_isRest_87 : decode cX2_isRest 87 = .ok (.ireturn, 1) := by decide +kernel
theorem dX5_isFull_0 : decode cX5_isFull 0 = .ok (.aload_n 0, 1) := by decide +kernel
theorem dX5_isFull_1 : decode cX5_isFull 1 = .ok (.getfield 21, 3) := by decide +kernel
theorem dX5_isFull_4 : decode cX5_isFull 4 = .ok (.bipush 10, 2) := by decide +kernel
theorem dX5_isFull_6 : decode cX5_isFull 6 = .ok (.if_icmp .lt 7, 3) := by decide +kernel
theorem dX5_isFull_9 : decode cX5_isFull 9 = .ok (.iconst 1, 1) := by decide +kernel
theorem dX5_isFull_10 : decode cX5_isFull 10 = .ok (.goto 4, 3) := by decide +kernel
theorem dX5_isFull_13 : decode cX5_isFull 13 = .ok (.iconst 0, 1) := by decide +kernel
theorem dX5_isFull_14 : decode cX5_isFull 14 = .ok (.ireturn, 1) := by decide +kernel
theorem dX7_joined_0 : decode cX7_joined 0 = .ok (.iload_n 0, 1) := by decide +kernel
theorem dX7_joined_1 : decode cX7_joined 1 = .ok (.tableswitch 163 5 15 #[59, 63, 67, 71, 85, 99, 111, 123, 135, 147, 159], 59) := by decide +kernel
theorem dX7_joined_60 : decode cX7_joined 60 = .ok (.lload_n 1, 1) := by decide +kernel
theorem dX7_joined_61 : decode cX7_joined 61 = .ok (.lload_n 3, 1) := by decide +kernel
theorem dX7_joined_62 : decode cX7_joined 62 = .ok (.ladd, 1) := by decide +kernel
theorem dX7_joined_63 : decode cX7_joined 63 = .ok (.lreturn, 1) := by decide +kernel
theorem dX7_joined_64 : decode cX7_joined 64 = .ok (.lload_n 1, 1) := by decide +kernel
theorem dX7_joined_65 : decode cX7_joined 65 = .ok (.lload_n 3, 1) := by decide +kernel
theorem dX7_joined_66 : decode cX7_joined 66 = .ok (.lsub, 1) := by decide +kernel
theorem dX7_joined_67 : decode cX7_joined 67 = .ok (.lreturn, 1) := by decide +kernel
theorem dX7_joined_68 : decode cX7_joined 68 = .ok (.lload_n 1, 1) := by decide +kernel
theorem dX7_joined_69 : decode cX7_joined 69 = .ok (.lload_n 3, 1) := by decide +kernel
theorem dX7_joined_70 : decode cX7_joined 70 = .ok (.lmul, 1) := by decide +kernel
theorem dX7_joined_71 : decode cX7_joined 71 = .ok (.lreturn, 1) := by decide +kernel
theorem dX7_joined_72 : decode cX7_joined 72 = .ok (.lload_n 3, 1) := by decide +kernel
theorem dX7_joined_73 : decode cX7_joined 73 = .ok (.lconst 0, 1) := by decide +kernel
theorem dX7_joined_74 : decode cX7_joined 74 = .ok (.lcmp, 1) := by decide +kernel
theorem dX7_joined_75 : decode cX7_joined 75 = .ok (.ifCond .ne 7, 3) := by decide +kernel
theorem dX7_joined_78 : decode cX7_joined 78 = .ok (.lconst 0, 1) := by decide +kernel
theorem dX7_joined_79 : decode cX7_joined 79 = .ok (.goto 6, 3) := by decide +kernel
theorem dX7_joined_82 : decode cX7_joined 82 = .ok (.lload_n 1, 1) := by decide +kernel
theorem dX7_joined_83 : decode cX7_joined 83 = .ok (.lload_n 3, 1) := by decide +kernel
theorem dX7_joined_84 : decode cX7_joined 84 = .ok (.ldiv, 1) := by decide +kernel
theorem dX7_joined_85 : decode cX7_joined 85 = .ok (.lreturn, 1) := by decide +kernel
theorem dX7_joined_86 : decode cX7_joined 86 = .ok (.lload_n 3, 1) := by decide +kernel
theorem dX7_joined_87 : decode cX7_joined 87 = .ok (.lconst 0, 1) := by decide +kernel
theorem dX7_joined_88 : decode cX7_joined 88 = .ok (.lcmp, 1) := by decide +kernel
theorem dX7_joined_89 : decode cX7_joined 89 = .ok (.ifCond .ne 7, 3) := by decide +kernel
theorem dX7_joined_92 : decode cX7_joined 92 = .ok (.lconst 0, 1) := by decide +kernel
theorem dX7_joined_93 : decode cX7_joined 93 = .ok (.goto 6, 3) := by decide +kernel
theorem dX7_joined_96 : decode cX7_joined 96 = .ok (.lload_n 1, 1) := by decide +kernel
theorem dX7_joined_97 : decode cX7_joined 97 = .ok (.lload_n 3, 1) := by decide +kernel
theorem dX7_joined_98 : decode cX7_joined 98 = .ok (.lrem, 1) := by decide +kernel
theorem dX7_joined_99 : decode cX7_joined 99 = .ok (.lreturn, 1) := by decide +kernel
theorem dX7_joined_100 : decode cX7_joined 100 = .ok (.lload_n 1, 1) := by decide +kernel
theorem dX7_joined_101 : decode cX7_joined 101 = .ok (.lload_n 3, 1) := by decide +kernel
theorem dX7_joined_102 : decode cX7_joined 102 = .ok (.lcmp, 1) := by decide +kernel
theorem dX7_joined_103 : decode cX7_joined 103 = .ok (.ifCond .ge 7, 3) := by decide +kernel
theorem dX7_joined_106 : decode cX7_joined 106 = .ok (.lconst 1, 1) := by decide +kernel
theorem dX7_joined_107 : decode cX7_joined 107 = .ok (.goto 4, 3) := by decide +kernel
theorem dX7_joined_110 : decode cX7_joined 110 = .ok (.lconst 0, 1) := by decide +kernel
theorem dX7_joined_111 : decode cX7_joined 111 = .ok (.lreturn, 1) := by decide +kernel
theorem dX7_joined_112 : decode cX7_joined 112 = .ok (.lload_n 1, 1) := by decide +kernel
theorem dX7_joined_113 : decode cX7_joined 113 = .ok (.lload_n 3, 1) := by decide +kernel
theorem dX7_joined_114 : decode cX7_joined 114 = .ok (.lcmp, 1) := by decide +kernel
theorem dX7_joined_115 : decode cX7_joined 115 = .ok (.ifCond .gt 7, 3) := by decide +kernel
theorem dX7_joined_118 : decode cX7_joined 118 = .ok (.lconst 1, 1) := by decide +kernel
theorem dX7_joined_119 : decode cX7_joined 119 = .ok (.goto 4, 3) := by decide +kernel
theorem dX7_joined_122 : decode cX7_joined 122 = .ok (.lconst 0, 1) := by decide +kernel
theorem dX7_joined_123 : decode cX7_joined 123 = .ok (.lreturn, 1) := by decide +kernel
theorem dX7_joined_124 : decode cX7_joined 124 = .ok (.lload_n 1, 1) := by decide +kernel
theorem dX7_joined_125 : decode cX7_joined 125 = .ok (.lload_n 3, 1) := by decide +kernel
theorem dX7_joined_126 : decode cX7_joined 126 = .ok (.lcmp, 1) := by decide +kernel
theorem dX7_joined_127 : decode cX7_joined 127 = .ok (.ifCond .ne 7, 3) := by decide +kernel
theorem dX7_joined_130 : decode cX7_joined 130 = .ok (.lconst 1, 1) := by decide +kernel
theorem dX7_joined_131 : decode cX7_joined 131 = .ok (.goto 4, 3) := by decide +kernel
theorem dX7_joined_134 : decode cX7_joined 134 = .ok (.lconst 0, 1) := by decide +kernel
theorem dX7_joined_135 : decode cX7_joined 135 = .ok (.lreturn, 1) := by decide +kernel
theorem dX7_joined_136 : decode cX7_joined 136 = .ok (.lload_n 1, 1) := by decide +kernel
theorem dX7_joined_137 : decode cX7_joined 137 = .ok (.lload_n 3, 1) := by decide +kernel
theorem dX7_joined_138 : decode cX7_joined 138 = .ok (.lcmp, 1) := by decide +kernel
theorem dX7_joined_139 : decode cX7_joined 139 = .ok (.ifCond .lt 7, 3) := by decide +kernel
theorem dX7_joined_142 : decode cX7_joined 142 = .ok (.lconst 1, 1) := by decide +kernel
theorem dX7_joined_143 : decode cX7_joined 143 = .ok (.goto 4, 3) := by decide +kernel
theorem dX7_joined_146 : decode cX7_joined 146 = .ok (.lconst 0, 1) := by decide +kernel
theorem dX7_joined_147 : decode cX7_joined 147 = .ok (.lreturn, 1) := by decide +kernel
theorem dX7_joined_148 : decode cX7_joined 148 = .ok (.lload_n 1, 1) := by decide +kernel
theorem dX7_joined_149 : decode cX7_joined 149 = .ok (.lload_n 3, 1) := by decide +kernel
theorem dX7_joined_150 : decode cX7_joined 150 = .ok (.lcmp, 1) := by decide +kernel
theorem dX7_joined_151 : decode cX7_joined 151 = .ok (.ifCond .le 7, 3) := by decide +kernel
theorem dX7_joined_154 : decode cX7_joined 154 = .ok (.lconst 1, 1) := by decide +kernel
theorem dX7_joined_155 : decode cX7_joined 155 = .ok (.goto 4, 3) := by decide +kernel
theorem dX7_joined_158 : decode cX7_joined 158 = .ok (.lconst 0, 1) := by decide +kernel
theorem dX7_joined_159 : decode cX7_joined 159 = .ok (.lreturn, 1) := by decide +kernel
theorem dX7_joined_160 : decode cX7_joined 160 = .ok (.lload_n 1, 1) := by decide +kernel
theorem dX7_joined_161 : decode cX7_joined 161 = .ok (.lload_n 3, 1) := by decide +kernel
theorem dX7_joined_162 : decode cX7_joined 162 = .ok (.land, 1) := by decide +kernel
theorem dX7_joined_163 : decode cX7_joined 163 = .ok (.lreturn, 1) := by decide +kernel
theorem dX7_joined_164 : decode cX7_joined 164 = .ok (.lload_n 1, 1) := by decide +kernel
theorem dX7_joined_165 : decode cX7_joined 165 = .ok (.lload_n 3, 1) := by decide +kernel
theorem dX7_joined_166 : decode cX7_joined 166 = .ok (.lor, 1) := by decide +kernel
theorem dX7_joined_167 : decode cX7_joined 167 = .ok (.lreturn, 1) := by decide +kernel
theorem dX10_failAt_0 : decode cX10_failAt 0 = .ok (.aload_n 0, 1) := by decide +kernel
theorem dX10_failAt_1 : decode cX10_failAt 1 = .ok (.getfield 43, 3) := by decide +kernel
theorem dX10_failAt_4 : decode cX10_failAt 4 = .ok (.ifCond .ne 15, 3) := by decide +kernel
theorem dX10_failAt_7 : decode cX10_failAt 7 = .ok (.aload_n 0, 1) := by decide +kernel
theorem dX10_failAt_8 : decode cX10_failAt 8 = .ok (.iconst 1, 1) := by decide +kernel
theorem dX10_failAt_9 : decode cX10_failAt 9 = .ok (.bipush 8, 2) := by decide +kernel
theorem dX10_failAt_11 : decode cX10_failAt 11 = .ok (.iload_n 1, 1) := by decide +kernel
theorem dX10_failAt_12 : decode cX10_failAt 12 = .ok (.imul, 1) := by decide +kernel
theorem dX10_failAt_13 : decode cX10_failAt 13 = .ok (.iadd, 1) := by decide +kernel
theorem dX10_failAt_14 : decode cX10_failAt 14 = .ok (.iload_n 2, 1) := by decide +kernel
theorem dX10_failAt_15 : decode cX10_failAt 15 = .ok (.iadd, 1) := by decide +kernel
theorem dX10_failAt_16 : decode cX10_failAt 16 = .ok (.putfield 43, 3) := by decide +kernel
theorem dX10_failAt_19 : decode cX10_failAt 19 = .ok (.return_, 1) := by decide +kernel
theorem dX10_isSign_0 : decode cX10_isSign 0 = .ok (.aload_n 0, 1) := by decide +kernel
theorem dX10_isSign_1 : decode cX10_isSign 1 = .ok (.getfield 34, 3) := by decide +kernel
theorem dX10_isSign_4 : decode cX10_isSign 4 = .ok (.iconst 4, 1) := by decide +kernel
theorem dX10_isSign_5 : decode cX10_isSign 5 = .ok (.if_icmp .ne 15, 3) := by decide +kernel
theorem dX10_isSign_8 : decode cX10_isSign 8 = .ok (.aload_n 0, 1) := by decide +kernel
theorem dX10_isSign_9 : decode cX10_isSign 9 = .ok (.getfield 37, 3) := by decide +kernel
theorem dX10_isSign_12 : decode cX10_isSign 12 = .ok (.iload_n 1, 1) := by decide +kernel
theorem dX10_isSign_13 : decode cX10_isSign 13 = .ok (.if_icmp .ne 7, 3) := by decide +kernel
theorem dX10_isSign_16 : decode cX10_isSign 16 = .ok (.iconst 1, 1) := by decide +kernel
theorem dX10_isSign_17 : decode cX10_isSign 17 = .ok (.goto 4, 3) := by decide +kernel
theorem dX10_isSign_20 : decode cX10_isSign 20 = .ok (.iconst 0, 1) := by decide +kernel
theorem dX10_isSign_21 : decode cX10_isSign 21 = .ok (.ireturn, 1) := by decide +kernel
theorem dX10_isWord_0 : decode cX10_isWord 0 = .ok (.aload_n 0, 1) := by decide +kernel
theorem dX10_isWord_1 : decode cX10_isWord 1 = .ok (.getfield 34, 3) := by decide +kernel
theorem dX10_isWord_4 : decode cX10_isWord 4 = .ok (.iconst 3, 1) := by decide +kernel
theorem dX10_isWord_5 : decode cX10_isWord 5 = .ok (.if_icmp .ne 15, 3) := by decide +kernel
theorem dX10_isWord_8 : decode cX10_isWord 8 = .ok (.aload_n 0, 1) := by decide +kernel
theorem dX10_isWord_9 : decode cX10_isWord 9 = .ok (.getfield 37, 3) := by decide +kernel
theorem dX10_isWord_12 : decode cX10_isWord 12 = .ok (.iload_n 1, 1) := by decide +kernel
theorem dX10_isWord_13 : decode cX10_isWord 13 = .ok (.if_icmp .ne 7, 3) := by decide +kernel
theorem dX10_isWord_16 : decode cX10_isWord 16 = .ok (.iconst 1, 1) := by decide +kernel
theorem dX10_isWord_17 : decode cX10_isWord 17 = .ok (.goto 4, 3) := by decide +kernel
theorem dX10_isWord_20 : decode cX10_isWord 20 = .ok (.iconst 0, 1) := by decide +kernel
theorem dX10_isWord_21 : decode cX10_isWord 21 = .ok (.ireturn, 1) := by decide +kernel
theorem dX10_wordOf_0 : decode cX10_wordOf 0 = .ok (.iconst 0, 1) := by decide +kernel
theorem dX10_wordOf_1 : decode cX10_wordOf 1 = .ok (.istore_n 3, 1) := by decide +kernel
theorem dX10_wordOf_2 : decode cX10_wordOf 2 = .ok (.iconst 0, 1) := by decide +kernel
theorem dX10_wordOf_3 : decode cX10_wordOf 3 = .ok (.istore 4, 2) := by decide +kernel
theorem dX10_wordOf_5 : decode cX10_wordOf 5 = .ok (.iconst 0, 1) := by decide +kernel
theorem dX10_wordOf_6 : decode cX10_wordOf 6 = .ok (.istore 5, 2) := by decide +kernel
theorem dX10_wordOf_8 : decode cX10_wordOf 8 = .ok (.iload 5, 2) := by decide +kernel
