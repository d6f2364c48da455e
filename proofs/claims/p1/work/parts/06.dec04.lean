theorem dX12_image_44 : decode cX12_image 44 = .ok (.bipush 115, 2) := by decide +kernel
theorem dX12_image_46 : decode cX12_image 46 = .ok (.if_icmp .ge 26, 3) := by decide +kernel
theorem dX12_image_49 : decode cX12_image 49 = .ok (.aload_n 0, 1) := by decide +kernel
theorem dX12_image_50 : decode cX12_image 50 = .ok (.getfield 77, 3) := by decide +kernel
theorem dX12_image_53 : decode cX12_image 53 = .ok (.bipush 115, 2) := by decide +kernel
theorem dX12_image_55 : decode cX12_image 55 = .ok (.iload_n 1, 1) := by decide +kernel
theorem dX12_image_56 : decode cX12_image 56 = .ok (.imul, 1) := by decide +kernel
theorem dX12_image_57 : decode cX12_image 57 = .ok (.iload_n 2, 1) := by decide +kernel
theorem dX12_image_58 : decode cX12_image 58 = .ok (.iadd, 1) := by decide +kernel
theorem dX12_image_59 : decode cX12_image 59 = .ok (.aload_n 0, 1) := by decide +kernel
theorem dX12_image_60 : decode cX12_image 60 = .ok (.getfield 39, 3) := by decide +kernel
theorem dX12_image_63 : decode cX12_image 63 = .ok (.iload_n 2, 1) := by decide +kernel
theorem dX12_image_64 : decode cX12_image 64 = .ok (.iaload, 1) := by decide +kernel
theorem dX12_image_65 : decode cX12_image 65 = .ok (.iastore, 1) := by decide +kernel
theorem dX12_image_66 : decode cX12_image 66 = .ok (.iinc 2 1, 3) := by decide +kernel
theorem dX12_image_69 : decode cX12_image 69 = .ok (.goto (-26), 3) := by decide +kernel
theorem dX12_image_72 : decode cX12_image 72 = .ok (.aload_n 0, 1) := by decide +kernel
theorem dX12_image_73 : decode cX12_image 73 = .ok (.getfield 39, 3) := by decide +kernel
theorem dX12_image_76 : decode cX12_image 76 = .ok (.bipush 10, 2) := by decide +kernel
theorem dX12_image_78 : decode cX12_image 78 = .ok (.iaload, 1) := by decide +kernel
theorem dX12_image_79 : decode cX12_image 79 = .ok (.ireturn, 1) := by decide +kernel
theorem dX12_pence_0 : decode cX12_pence 0 = .ok (.aload_n 0, 1) := by decide +kernel
theorem dX12_pence_1 : decode cX12_pence 1 = .ok (.iload_n 2, 1) := by decide +kernel
theorem dX12_pence_2 : decode cX12_pence 2 = .ok (.invokevirtual 309, 3) := by decide +kernel
theorem dX12_pence_5 : decode cX12_pence 5 = .ok (.ifCond .eq 15, 3) := by decide +kernel
theorem dX12_pence_8 : decode cX12_pence 8 = .ok (.iload_n 1, 1) := by decide +kernel
theorem dX12_pence_9 : decode cX12_pence 9 = .ok (.i2l, 1) := by decide +kernel
theorem dX12_pence_10 : decode cX12_pence 10 = .ok (.lconst 0, 1) := by decide +kernel
theorem dX12_pence_11 : decode cX12_pence 11 = .ok (.ldc2_w 422, 3) := by decide +kernel
theorem dX12_pence_14 : decode cX12_pence 14 = .ok (.invokestatic 127, 3) := by decide +kernel
theorem dX12_pence_17 : decode cX12_pence 17 = .ok (.ifCond .ne 5, 3) := by decide +kernel
theorem dX12_pence_20 : decode cX12_pence 20 = .ok (.iconst (-1), 1) := by decide +kernel
theorem dX12_pence_21 : decode cX12_pence 21 = .ok (.ireturn, 1) := by decide +kernel
theorem dX12_pence_22 : decode cX12_pence 22 = .ok (.lconst 0, 1) := by decide +kernel
theorem dX12_pence_23 : decode cX12_pence 23 = .ok (.lstore_n 3, 1) := by decide +kernel
theorem dX12_pence_24 : decode cX12_pence 24 = .ok (.iconst 0, 1) := by decide +kernel
theorem dX12_pence_25 : decode cX12_pence 25 = .ok (.istore 5, 2) := by decide +kernel
theorem dX12_pence_27 : decode cX12_pence 27 = .ok (.iload 5, 2) := by decide +kernel
theorem dX12_pence_29 : decode cX12_pence 29 = .ok (.aload_n 0, 1) := by decide +kernel
theorem dX12_pence_30 : decode cX12_pence 30 = .ok (.getfield 39, 3) := by decide +kernel
theorem dX12_pence_33 : decode cX12_pence 33 = .ok (.iconst 4, 1) := by decide +kernel
theorem dX12_pence_34 : decode cX12_pence 34 = .ok (.iaload, 1) := by decide +kernel
theorem dX12_pence_35 : decode cX12_pence 35 = .ok (.if_icmp .ge 23, 3) := by decide +kernel
theorem dX12_pence_38 : decode cX12_pence 38 = .ok (.lload_n 3, 1) := by decide +kernel
theorem dX12_pence_39 : decode cX12_pence 39 = .ok (.aload_n 0, 1) := by decide +kernel
theorem dX12_pence_40 : decode cX12_pence 40 = .ok (.getfield 39, 3) := by decide +kernel
theorem dX12_pence_43 : decode cX12_pence 43 = .ok (.bipush 19, 2) := by decide +kernel
theorem dX12_pence_45 : decode cX12_pence 45 = .ok (.iload 5, 2) := by decide +kernel
theorem dX12_pence_47 : decode cX12_pence 47 = .ok (.iadd, 1) := by decide +kernel
theorem dX12_pence_48 : decode cX12_pence 48 = .ok (.iaload, 1) := by decide +kernel
theorem dX12_pence_49 : decode cX12_pence 49 = .ok (.i2l, 1) := by decide +kernel
theorem dX12_pence_50 : decode cX12_pence 50 = .ok (.ladd, 1) := by decide +kernel
theorem dX12_pence_51 : decode cX12_pence 51 = .ok (.lstore_n 3, 1) := by decide +kernel
theorem dX12_pence_52 : decode cX12_pence 52 = .ok (.iinc 5 1, 3) := by decide +kernel
theorem dX12_pence_55 : decode cX12_pence 55 = .ok (.goto (-28), 3) := by decide +kernel
theorem dX12_pence_58 : decode cX12_pence 58 = .ok (.lload_n 3, 1) := by decide +kernel
theorem dX12_pence_59 : decode cX12_pence 59 = .ok (.lconst 0, 1) := by decide +kernel
theorem dX12_pence_60 : decode cX12_pence 60 = .ok (.lcmp, 1) := by decide +kernel
theorem dX12_pence_61 : decode cX12_pence 61 = .ok (.ifCond .ne 5, 3) := by decide +kernel
theorem dX12_pence_64 : decode cX12_pence 64 = .ok (.iconst 0, 1) := by decide +kernel
theorem dX12_pence_65 : decode cX12_pence 65 = .ok (.ireturn, 1) := by decide +kernel
theorem dX12_pence_66 : decode cX12_pence 66 = .ok (.iload_n 1, 1) := by decide +kernel
theorem dX12_pence_67 : decode cX12_pence 67 = .ok (.i2l, 1) := by decide +kernel
theorem dX12_pence_68 : decode cX12_pence 68 = .ok (.aload_n 0, 1) := by decide +kernel
theorem dX12_pence_69 : decode cX12_pence 69 = .ok (.getfield 39, 3) := by decide +kernel
theorem dX12_pence_72 : decode cX12_pence 72 = .ok (.bipush 19, 2) := by decide +kernel
theorem dX12_pence_74 : decode cX12_pence 74 = .ok (.iload_n 2, 1) := by decide +kernel
theorem dX12_pence_75 : decode cX12_pence 75 = .ok (.iadd, 1) := by decide +kernel
theorem dX12_pence_76 : decode cX12_pence 76 = .ok (.iaload, 1) := by decide +kernel
theorem dX12_pence_77 : decode cX12_pence 77 = .ok (.i2l, 1) := by decide +kernel
theorem dX12_pence_78 : decode cX12_pence 78 = .ok (.lmul, 1) := by decide +kernel
theorem dX12_pence_79 : decode cX12_pence 79 = .ok (.lstore 5, 2) := by decide +kernel
theorem dX12_pence_81 : decode cX12_pence 81 = .ok (.iload_n 1, 1) := by decide +kernel
theorem dX12_pence_82 : decode cX12_pence 82 = .ok (.i2l, 1) := by decide +kernel
theorem dX12_pence_83 : decode cX12_pence 83 = .ok (.lstore 7, 2) := by decide +kernel
theorem dX12_pence_85 : decode cX12_pence 85 = .ok (.iconst 0, 1) := by decide +kernel
theorem dX12_pence_86 : decode cX12_pence 86 = .ok (.istore 9, 2) := by decide +kernel
theorem dX12_pence_88 : decode cX12_pence 88 = .ok (.iconst 0, 1) := by decide +kernel
theorem dX12_pence_89 : decode cX12_pence 89 = .ok (.istore 10, 2) := by decide +kernel
theorem dX12_pence_91 : decode cX12_pence 91 = .ok (.iload 10, 2) := by decide +kernel
theorem dX12_pence_93 : decode cX12_pence 93 = .ok (.aload_n 0, 1) := by decide +kernel
theorem dX12_pence_94 : decode cX12_pence 94 = .ok (.getfield 39, 3) := by decide +kernel
theorem dX12_pence_97 : decode cX12_pence 97 = .ok (.iconst 4, 1) := by decide +kernel
theorem dX12_pence_98 : decode cX12_pence 98 = .ok (.iaload, 1) := by decide +kernel
theorem dX12_pence_99 : decode cX12_pence 99 = .ok (.if_icmp .ge 74, 3) := by decide +kernel
theorem dX12_pence_102 : decode cX12_pence 102 = .ok (.iload_n 1, 1) := by decide +kernel
theorem dX12_pence_103 : decode cX12_pence 103 = .ok (.i2l, 1) := by decide +kernel
theorem dX12_pence_104 : decode cX12_pence 104 = .ok (.aload_n 0, 1) := by decide +kernel
theorem dX12_pence_105 : decode cX12_pence 105 = .ok (.getfield 39, 3) := by decide +kernel
theorem dX12_pence_108 : decode cX12_pence 108 = .ok (.bipush 19, 2) := by decide +kernel
theorem dX12_pence_110 : decode cX12_pence 110 = .ok (.iload 10, 2) := by decide +kernel
theorem dX12_pence_112 : decode cX12_pence 112 = .ok (.iadd, 1) := by decide +kernel
theorem dX12_pence_113 : decode cX12_pence 113 = .ok (.iaload, 1) := by decide +kernel
theorem dX12_pence_114 : decode cX12_pence 114 = .ok (.i2l, 1) := by decide +kernel
theorem dX12_pence_115 : decode cX12_pence 115 = .ok (.lmul, 1) := by decide +kernel
theorem dX12_pence_116 : decode cX12_pence 116 = .ok (.lstore 11, 2) := by decide +kernel
theorem dX12_pence_118 : decode cX12_pence 118 = .ok (.lload 7, 2) := by decide +kernel
theorem dX12_pence_120 : decode cX12_pence 120 = .ok (.lload 11, 2) := by decide +kernel
theorem dX12_pence_122 : decode cX12_pence 122 = .ok (.lload_n 3, 1) := by decide +kernel
theorem dX12_pence_123 : decode cX12_pence 123 = .ok (.ldiv, 1) := by decide +kernel
theorem dX12_pence_124 : decode cX12_pence 124 = .ok (.lsub, 1) := by decide +kernel
theorem dX12_pence_125 : decode cX12_pence 125 = .ok (.lstore 7, 2) := by decide +kernel
theorem dX12_pence_127 : decode cX12_pence 127 = .ok (.iload 9, 2) := by decide +kernel
theorem dX12_pence_129 : decode cX12_pence 129 = .ok (.lload 11, 2) := by decide +kernel
theorem dX12_pence_131 : decode cX12_pence 131 = .ok (.lload_n 3, 1) := by decide +kernel
theorem dX12_pence_132 : decode cX12_pence 132 = .ok (.lrem, 1) := by decide +kernel
theorem dX12_pence_133 : decode cX12_pence 133 = .ok (.lload 5, 2) := by decide +kernel
theorem dX12_pence_135 : decode cX12_pence 135 = .ok (.lload_n 3, 1) := by decide +kernel
theorem dX12_pence_136 : decode cX12_pence 136 = .ok (.lrem, 1) := by decide +kernel
theorem dX12_pence_137 : decode cX12_pence 137 = .ok (.lcmp, 1) := by decide +kernel
theorem dX12_pence_138 : decode cX12_pence 138 = .ok (.ifCond .gt 21, 3) := by decide +kernel
theorem dX12_pence_141 : decode cX12_pence 141 = .ok (.lload 11, 2) := by decide +kernel
theorem dX12_pence_143 : decode cX12_pence 143 = .ok (.lload_n 3, 1) := by decide +kernel
theorem dX12_pence_144 : decode cX12_pence 144 = .ok (.lrem, 1) := by decide +kernel
theorem dX12_pence_145 : decode cX12_pence 145 = .ok (.lload 5, 2) := by decide +kernel
theorem dX12_pence_147 : decode cX12_pence 147 = .ok (.lload_n 3, 1) := by decide +kernel
theorem dX12_pence_148 : decode cX12_pence 148 = .ok (.lrem, 1) := by decide +kernel
theorem dX12_pence_149 : decode cX12_pence 149 = .ok (.lcmp, 1) := by decide +kernel
theorem dX12_pence_150 : decode cX12_pence 150 = .ok (.ifCond .ne 13, 3) := by decide +kernel
theorem dX12_pence_153 : decode cX12_pence 153 = .ok (.iload 10, 2) := by decide +kernel
theorem dX12_pence_155 : decode cX12_pence 155 = .ok (.iload_n 2, 1) := by decide +kernel
theorem dX12_pence_156 : decode cX12_pence 156 = .ok (.if_icmp .ge 7, 3) := by decide +kernel
theorem dX12_pence_159 : decode cX12_pence 159 = .ok (.iconst 1, 1) := by decide +kernel
theorem dX12_pence_160 : decode cX12_pence 160 = .ok (.goto 4, 3) := by decide +kernel
theorem dX12_pence_163 : decode cX12_pence 163 = .ok (.iconst 0, 1) := by decide +kernel
theorem dX12_pence_164 : decode cX12_pence 164 = .ok (.iadd, 1) := by decide +kernel
theorem dX12_pence_165 : decode cX12_pence 165 = .ok (.istore 9, 2) := by decide +kernel
theorem dX12_pence_167 : decode cX12_pence 167 = .ok (.iinc 10 1, 3) := by decide +kernel
theorem dX12_pence_170 : decode cX12_pence 170 = .ok (.goto (-79), 3) := by decide +kernel
theorem dX12_pence_173 : decode cX12_pence 173 = .ok (.lload 5, 2) := by decide +kernel
theorem dX12_pence_175 : decode cX12_pence 175 = .ok (.lload_n 3, 1) := by decide +kernel
theorem dX12_pence_176 : decode cX12_pence 176 = .ok (.ldiv, 1) := by decide +kernel
theorem dX12_pence_177 : decode cX12_pence 177 = .ok (.l2i, 1) := by decide +kernel
theorem dX12_pence_178 : decode cX12_pence 178 = .ok (.iload 9, 2) := by decide +kernel
theorem dX12_pence_180 : decode cX12_pence 180 = .ok (.i2l, 1) := by decide +kernel
theorem dX12_pence_181 : decode cX12_pence 181 = .ok (.lload 7, 2) := by decide +kernel
theorem dX12_pence_183 : decode cX12_pence 183 = .ok (.lcmp, 1) := by decide +kernel
theorem dX12_pence_184 : decode cX12_pence 184 = .ok (.ifCond .ge 7, 3) := by decide +kernel
theorem dX12_pence_187 : decode cX12_pence 187 = .ok (.iconst 1, 1) := by decide +kernel
theorem dX12_pence_188 : decode cX12_pence 188 = .ok (.goto 4, 3) := by decide +kernel
theorem dX12_pence_191 : decode cX12_pence 191 = .ok (.iconst 0, 1) := by decide +kernel
theorem dX12_pence_192 : decode cX12_pence 192 = .ok (.iadd, 1) := by decide +kernel
theorem dX12_pence_193 : decode cX12_pence 193 = .ok (.ireturn, 1) := by decide +kernel
theorem dX12_rests_0 : decode cX12_rests 0 = .ok (.aload_n 0, 1) := by decide +kernel
theorem dX12_rests_1 : decode cX12_rests 1 = .ok (.iload_n 1, 1) := by decide +kernel
theorem dX12_rests_2 : decode cX12_rests 2 = .ok (.invokevirtual 314, 3) := by decide +kernel
theorem dX12_rests_5 : decode cX12_rests 5 = .ok (.ifCond .eq 41, 3) := by decide +kernel
theorem dX12_rests_8 : decode cX12_rests 8 = .ok (.aload_n 0, 1) := by decide +kernel
theorem dX12_rests_9 : decode cX12_rests 9 = .ok (.iload_n 2, 1) := by decide +kernel
theorem dX12_rests_10 : decode cX12_rests 10 = .ok (.invokevirtual 314, 3) := by decide +kernel
theorem dX12_rests_13 : decode cX12_rests 13 = .ok (.ifCond .eq 33, 3) := by decide +kernel
theorem dX12_rests_16 : decode cX12_rests 16 = .ok (.iload_n 1, 1) := by decide +kernel
theorem dX12_rests_17 : decode cX12_rests 17 = .ok (.iload_n 2, 1) := by decide +kernel
theorem dX12_rests_18 : decode cX12_rests 18 = .ok (.if_icmp .eq 28, 3) := by decide +kernel
theorem dX12_rests_21 : decode cX12_rests 21 = .ok (.iload_n 3, 1) := by decide +kernel
theorem dX12_rests_22 : decode cX12_rests 22 = .ok (.i2l, 1) := by decide +kernel
theorem dX12_rests_23 : decode cX12_rests 23 = .ok (.lconst 1, 1) := by decide +kernel
theorem dX12_rests_24 : decode cX12_rests 24 = .ok (.ldc2_w 366, 3) := by decide +kernel
theorem dX12_rests_27 : decode cX12_rests 27 = .ok (.invokestatic 127, 3) := by decide +kernel
theorem dX12_rests_30 : decode cX12_rests 30 = .ok (.ifCond .eq 16, 3) := by decide +kernel
theorem dX12_rests_33 : decode cX12_rests 33 = .ok (.iload 4, 2) := by decide +kernel
theorem dX12_rests_35 : decode cX12_rests 35 = .ok (.i2l, 1) := by decide +kernel
theorem dX12_rests_36 : decode cX12_rests 36 = .ok (.lconst 0, 1) := by decide +kernel
theorem dX12_rests_37 : decode cX12_rests 37 = .ok (.ldc2_w 312, 3) := by decide +kernel
theorem dX12_rests_40 : decode cX12_rests 40 = .ok (.invokestatic 127, 3) := by decide +kernel
theorem dX12_rests_43 : decode cX12_rests 43 = .ok (.ifCond .ne 5, 3) := by decide +kernel
theorem dX12_rests_46 : decode cX12_rests 46 = .ok (.iconst (-1), 1) := by decide +kernel
theorem dX12_rests_47 : decode cX12_rests 47 = .ok (.ireturn, 1) := by decide +kernel
theorem dX12_rests_48 : decode cX12_rests 48 = .ok (.aload_n 0, 1) := by decide +kernel
theorem dX12_rests_49 : decode cX12_rests 49 = .ok (.invokevirtual 372, 3) := by decide +kernel
theorem dX12_rests_52 : decode cX12_rests 52 = .ok (.iconst 0, 1) := by decide +kernel
theorem dX12_rests_53 : decode cX12_rests 53 = .ok (.istore 5, 2) := by decide +kernel
theorem dX12_rests_55 : decode cX12_rests 55 = .ok (.iload 5, 2) := by decide +kernel
theorem dX12_rests_57 : decode cX12_rests 57 = .ok (.aload_n 0, 1) := by decide +kernel
theorem dX12_rests_58 : decode cX12_rests 58 = .ok (.getfield 39, 3) := by decide +kernel
theorem dX12_rests_61 : decode cX12_rests 61 = .ok (.iconst 4, 1) := by decide +kernel
theorem dX12_rests_62 : decode cX12_rests 62 = .ok (.iaload, 1) := by decide +kernel
theorem dX12_rests_63 : decode cX12_rests 63 = .ok (.if_icmp .ge 40, 3) := by decide +kernel
theorem dX12_rests_66 : decode cX12_rests 66 = .ok (.iconst 0, 1) := by decide +kernel
theorem dX12_rests_67 : decode cX12_rests 67 = .ok (.istore 6, 2) := by decide +kernel
theorem dX12_rests_69 : decode cX12_rests 69 = .ok (.iload 6, 2) := by decide +kernel
theorem dX12_rests_71 : decode cX12_rests 71 = .ok (.aload_n 0, 1) := by decide +kernel
theorem dX12_rests_72 : decode cX12_rests 72 = .ok (.getfield 39, 3) := by decide +kernel
theorem dX12_rests_75 : decode cX12_rests 75 = .ok (.iconst 4, 1) := by decide +kernel
theorem dX12_rests_76 : decode cX12_rests 76 = .ok (.iaload, 1) := by decide +kernel
theorem dX12_rests_77 : decode cX12_rests 77 = .ok (.if_icmp .ge 20, 3) := by decide +kernel
theorem dX12_rests_80 : decode cX12_rests 80 = .ok (.aload_n 0, 1) := by decide +kernel
theorem dX12_rests_81 : decode cX12_rests 81 = .ok (.iload_n 1, 1) := by decide +kernel
theorem dX12_rests_82 : decode cX12_rests 82 = .ok (.iload_n 2, 1) := by decide +kernel
theorem dX12_rests_83 : decode cX12_rests 83 = .ok (.iload 5, 2) := by decide +kernel
theorem dX12_rests_85 : decode cX12_rests 85 = .ok (.iload 6, 2) := by decide +kernel
theorem dX12_rests_87 : decode cX12_rests 87 = .ok (.iload_n 3, 1) := by decide +kernel
theorem dX12_rests_88 : decode cX12_rests 88 = .ok (.invokevirtual 415, 3) := by decide +kernel
theorem dX12_rests_91 : decode cX12_rests 91 = .ok (.iinc 6 1, 3) := by decide +kernel
theorem dX12_rests_94 : decode cX12_rests 94 = .ok (.goto (-25), 3) := by decide +kernel
theorem dX12_rests_97 : decode cX12_rests 97 = .ok (.iinc 5 1, 3) := by decide +kernel
theorem dX12_rests_100 : decode cX12_rests 100 = .ok (.goto (-45), 3) := by decide +kernel
theorem dX12_rests_103 : decode cX12_rests 103 = .ok (.iconst 0, 1) := by decide +kernel
theorem dX12_rests_104 : decode cX12_rests 104 = .ok (.istore 5, 2) := by decide +kernel
theorem dX12_rests_106 : decode cX12_rests 106 = .ok (.iconst (-1), 1) := by decide +kernel
theorem dX12_rests_107 : decode cX12_rests 107 = .ok (.istore 6, 2) := by decide +kernel
theorem dX12_rests_109 : decode cX12_rests 109 = .ok (.aload_n 0, 1) := by decide +kernel
theorem dX12_rests_110 : decode cX12_rests 110 = .ok (.getfield 39, 3) := by decide +kernel
theorem dX12_rests_113 : decode cX12_rests 113 = .ok (.iconst 4, 1) := by decide +kernel
theorem dX12_rests_114 : decode cX12_rests 114 = .ok (.iaload, 1) := by decide +kernel
theorem dX12_rests_115 : decode cX12_rests 115 = .ok (.iconst 1, 1) := by decide +kernel
theorem dX12_rests_116 : decode cX12_rests 116 = .ok (.isub, 1) := by decide +kernel
theorem dX12_rests_117 : decode cX12_rests 117 = .ok (.istore 7, 2) := by decide +kernel
theorem dX12_rests_119 : decode cX12_rests 119 = .ok (.iload 7, 2) := by decide +kernel
theorem dX12_rests_121 : decode cX12_rests 121 = .ok (.ifCond .lt 57, 3) := by decide +kernel
theorem dX12_rests_124 : decode cX12_rests 124 = .ok (.aload_n 0, 1) := by decide +kernel
theorem dX12_rests_125 : decode cX12_rests 125 = .ok (.getfield 39, 3) := by decide +kernel
theorem dX12_rests_128 : decode cX12_rests 128 = .ok (.iconst 4, 1) := by decide +kernel
theorem dX12_rests_129 : decode cX12_rests 129 = .ok (.iaload, 1) := by decide +kernel
theorem dX12_rests_130 : decode cX12_rests 130 = .ok (.iconst 1, 1) := by decide +kernel
theorem dX12_rests_131 : decode cX12_rests 131 = .ok (.isub, 1) := by decide +kernel
theorem dX12_rests_132 : decode cX12_rests 132 = .ok (.istore 8, 2) := by decide +kernel
theorem dX12_rests_134 : decode cX12_rests 134 = .ok (.iload 8, 2) := by decide +kernel
theorem dX12_rests_136 : decode cX12_rests 136 = .ok (.ifCond .lt 36, 3) := by decide +kernel
theorem dX12_rests_139 : decode cX12_rests 139 = .ok (.aload_n 0, 1) := by decide +kernel
theorem dX12_rests_140 : decode cX12_rests 140 = .ok (.iload 7, 2) := by decide +kernel
theorem dX12_rests_142 : decode cX12_rests 142 = .ok (.iload 8, 2) := by decide +kernel
theorem dX12_rests_144 : decode cX12_rests 144 = .ok (.invokevirtual 419, 3) := by decide +kernel
theorem dX12_rests_147 : decode cX12_rests 147 = .ok (.ifCond .ne 6, 3) := by decide +kernel
theorem dX12_rests_150 : decode cX12_rests 150 = .ok (.goto 16, 3) := by decide +kernel
theorem dX12_rests_153 : decode cX12_rests 153 = .ok (.bipush 6, 2) := by decide +kernel
theorem dX12_rests_155 : decode cX12_rests 155 = .ok (.iload 7, 2) := by decide +kernel
theorem dX12_rests_157 : decode cX12_rests 157 = .ok (.imul, 1) := by decide +kernel
theorem dX12_rests_158 : decode cX12_rests 158 = .ok (.iload 8, 2) := by decide +kernel
theorem dX12_rests_160 : decode cX12_rests 160 = .ok (.iadd, 1) := by decide +kernel
theorem dX12_rests_161 : decode cX12_rests 161 = .ok (.istore 6, 2) := by decide +kernel
theorem dX12_rests_163 : decode cX12_rests 163 = .ok (.iinc 5 1, 3) := by decide +kernel
theorem dX12_rests_166 : decode cX12_rests 166 = .ok (.iinc 8 (-1), 3) := by decide +kernel
theorem dX12_rests_169 : decode cX12_rests 169 = .ok (.goto (-35), 3) := by decide +kernel
theorem dX12_rests_172 : decode cX12_rests 172 = .ok (.iinc 7 (-1), 3) := by decide +kernel
theorem dX12_rests_175 : decode cX12_rests 175 = .ok (.goto (-56), 3) := by decide +kernel
theorem dX12_rests_178 : decode cX12_rests 178 = .ok (.iload 4, 2) := by decide +kernel
theorem dX12_rests_180 : decode cX12_rests 180 = .ok (.ifCond .ne 6, 3) := by decide +kernel
theorem dX12_rests_183 : decode cX12_rests 183 = .ok (.iload 5, 2) := by decide +kernel
theorem dX12_rests_185 : decode cX12_rests 185 = .ok (.ireturn, 1) := by decide +kernel
theorem dX12_rests_186 : decode cX12_rests 186 = .ok (.iload 6, 2) := by decide +kernel
theorem dX12_rests_188 : decode cX12_rests 188 = .ok (.ifCond .ge 8, 3) := by decide +kernel
theorem dX12_rests_191 : decode cX12_rests 191 = .ok (.bipush (-2), 2) := by decide +kernel
theorem dX12_rests_193 : decode cX12_rests 193 = .ok (.goto 22, 3) := by decide +kernel
theorem dX12_rests_196 : decode cX12_rests 196 = .ok (.iload 4, 2) := by decide +kernel
theorem dX12_rests_198 : decode cX12_rests 198 = .ok (.iconst 1, 1) := by decide +kernel
theorem dX12_rests_199 : decode cX12_rests 199 = .ok (.if_icmp .ne 11, 3) := by decide +kernel
theorem dX12_rests_202 : decode cX12_rests 202 = .ok (.iload 6, 2) := by decide +kernel
theorem dX12_rests_204 : decode cX12_rests 204 = .ok (.bipush 6, 2) := by decide +kernel
theorem dX12_rests_206 : decode cX12_rests 206 = .ok (.idiv, 1) := by decide +kernel
theorem dX12_rests_207 : decode cX12_rests 207 = .ok (.goto 8, 3) := by decide +kernel
theorem dX12_rests_210 : decode cX12_rests 210 = .ok (.iload 6, 2) := by decide +kernel
theorem dX12_rests_212 : decode cX12_rests 212 = .ok (.bipush 6, 2) := by decide +kernel
theorem dX12_rests_214 : decode cX12_rests 214 = .ok (.irem, 1) := by decide +kernel
theorem dX12_rests_215 : decode cX12_rests 215 = .ok (.ireturn, 1) := by decide +kernel
theorem dX12_round_0 : decode cX12_round 0 = .ok (.aload_n 0, 1) := by decide +kernel
theorem dX12_round_1 : decode cX12_round 1 = .ok (.invokevirtual 294, 3) := by decide +kernel
theorem dX12_round_4 : decode cX12_round 4 = .ok (.ifCond .eq 16, 3) := by decide +kernel
theorem dX12_round_7 : decode cX12_round 7 = .ok (.aload_n 0, 1) := by decide +kernel
theorem dX12_round_8 : decode cX12_round 8 = .ok (.getfield 39, 3) := by decide +kernel
theorem dX12_round_11 : decode cX12_round 11 = .ok (.bipush 10, 2) := by decide +kernel
theorem dX12_round_13 : decode cX12_round 13 = .ok (.iaload, 1) := by decide +kernel
theorem dX12_round_14 : decode cX12_round 14 = .ok (.sipush 999, 3) := by decide +kernel
theorem dX12_round_17 : decode cX12_round 17 = .ok (.if_icmp .ne 5, 3) := by decide +kernel
theorem dX12_round_20 : decode cX12_round 20 = .ok (.iconst (-1), 1) := by decide +kernel
theorem dX12_round_21 : decode cX12_round 21 = .ok (.ireturn, 1) := by decide +kernel
theorem dX12_round_22 : decode cX12_round 22 = .ok (.aload_n 0, 1) := by decide +kernel
theorem dX12_round_23 : decode cX12_round 23 = .ok (.invokevirtual 363, 3) := by decide +kernel
theorem dX12_round_26 : decode cX12_round 26 = .ok (.aload_n 0, 1) := by decide +kernel
theorem dX12_round_27 : decode cX12_round 27 = .ok (.invokevirtual 360, 3) := by decide +kernel
theorem dX12_round_30 : decode cX12_round 30 = .ok (.ireturn, 1) := by decide +kernel
theorem dX12_ruled_0 : decode cX12_ruled 0 = .ok (.aload_n 0, 1) := by decide +kernel
theorem dX12_ruled_1 : decode cX12_ruled 1 = .ok (.invokevirtual 294, 3) := by decide +kernel
theorem dX12_ruled_4 : decode cX12_ruled 4 = .ok (.ifCond .eq 13, 3) := by decide +kernel
theorem dX12_ruled_7 : decode cX12_ruled 7 = .ok (.iload_n 1, 1) := by decide +kernel
theorem dX12_ruled_8 : decode cX12_ruled 8 = .ok (.i2l, 1) := by decide +kernel
theorem dX12_ruled_9 : decode cX12_ruled 9 = .ok (.lconst 0, 1) := by decide +kernel
theorem dX12_ruled_10 : decode cX12_ruled 10 = .ok (.lconst 1, 1) := by decide +kernel
theorem dX12_ruled_11 : decode cX12_ruled 11 = .ok (.invokestatic 127, 3) := by decide +kernel
theorem dX12_ruled_14 : decode cX12_ruled 14 = .ok (.ifCond .ne 6, 3) := by decide +kernel
theorem dX12_ruled_17 : decode cX12_ruled 17 = .ok (.bipush (-3), 2) := by decide +kernel
theorem dX12_ruled_19 : decode cX12_ruled 19 = .ok (.ireturn, 1) := by decide +kernel
theorem dX12_ruled_20 : decode cX12_ruled 20 = .ok (.aload_n 0, 1) := by decide +kernel
theorem dX12_ruled_21 : decode cX12_ruled 21 = .ok (.iconst 0, 1) := by decide +kernel
theorem dX12_ruled_22 : decode cX12_ruled 22 = .ok (.invokevirtual 432, 3) := by decide +kernel
theorem dX12_ruled_25 : decode cX12_ruled 25 = .ok (.iconst 0, 1) := by decide +kernel
theorem dX12_ruled_26 : decode cX12_ruled 26 = .ok (.istore_n 2, 1) := by decide +kernel
theorem dX12_ruled_27 : decode cX12_ruled 27 = .ok (.bipush (-2), 2) := by decide +kernel
theorem dX12_ruled_29 : decode cX12_ruled 29 = .ok (.istore_n 3, 1) := by decide +kernel
theorem dX12_ruled_30 : decode cX12_ruled 30 = .ok (.aload_n 0, 1) := by decide +kernel
theorem dX12_ruled_31 : decode cX12_ruled 31 = .ok (.getfield 267, 3) := by decide +kernel
theorem dX12_ruled_34 : decode cX12_ruled 34 = .ok (.istore 4, 2) := by decide +kernel
theorem dX12_ruled_36 : decode cX12_ruled 36 = .ok (.iload 4, 2) := by decide +kernel
theorem dX12_ruled_38 : decode cX12_ruled 38 = .ok (.ifCond .lt 30, 3) := by decide +kernel
theorem dX12_ruled_41 : decode cX12_ruled 41 = .ok (.aload_n 0, 1) := by decide +kernel
theorem dX12_ruled_42 : decode cX12_ruled 42 = .ok (.getfield 70, 3) := by decide +kernel
theorem dX12_ruled_45 : decode cX12_ruled 45 = .ok (.iload 4, 2) := by decide +kernel
theorem dX12_ruled_47 : decode cX12_ruled 47 = .ok (.baload, 1) := by decide +kernel
theorem dX12_ruled_48 : decode cX12_ruled 48 = .ok (.ifCond .ne 6, 3) := by decide +kernel
theorem dX12_ruled_51 : decode cX12_ruled 51 = .ok (.goto 11, 3) := by decide +kernel
theorem dX12_ruled_54 : decode cX12_ruled 54 = .ok (.iload 4, 2) := by decide +kernel
theorem dX12_ruled_56 : decode cX12_ruled 56 = .ok (.iconst 1, 1) := by decide +kernel
theorem dX12_ruled_57 : decode cX12_ruled 57 = .ok (.isub, 1) := by decide +kernel
theorem dX12_ruled_58 : decode cX12_ruled 58 = .ok (.istore_n 3, 1) := by decide +kernel
theorem dX12_ruled_59 : decode cX12_ruled 59 = .ok (.iinc 2 1, 3) := by decide +kernel
theorem dX12_ruled_62 : decode cX12_ruled 62 = .ok (.iinc 4 (-1), 3) := by decide +kernel
theorem dX12_ruled_65 : decode cX12_ruled 65 = .ok (.goto (-29), 3) := by decide +kernel
theorem dX12_ruled_68 : decode cX12_ruled 68 = .ok (.iload_n 1, 1) := by decide +kernel
theorem dX12_ruled_69 : decode cX12_ruled 69 = .ok (.ifCond .ne 7, 3) := by decide +kernel
theorem dX12_ruled_72 : decode cX12_ruled 72 = .ok (.iload_n 2, 1) := by decide +kernel
theorem dX12_ruled_73 : decode cX12_ruled 73 = .ok (.goto 4, 3) := by decide +kernel
theorem dX12_ruled_76 : decode cX12_ruled 76 = .ok (.iload_n 3, 1) := by decide +kernel
theorem dX12_ruled_77 : decode cX12_ruled 77 = .ok (.ireturn, 1) := by decide +kernel
theorem dX12_shoot_0 : decode cX12_shoot 0 = .ok (.aload_n 0, 1) := by decide +kernel
theorem dX12_shoot_1 : decode cX12_shoot 1 = .ok (.iload_n 1, 1) := by decide +kernel
theorem dX12_shoot_2 : decode cX12_shoot 2 = .ok (.invokevirtual 314, 3) := by decide +kernel
theorem dX12_shoot_5 : decode cX12_shoot 5 = .ok (.ifCond .eq 19, 3) := by decide +kernel
theorem dX12_shoot_8 : decode cX12_shoot 8 = .ok (.aload_n 0, 1) := by decide +kernel
theorem dX12_shoot_9 : decode cX12_shoot 9 = .ok (.iload_n 2, 1) := by decide +kernel
theorem dX12_shoot_10 : decode cX12_shoot 10 = .ok (.invokevirtual 309, 3) := by decide +kernel
theorem dX12_shoot_13 : decode cX12_shoot 13 = .ok (.ifCond .eq 11, 3) := by decide +kernel
theorem dX12_shoot_16 : decode cX12_shoot 16 = .ok (.aload_n 0, 1) := by decide +kernel
theorem dX12_shoot_17 : decode cX12_shoot 17 = .ok (.iload_n 1, 1) := by decide +kernel
theorem dX12_shoot_18 : decode cX12_shoot 18 = .ok (.invokevirtual 320, 3) := by decide +kernel
theorem dX12_shoot_21 : decode cX12_shoot 21 = .ok (.ifCond .ne 5, 3) := by decide +kernel
theorem dX12_shoot_24 : decode cX12_shoot 24 = .ok (.iconst (-1), 1) := by decide +kernel
theorem dX12_shoot_25 : decode cX12_shoot 25 = .ok (.ireturn, 1) := by decide +kernel
theorem dX12_shoot_26 : decode cX12_shoot 26 = .ok (.aload_n 0, 1) := by decide +kernel
theorem dX12_shoot_27 : decode cX12_shoot 27 = .ok (.invokevirtual 363, 3) := by decide +kernel
theorem dX12_shoot_30 : decode cX12_shoot 30 = .ok (.aload_n 0, 1) := by decide +kernel
theorem dX12_shoot_31 : decode cX12_shoot 31 = .ok (.iload_n 1, 1) := by decide +kernel
theorem dX12_shoot_32 : decode cX12_shoot 32 = .ok (.iload_n 2, 1) := by decide +kernel
theorem dX12_shoot_33 : decode cX12_shoot 33 = .ok (.invokevirtual 354, 3) := by decide +kernel
theorem dX12_shoot_36 : decode cX12_shoot 36 = .ok (.istore_n 3, 1) := by decide +kernel
theorem dX12_shoot_37 : decode cX12_shoot 37 = .ok (.iload_n 3, 1) := by decide +kernel
theorem dX12_shoot_38 : decode cX12_shoot 38 = .ok (.ifCond .ge 8, 3) := by decide +kernel
theorem dX12_shoot_41 : decode cX12_shoot 41 = .ok (.bipush (-2), 2) := by decide +kernel
theorem dX12_shoot_43 : decode cX12_shoot 43 = .ok (.goto 4, 3) := by decide +kernel
theorem dX12_shoot_46 : decode cX12_shoot 46 = .ok (.iload_n 3, 1) := by decide +kernel
theorem dX12_shoot_47 : decode cX12_shoot 47 = .ok (.ireturn, 1) := by decide +kernel
theorem dX12_teach_0 : decode cX12_teach 0 = .ok (.aload_n 0, 1) := by decide +kernel
theorem dX12_teach_1 : decode cX12_teach 1 = .ok (.iload_n 1, 1) := by decide +kernel
theorem dX12_teach_2 : decode cX12_teach 2 = .ok (.invokevirtual 314, 3) := by decide +kernel
theorem dX12_teach_5 : decode cX12_teach 5 = .ok (.ifCond .eq 24, 3) := by decide +kernel
theorem dX12_teach_8 : decode cX12_teach 8 = .ok (.iload_n 2, 1) := by decide +kernel
theorem dX12_teach_9 : decode cX12_teach 9 = .ok (.i2l, 1) := by decide +kernel
theorem dX12_teach_10 : decode cX12_teach 10 = .ok (.lconst 1, 1) := by decide +kernel
theorem dX12_teach_11 : decode cX12_teach 11 = .ok (.ldc2_w 368, 3) := by decide +kernel
theorem dX12_teach_14 : decode cX12_teach 14 = .ok (.invokestatic 127, 3) := by decide +kernel
theorem dX12_teach_17 : decode cX12_teach 17 = .ok (.ifCond .eq 12, 3) := by decide +kernel
theorem dX12_teach_20 : decode cX12_teach 20 = .ok (.aload_n 0, 1) := by decide +kernel
theorem dX12_teach_21 : decode cX12_teach 21 = .ok (.iload_n 1, 1) := by decide +kernel
theorem dX12_teach_22 : decode cX12_teach 22 = .ok (.invokevirtual 303, 3) := by decide +kernel
theorem dX12_teach_25 : decode cX12_teach 25 = .ok (.iload_n 2, 1) := by decide +kernel
theorem dX12_teach_26 : decode cX12_teach 26 = .ok (.if_icmp .ne 5, 3) := by decide +kernel
theorem dX12_teach_29 : decode cX12_teach 29 = .ok (.iconst (-1), 1) := by decide +kernel
theorem dX12_teach_30 : decode cX12_teach 30 = .ok (.ireturn, 1) := by decide +kernel
theorem dX12_teach_31 : decode cX12_teach 31 = .ok (.aload_n 0, 1) := by decide +kernel
theorem dX12_teach_32 : decode cX12_teach 32 = .ok (.invokevirtual 363, 3) := by decide +kernel
theorem dX12_teach_35 : decode cX12_teach 35 = .ok (.aload_n 0, 1) := by decide +kernel
theorem dX12_teach_36 : decode cX12_teach 36 = .ok (.iload_n 1, 1) := by decide +kernel
theorem dX12_teach_37 : decode cX12_teach 37 = .ok (.invokevirtual 303, 3) := by decide +kernel
theorem dX12_teach_40 : decode cX12_teach 40 = .ok (.istore_n 3, 1) := by decide +kernel
theorem dX12_teach_41 : decode cX12_teach 41 = .ok (.aload_n 0, 1) := by decide +kernel
theorem dX12_teach_42 : decode cX12_teach 42 = .ok (.getfield 39, 3) := by decide +kernel
theorem dX12_teach_45 : decode cX12_teach 45 = .ok (.bipush 25, 2) := by decide +kernel
theorem dX12_teach_47 : decode cX12_teach 47 = .ok (.iconst 3, 1) := by decide +kernel
theorem dX12_teach_48 : decode cX12_teach 48 = .ok (.iload_n 1, 1) := by decide +kernel
theorem dX12_teach_49 : decode cX12_teach 49 = .ok (.imul, 1) := by decide +kernel
theorem dX12_teach_50 : decode cX12_teach 50 = .ok (.iadd, 1) := by decide +kernel
theorem dX12_teach_51 : decode cX12_teach 51 = .ok (.iload_n 2, 1) := by decide +kernel
theorem dX12_teach_52 : decode cX12_teach 52 = .ok (.iastore, 1) := by decide +kernel
theorem dX12_teach_53 : decode cX12_teach 53 = .ok (.iload_n 3, 1) := by decide +kernel
theorem dX12_teach_54 : decode cX12_teach 54 = .ok (.ireturn, 1) := by decide +kernel
theorem dX1_isTold_0 : decode cX1_isTold 0 = .ok (.aload_n 0, 1) := by decide +kernel
theorem dX1_isTold_1 : decode cX1_isTold 1 = .ok (.getfield 11, 3) := by decide +kernel
theorem dX1_isTold_4 : decode cX1_isTold 4 = .ok (.iconst 0, 1) := by decide +kernel
theorem dX1_isTold_5 : decode cX1_isTold 5 = .ok (.iaload, 1) := by decide +kernel
theorem dX1_isTold_6 : decode cX1_isTold 6 = .ok (.ifCond .le 7, 3) := by decide +kernel
theorem dX1_isTold_9 : decode cX1_isTold 9 = .ok (.iconst 1, 1) := by decide +kernel
theorem dX1_isTold_10 : decode cX1_isTold 10 = .ok (.goto 4, 3) := by decide +kernel
theorem dX1_isTold_13 : decode cX1_isTold 13 = .ok (.iconst 0, 1) := by decide +kernel
theorem dX1_isTold_14 : decode cX1_isTold 14 = .ok (.ireturn, 1) := by decide +kernel
theorem dX10_failAt_0 : decode cX10_failAt 0 = .ok (.aload_n 0, 1) := by decide +kernel
theorem dX10_failAt_1 : decode cX10_failAt 1 = .ok (.getfield 43, 3) := by decide +kernel
theorem dX10_failAt_4 : decode cX10_failAt 4 = .ok (.ifCond .ne 15, 3) := by decide +kernel
theorem dX10_failAt_7 : decode cX10_failAt 7 = .ok (.aload_n 0, 1) := by decide +kernel
theorem dX10_failAt_8 : decode cX10_failAt 8 = .ok (.iconst 1, 1) := by decide +kernel
theorem dX10_failAt_9 : decode cX10_failAt 9 = .ok (.bipush 8, 2) := by decide +kernel
theorem dX10_failAt_11 : decode cX10_failAt 11 = .ok (.iload_n 1, 1) := by decide +kernel
theorem dX10_failAt_12 : decode cX10_failAt 12 = .ok (.imul, 1) := by decide +kernel
theorem dX10_failAt_13 : decode cX10_failAt 13 = .ok (.iadd, 1) := by decide +kernel
theorem dX10_failAt_14 : decode cX10_failAt 14 = .ok (.iload_n 2, 1) := by decide +kernel
theorem dX10_failAt_15 : decode cX10_failAt 15 = .ok (.iadd, 1) := by decide +kernel
theorem dX10_failAt_16 : decode cX10_failAt 16 = .ok (.putfield 43, 3) := by decide +kernel
theorem dX10_failAt_19 : decode cX10_failAt 19 = .ok (.return_, 1) := by decide +kernel
theorem dX10_isSign_0 : decode cX10_isSign 0 = .ok (.aload_n 0, 1) := by decide +kernel
theorem dX10_isSign_1 : decode cX10_isSign 1 = .ok (.getfield 34, 3) := by decide +kernel
theorem dX10_isSign_4 : decode cX10_isSign 4 = .ok (.iconst 4, 1) := by decide +kernel
theorem dX10_isSign_5 : decode cX10_isSign 5 = .ok (.if_icmp .ne 15, 3) := by decide +kernel
theorem dX10_isSign_8 : decode cX10_isSign 8 = .ok (.aload_n 0, 1) := by decide +kernel
theorem dX10_isSign_9 : decode cX10_isSign 9 = .ok (.getfield 37, 3) := by decide +kernel
theorem dX10_isSign_12 : decode cX10_isSign 12 = .ok (.iload_n 1, 1) := by decide +kernel
theorem dX10_isSign_13 : decode cX10_isSign 13 = .ok (.if_icmp .ne 7, 3) := by decide +kernel
theorem dX10_isSign_16 : decode cX10_isSign 16 = .ok (.iconst 1, 1) := by decide +kernel
theorem dX10_isSign_17 : decode cX10_isSign 17 = .ok (.goto 4, 3) := by decide +kernel
theorem dX10_isSign_20 : decode cX10_isSign 20 = .ok (.iconst 0, 1) := by decide +kernel
theorem dX10_isSign_21 : decode cX10_isSign 21 = .ok (.ireturn, 1) := by decide +kernel
theorem dX10_isWord_0 : decode cX10_isWord 0 = .ok (.aload_n 0, 1) := by decide +kernel
theorem dX10_isWord_1 : decode cX10_isWord 1 = .ok (.getfield 34, 3) := by decide +kernel
theorem dX10_isWord_4 : decode cX10_isWord 4 = .ok (.iconst 3, 1) := by decide +kernel
theorem dX10_isWord_5 : decode cX10_isWord 5 = .ok (.if_icmp .ne 15, 3) := by decide +kernel
theorem dX10_isWord_8 : decode cX10_isWord 8 = .ok (.aload_n 0, 1) := by decide +kernel
theorem dX10_isWord_9 : decode cX10_isWord 9 = .ok (.getfield 37, 3) := by decide +kernel
theorem dX10_isWord_12 : decode cX10_isWord 12 = .ok (.iload_n 1, 1) := by decide +kernel
theorem dX10_isWord_13 : decode cX10_isWord 13 = .ok (.if_icmp .ne 7, 3) := by decide +kernel
theorem dX10_isWord_16 : decode cX10_isWord 16 = .ok (.iconst 1, 1) := by decide +kernel
theorem dX10_isWord_17 : decode cX10_isWord 17 = .ok (.goto 4, 3) := by decide +kernel
theorem dX10_isWord_20 : decode cX10_isWord 20 = .ok (.iconst 0, 1) := by decide +kernel
theorem dX10_isWord_21 : decode cX10_isWord 21 = .ok (.ireturn, 1) := by decide +kernel
theorem dX11_archer_0 : decode cX11_archer 0 = .ok (.aload_n 0, 1) := by decide +kernel
theorem dX11_archer_1 : decode cX11_archer 1 = .ok (.getfield 43, 3) := by decide +kernel
theorem dX11_archer_4 : decode cX11_archer 4 = .ok (.getfield 111, 3) := by decide +kernel
theorem dX11_archer_7 : decode cX11_archer 7 = .ok (.iload_n 1, 1) := by decide +kernel
theorem dX11_archer_8 : decode cX11_archer 8 = .ok (.invokevirtual 139, 3) := by decide +kernel
theorem dX11_archer_11 : decode cX11_archer 11 = .ok (.ifCond .ne 5, 3) := by decide +kernel
theorem dX11_archer_14 : decode cX11_archer 14 = .ok (.iconst (-1), 1) := by decide +kernel
theorem dX11_archer_15 : decode cX11_archer 15 = .ok (.ireturn, 1) := by decide +kernel
theorem dX11_archer_16 : decode cX11_archer 16 = .ok (.iload_n 2, 1) := by decide +kernel
theorem dX11_archer_17 : decode cX11_archer 17 = .ok (.tableswitch 115 0 4 #[35, 51, 67, 83, 99], 35) := by decide +kernel
theorem dX11_archer_52 : decode cX11_archer 52 = .ok (.aload_n 0, 1) := by decide +kernel
theorem dX11_archer_53 : decode cX11_archer 53 = .ok (.getfield 43, 3) := by decide +kernel
theorem dX11_archer_56 : decode cX11_archer 56 = .ok (.getfield 111, 3) := by decide +kernel
theorem dX11_archer_59 : decode cX11_archer 59 = .ok (.getfield 124, 3) := by decide +kernel
theorem dX11_archer_62 : decode cX11_archer 62 = .ok (.bipush 38, 2) := by decide +kernel
theorem dX11_archer_64 : decode cX11_archer 64 = .ok (.iload_n 1, 1) := by decide +kernel
theorem dX11_archer_65 : decode cX11_archer 65 = .ok (.iadd, 1) := by decide +kernel
theorem dX11_archer_66 : decode cX11_archer 66 = .ok (.iaload, 1) := by decide +kernel
theorem dX11_archer_67 : decode cX11_archer 67 = .ok (.ireturn, 1) := by decide +kernel
theorem dX11_archer_68 : decode cX11_archer 68 = .ok (.aload_n 0, 1) := by decide +kernel
theorem dX11_archer_69 : decode cX11_archer 69 = .ok (.getfield 43, 3) := by decide +kernel
theorem dX11_archer_72 : decode cX11_archer 72 = .ok (.getfield 111, 3) := by decide +kernel
theorem dX11_archer_75 : decode cX11_archer 75 = .ok (.getfield 124, 3) := by decide +kernel
theorem dX11_archer_78 : decode cX11_archer 78 = .ok (.bipush 43, 2) := by decide +kernel
theorem dX11_archer_80 : decode cX11_archer 80 = .ok (.iload_n 1, 1) := by decide +kernel
theorem dX11_archer_81 : decode cX11_archer 81 = .ok (.iadd, 1) := by decide +kernel
theorem dX11_archer_82 : decode cX11_archer 82 = .ok (.iaload, 1) := by decide +kernel
theorem dX11_archer_83 : decode cX11_archer 83 = .ok (.ireturn, 1) := by decide +kernel
theorem dX11_archer_84 : decode cX11_archer 84 = .ok (.aload_n 0, 1) := by decide +kernel
theorem dX11_archer_85 : decode cX11_archer 85 = .ok (.getfield 43, 3) := by decide +kernel
theorem dX11_archer_88 : decode cX11_archer 88 = .ok (.getfield 111, 3) := by decide +kernel
theorem dX11_archer_91 : decode cX11_archer 91 = .ok (.getfield 124, 3) := by decide +kernel
theorem dX11_archer_94 : decode cX11_archer 94 = .ok (.bipush 48, 2) := by decide +kernel
theorem dX11_archer_96 : decode cX11_archer 96 = .ok (.iload_n 1, 1) := by decide +kernel
theorem dX11_archer_97 : decode cX11_archer 97 = .ok (.iadd, 1) := by decide +kernel
theorem dX11_archer_98 : decode cX11_archer 98 = .ok (.iaload, 1) := by decide +kernel
theorem dX11_archer_99 : decode cX11_archer 99 = .ok (.ireturn, 1) := by decide +kernel
theorem dX11_archer_100 : decode cX11_archer 100 = .ok (.aload_n 0, 1) := by decide +kernel
theorem dX11_archer_101 : decode cX11_archer 101 = .ok (.getfield 43, 3) := by decide +kernel
theorem dX11_archer_104 : decode cX11_archer 104 = .ok (.getfield 111, 3) := by decide +kernel
theorem dX11_archer_107 : decode cX11_archer 107 = .ok (.getfield 124, 3) := by decide +kernel
theorem dX11_archer_110 : decode cX11_archer 110 = .ok (.bipush 53, 2) := by decide +kernel
theorem dX11_archer_112 : decode cX11_archer 112 = .ok (.iload_n 1, 1) := by decide +kernel
theorem dX11_archer_113 : decode cX11_archer 113 = .ok (.iadd, 1) := by decide +kernel
theorem dX11_archer_114 : decode cX11_archer 114 = .ok (.iaload, 1) := by decide +kernel
theorem dX11_archer_115 : decode cX11_archer 115 = .ok (.ireturn, 1) := by decide +kernel
theorem dX11_archer_116 : decode cX11_archer 116 = .ok (.aload_n 0, 1) := by decide +kernel
theorem dX11_archer_117 : decode cX11_archer 117 = .ok (.getfield 43, 3) := by decide +kernel
theorem dX11_archer_120 : decode cX11_archer 120 = .ok (.getfield 111, 3) := by decide +kernel
theorem dX11_archer_123 : decode cX11_archer 123 = .ok (.getfield 124, 3) := by decide +kernel
theorem dX11_archer_126 : decode cX11_archer 126 = .ok (.bipush 58, 2) := by decide +kernel
theorem dX11_archer_128 : decode cX11_archer 128 = .ok (.iload_n 1, 1) := by decide +kernel
theorem dX11_archer_129 : decode cX11_archer 129 = .ok (.iadd, 1) := by decide +kernel
theorem dX11_archer_130 : decode cX11_archer 130 = .ok (.iaload, 1) := by decide +kernel
theorem dX11_archer_131 : decode cX11_archer 131 = .ok (.ireturn, 1) := by decide +kernel
theorem dX11_archer_132 : decode cX11_archer 132 = .ok (.iconst (-1), 1) := by decide +kernel
theorem dX11_archer_133 : decode cX11_archer 133 = .ok (.ireturn, 1) := by decide +kernel
theorem dX11_breath_0 : decode cX11_breath 0 = .ok (.aload_n 0, 1) := by decide +kernel
theorem dX11_breath_1 : decode cX11_breath 1 = .ok (.getfield 43, 3) := by decide +kernel
theorem dX11_breath_4 : decode cX11_breath 4 = .ok (.getfield 111, 3) := by decide +kernel
theorem dX11_breath_7 : decode cX11_breath 7 = .ok (.astore_n 2, 1) := by decide +kernel
theorem dX11_breath_8 : decode cX11_breath 8 = .ok (.aload_n 2, 1) := by decide +kernel
theorem dX11_breath_9 : decode cX11_breath 9 = .ok (.invokevirtual 152, 3) := by decide +kernel
theorem dX11_breath_12 : decode cX11_breath 12 = .ok (.ifCond .eq 13, 3) := by decide +kernel
theorem dX11_breath_15 : decode cX11_breath 15 = .ok (.iload_n 1, 1) := by decide +kernel
theorem dX11_breath_16 : decode cX11_breath 16 = .ok (.iconst 1, 1) := by decide +kernel
theorem dX11_breath_17 : decode cX11_breath 17 = .ok (.bipush 20, 2) := by decide +kernel
theorem dX11_breath_19 : decode cX11_breath 19 = .ok (.invokestatic 90, 3) := by decide +kernel
theorem dX11_breath_22 : decode cX11_breath 22 = .ok (.ifCond .ne 5, 3) := by decide +kernel
theorem dX11_breath_25 : decode cX11_breath 25 = .ok (.iconst (-1), 1) := by decide +kernel
theorem dX11_breath_26 : decode cX11_breath 26 = .ok (.ireturn, 1) := by decide +kernel
theorem dX11_breath_27 : decode cX11_breath 27 = .ok (.aload_n 0, 1) := by decide +kernel
theorem dX11_breath_28 : decode cX11_breath 28 = .ok (.getfield 54, 3) := by decide +kernel
theorem dX11_breath_31 : decode cX11_breath 31 = .ok (.aload_n 2, 1) := by decide +kernel
theorem dX11_breath_32 : decode cX11_breath 32 = .ok (.invokevirtual 156, 3) := by decide +kernel
theorem dX11_breath_35 : decode cX11_breath 35 = .ok (.aload_n 2, 1) := by decide +kernel
theorem dX11_breath_36 : decode cX11_breath 36 = .ok (.getfield 124, 3) := by decide +kernel
theorem dX11_breath_39 : decode cX11_breath 39 = .ok (.bipush 6, 2) := by decide +kernel
theorem dX11_breath_41 : decode cX11_breath 41 = .ok (.dup2, 1) := by decide +kernel
theorem dX11_breath_42 : decode cX11_breath 42 = .ok (.iaload, 1) := by decide +kernel
theorem dX11_breath_43 : decode cX11_breath 43 = .ok (.iload_n 1, 1) := by decide +kernel
theorem dX11_breath_44 : decode cX11_breath 44 = .ok (.iadd, 1) := by decide +kernel
theorem dX11_breath_45 : decode cX11_breath 45 = .ok (.iastore, 1) := by decide +kernel
theorem dX11_breath_46 : decode cX11_breath 46 = .ok (.aload_n 2, 1) := by decide +kernel
theorem dX11_breath_47 : decode cX11_breath 47 = .ok (.getfield 124, 3) := by decide +kernel
theorem dX11_breath_50 : decode cX11_breath 50 = .ok (.bipush 6, 2) := by decide +kernel
theorem dX11_breath_52 : decode cX11_breath 52 = .ok (.iaload, 1) := by decide +kernel
theorem dX11_breath_53 : decode cX11_breath 53 = .ok (.ireturn, 1) := by decide +kernel
theorem dX11_within_0 : decode cX11_within 0 = .ok (.iload_n 0, 1) := by decide +kernel
theorem dX11_within_1 : decode cX11_within 1 = .ok (.iload_n 1, 1) := by decide +kernel
theorem dX11_within_2 : decode cX11_within 2 = .ok (.if_icmp .lt 12, 3) := by decide +kernel
theorem dX11_within_5 : decode cX11_within 5 = .ok (.iload_n 0, 1) := by decide +kernel
theorem dX11_within_6 : decode cX11_within 6 = .ok (.iload_n 2, 1) := by decide +kernel
theorem dX11_within_7 : decode cX11_within 7 = .ok (.if_icmp .gt 7, 3) := by decide +kernel
theorem dX11_within_10 : decode cX11_within 10 = .ok (.iconst 1, 1) := by decide +kernel
theorem dX11_within_11 : decode cX11_within 11 = .ok (.goto 4, 3) := by decide +kernel
theorem dX11_within_14 : decode cX11_within 14 = .ok (.iconst 0, 1) := by decide +kernel
theorem dX11_within_15 : decode cX11_within 15 = .ok (.ireturn, 1) := by decide +kernel
theorem dX12_archer_0 : decode cX12_archer 0 = .ok (.aload_n 0, 1) := by decide +kernel
theorem dX12_archer_1 : decode cX12_archer 1 = .ok (.iload_n 1, 1) := by decide +kernel
theorem dX12_archer_2 : decode cX12_archer 2 = .ok (.invokevirtual 314, 3) := by decide +kernel
theorem dX12_archer_5 : decode cX12_archer 5 = .ok (.ifCond .ne 5, 3) := by decide +kernel
theorem dX12_archer_8 : decode cX12_archer 8 = .ok (.iconst (-1), 1) := by decide +kernel
theorem dX12_archer_9 : decode cX12_archer 9 = .ok (.ireturn, 1) := by decide +kernel
theorem dX12_archer_10 : decode cX12_archer 10 = .ok (.iload_n 2, 1) := by decide +kernel
theorem dX12_archer_11 : decode cX12_archer 11 = .ok (.tableswitch 71 0 4 #[33, 43, 49, 59, 65], 33) := by decide +kernel
theorem dX12_archer_44 : decode cX12_archer 44 = .ok (.aload_n 0, 1) := by decide +kernel
theorem dX12_archer_45 : decode cX12_archer 45 = .ok (.getfield 39, 3) := by decide +kernel
theorem dX12_archer_48 : decode cX12_archer 48 = .ok (.bipush 46, 2) := by decide +kernel
theorem dX12_archer_50 : decode cX12_archer 50 = .ok (.iload_n 1, 1) := by decide +kernel
theorem dX12_archer_51 : decode cX12_archer 51 = .ok (.iadd, 1) := by decide +kernel
theorem dX12_archer_52 : decode cX12_archer 52 = .ok (.iaload, 1) := by decide +kernel
theorem dX12_archer_53 : decode cX12_archer 53 = .ok (.ireturn, 1) := by decide +kernel
theorem dX12_archer_54 : decode cX12_archer 54 = .ok (.aload_n 0, 1) := by decide +kernel
theorem dX12_archer_55 : decode cX12_archer 55 = .ok (.iload_n 1, 1) := by decide +kernel
theorem dX12_archer_56 : decode cX12_archer 56 = .ok (.invokevirtual 303, 3) := by decide +kernel
theorem dX12_archer_59 : decode cX12_archer 59 = .ok (.ireturn, 1) := by decide +kernel
theorem dX12_archer_60 : decode cX12_archer 60 = .ok (.aload_n 0, 1) := by decide +kernel
theorem dX12_archer_61 : decode cX12_archer 61 = .ok (.getfield 39, 3) := by decide +kernel
theorem dX12_archer_64 : decode cX12_archer 64 = .ok (.bipush 51, 2) := by decide +kernel
theorem dX12_archer_66 : decode cX12_archer 66 = .ok (.iload_n 1, 1) := by decide +kernel
theorem dX12_archer_67 : decode cX12_archer 67 = .ok (.iadd, 1) := by decide +kernel
theorem dX12_archer_68 : decode cX12_archer 68 = .ok (.iaload, 1) := by decide +kernel
theorem dX12_archer_69 : decode cX12_archer 69 = .ok (.ireturn, 1) := by decide +kernel
theorem dX12_archer_70 : decode cX12_archer 70 = .ok (.aload_n 0, 1) := by decide +kernel
theorem dX12_archer_71 : decode cX12_archer 71 = .ok (.iload_n 1, 1) := by decide +kernel
theorem dX12_archer_72 : decode cX12_archer 72 = .ok (.invokevirtual 317, 3) := by decide +kernel
theorem dX12_archer_75 : decode cX12_archer 75 = .ok (.ireturn, 1) := by decide +kernel
theorem dX12_archer_76 : decode cX12_archer 76 = .ok (.aload_n 0, 1) := by decide +kernel
theorem dX12_archer_77 : decode cX12_archer 77 = .ok (.iload_n 1, 1) := by decide +kernel
theorem dX12_archer_78 : decode cX12_archer 78 = .ok (.invokevirtual 320, 3) := by decide +kernel
theorem dX12_archer_81 : decode cX12_archer 81 = .ok (.ireturn, 1) := by decide +kernel
theorem dX12_archer_82 : decode cX12_archer 82 = .ok (.iconst (-1), 1) := by decide +kernel
theorem dX12_archer_83 : decode cX12_archer 83 = .ok (.ireturn, 1) := by decide +kernel
theorem dX12_breath_0 : decode cX12_breath 0 = .ok (.aload_n 0, 1) := by decide +kernel
theorem dX12_breath_1 : decode cX12_breath 1 = .ok (.invokevirtual 294, 3) := by decide +kernel
theorem dX12_breath_4 : decode cX12_breath 4 = .ok (.ifCond .eq 15, 3) := by decide +kernel
theorem dX12_breath_7 : decode cX12_breath 7 = .ok (.iload_n 1, 1) := by decide +kernel
theorem dX12_breath_8 : decode cX12_breath 8 = .ok (.i2l, 1) := by decide +kernel
theorem dX12_breath_9 : decode cX12_breath 9 = .ok (.lconst 1, 1) := by decide +kernel
theorem dX12_breath_10 : decode cX12_breath 10 = .ok (.ldc2_w 366, 3) := by decide +kernel
theorem dX12_breath_13 : decode cX12_breath 13 = .ok (.invokestatic 127, 3) := by decide +kernel
theorem dX12_breath_16 : decode cX12_breath 16 = .ok (.ifCond .ne 5, 3) := by decide +kernel
theorem dX12_breath_19 : decode cX12_breath 19 = .ok (.iconst (-1), 1) := by decide +kernel
theorem dX12_breath_20 : decode cX12_breath 20 = .ok (.ireturn, 1) := by decide +kernel
theorem dX12_breath_21 : decode cX12_breath 21 = .ok (.aload_n 0, 1) := by decide +kernel
theorem dX12_breath_22 : decode cX12_breath 22 = .ok (.invokevirtual 363, 3) := by decide +kernel
theorem dX12_breath_25 : decode cX12_breath 25 = .ok (.aload_n 0, 1) := by decide +kernel
theorem dX12_breath_26 : decode cX12_breath 26 = .ok (.getfield 39, 3) := by decide +kernel
theorem dX12_breath_29 : decode cX12_breath 29 = .ok (.bipush 11, 2) := by decide +kernel
theorem dX12_breath_31 : decode cX12_breath 31 = .ok (.dup2, 1) := by decide +kernel
theorem dX12_breath_32 : decode cX12_breath 32 = .ok (.iaload, 1) := by decide +kernel
theorem dX12_breath_33 : decode cX12_breath 33 = .ok (.iload_n 1, 1) := by decide +kernel
theorem dX12_breath_34 : decode cX12_breath 34 = .ok (.iadd, 1) := by decide +kernel
theorem dX12_breath_35 : decode cX12_breath 35 = .ok (.iastore, 1) := by decide +kernel
theorem dX12_breath_36 : decode cX12_breath 36 = .ok (.aload_n 0, 1) := by decide +kernel
theorem dX12_breath_37 : decode cX12_breath 37 = .ok (.getfield 39, 3) := by decide +kernel
theorem dX12_breath_40 : decode cX12_breath 40 = .ok (.bipush 11, 2) := by decide +kernel
theorem dX12_breath_42 : decode cX12_breath 42 = .ok (.iaload, 1) := by decide +kernel
theorem dX12_breath_43 : decode cX12_breath 43 = .ok (.ireturn, 1) := by decide +kernel
theorem dX12_isRing_0 : decode cX12_isRing 0 = .ok (.iload_n 1, 1) := by decide +kernel
theorem dX12_isRing_1 : decode cX12_isRing 1 = .ok (.ifCond .lt 17, 3) := by decide +kernel
theorem dX12_isRing_4 : decode cX12_isRing 4 = .ok (.iload_n 1, 1) := by decide +kernel
theorem dX12_isRing_5 : decode cX12_isRing 5 = .ok (.aload_n 0, 1) := by decide +kernel
theorem dX12_isRing_6 : decode cX12_isRing 6 = .ok (.getfield 39, 3) := by decide +kernel
theorem dX12_isRing_9 : decode cX12_isRing 9 = .ok (.iconst 4, 1) := by decide +kernel
theorem dX12_isRing_10 : decode cX12_isRing 10 = .ok (.iaload, 1) := by decide +kernel
theorem dX12_isRing_11 : decode cX12_isRing 11 = .ok (.if_icmp .ge 7, 3) := by decide +kernel
theorem dX12_isRing_14 : decode cX12_isRing 14 = .ok (.iconst 1, 1) := by decide +kernel
theorem dX12_isRing_15 : decode cX12_isRing 15 = .ok (.goto 4, 3) := by decide +kernel
theorem dX12_isRing_18 : decode cX12_isRing 18 = .ok (.iconst 0, 1) := by decide +kernel
theorem dX12_isRing_19 : decode cX12_isRing 19 = .ok (.ireturn, 1) := by decide +kernel
theorem dX12_isRule_0 : decode cX12_isRule 0 = .ok (.iload_n 1, 1) := by decide +kernel
theorem dX12_isRule_1 : decode cX12_isRule 1 = .ok (.ifCond .lt 15, 3) := by decide +kernel
theorem dX12_isRule_4 : decode cX12_isRule 4 = .ok (.iload_n 1, 1) := by decide +kernel
theorem dX12_isRule_5 : decode cX12_isRule 5 = .ok (.aload_n 0, 1) := by decide +kernel
theorem dX12_isRule_6 : decode cX12_isRule 6 = .ok (.getfield 267, 3) := by decide +kernel
theorem dX12_isRule_9 : decode cX12_isRule 9 = .ok (.if_icmp .ge 7, 3) := by decide +kernel
theorem dX12_isRule_12 : decode cX12_isRule 12 = .ok (.iconst 1, 1) := by decide +kernel
theorem dX12_isRule_13 : decode cX12_isRule 13 = .ok (.goto 4, 3) := by decide +kernel
theorem dX12_isRule_16 : decode cX12_isRule 16 = .ok (.iconst 0, 1) := by decide +kernel
theorem dX12_isRule_17 : decode cX12_isRule 17 = .ok (.ireturn, 1) := by decide +kernel
theorem dX12_isWord_0 : decode cX12_isWord 0 = .ok (.aload_n 0, 1) := by decide +kernel
theorem dX12_isWord_1 : decode cX12_isWord 1 = .ok (.invokevirtual 102, 3) := by decide +kernel
theorem dX12_isWord_4 : decode cX12_isWord 4 = .ok (.pop, 1) := by decide +kernel
theorem dX12_isWord_5 : decode cX12_isWord 5 = .ok (.lconst 0, 1) := by decide +kernel
theorem dX12_isWord_6 : decode cX12_isWord 6 = .ok (.lstore_n 3, 1) := by decide +kernel
theorem dX12_isWord_7 : decode cX12_isWord 7 = .ok (.iconst 0, 1) := by decide +kernel
theorem dX12_isWord_8 : decode cX12_isWord 8 = .ok (.istore 5, 2) := by decide +kernel
theorem dX12_isWord_10 : decode cX12_isWord 10 = .ok (.aload_n 0, 1) := by decide +kernel
theorem dX12_isWord_11 : decode cX12_isWord 11 = .ok (.aload_n 0, 1) := by decide +kernel
theorem dX12_isWord_12 : decode cX12_isWord 12 = .ok (.getfield 99, 3) := by decide +kernel
theorem dX12_isWord_15 : decode cX12_isWord 15 = .ok (.iload 5, 2) := by decide +kernel
theorem dX12_isWord_17 : decode cX12_isWord 17 = .ok (.iadd, 1) := by decide +kernel
theorem dX12_isWord_18 : decode cX12_isWord 18 = .ok (.invokevirtual 106, 3) := by decide +kernel
theorem dX12_isWord_21 : decode cX12_isWord 21 = .ok (.ifCond .eq 35, 3) := by decide +kernel
theorem dX12_isWord_24 : decode cX12_isWord 24 = .ok (.iload 5, 2) := by decide +kernel
theorem dX12_isWord_26 : decode cX12_isWord 26 = .ok (.bipush 8, 2) := by decide +kernel
theorem dX12_isWord_28 : decode cX12_isWord 28 = .ok (.if_icmp .ge 22, 3) := by decide +kernel
theorem dX12_isWord_31 : decode cX12_isWord 31 = .ok (.lload_n 3, 1) := by decide +kernel
theorem dX12_isWord_32 : decode cX12_isWord 32 = .ok (.bipush 8, 2) := by decide +kernel
theorem dX12_isWord_34 : decode cX12_isWord 34 = .ok (.lshl, 1) := by decide +kernel
theorem dX12_isWord_35 : decode cX12_isWord 35 = .ok (.aload_n 0, 1) := by decide +kernel
theorem dX12_isWord_36 : decode cX12_isWord 36 = .ok (.getfield 7, 3) := by decide +kernel
theorem dX12_isWord_39 : decode cX12_isWord 39 = .ok (.aload_n 0, 1) := by decide +kernel
theorem dX12_isWord_40 : decode cX12_isWord 40 = .ok (.getfield 99, 3) := by decide +kernel
theorem dX12_isWord_43 : decode cX12_isWord 43 = .ok (.iload 5, 2) := by decide +kernel
theorem dX12_isWord_45 : decode cX12_isWord 45 = .ok (.iadd, 1) := by decide +kernel
theorem dX12_isWord_46 : decode cX12_isWord 46 = .ok (.baload, 1) := by decide +kernel
theorem dX12_isWord_47 : decode cX12_isWord 47 = .ok (.i2l, 1) := by decide +kernel
theorem dX12_isWord_48 : decode cX12_isWord 48 = .ok (.lor, 1) := by decide +kernel
theorem dX12_isWord_49 : decode cX12_isWord 49 = .ok (.lstore_n 3, 1) := by decide +kernel
theorem dX12_isWord_50 : decode cX12_isWord 50 = .ok (.iinc 5 1, 3) := by decide +kernel
theorem dX12_isWord_53 : decode cX12_isWord 53 = .ok (.goto (-43), 3) := by decide +kernel
theorem dX12_isWord_56 : decode cX12_isWord 56 = .ok (.iload 5, 2) := by decide +kernel
theorem dX12_isWord_58 : decode cX12_isWord 58 = .ok (.ifCond .le 20, 3) := by decide +kernel
theorem dX12_isWord_61 : decode cX12_isWord 61 = .ok (.iload 5, 2) := by decide +kernel
theorem dX12_isWord_63 : decode cX12_isWord 63 = .ok (.bipush 8, 2) := by decide +kernel
theorem dX12_isWord_65 : decode cX12_isWord 65 = .ok (.if_icmp .ge 13, 3) := by decide +kernel
theorem dX12_isWord_68 : decode cX12_isWord 68 = .ok (.lload_n 3, 1) := by decide +kernel
theorem dX12_isWord_69 : decode cX12_isWord 69 = .ok (.lload_n 1, 1) := by decide +kernel
theorem dX12_isWord_70 : decode cX12_isWord 70 = .ok (.lcmp, 1) := by decide +kernel
theorem dX12_isWord_71 : decode cX12_isWord 71 = .ok (.ifCond .ne 7, 3) := by decide +kernel
theorem dX12_isWord_74 : decode cX12_isWord 74 = .ok (.iconst 1, 1) := by decide +kernel
theorem dX12_isWord_75 : decode cX12_isWord 75 = .ok (.goto 4, 3) := by decide +kernel
theorem dX12_isWord_78 : decode cX12_isWord 78 = .ok (.iconst 0, 1) := by decide +kernel
theorem dX12_isWord_79 : decode cX12_isWord 79 = .ok (.ireturn, 1) := by decide +kernel
theorem dX1_hasRing_0 : decode cX1_hasRing 0 = .ok (.iload_n 1, 1) := by decide +kernel
theorem dX1_hasRing_1 : decode cX1_hasRing 1 = .ok (.iconst 0, 1) := by decide +kernel
theorem dX1_hasRing_2 : decode cX1_hasRing 2 = .ok (.aload_n 0, 1) := by decide +kernel
theorem dX1_hasRing_3 : decode cX1_hasRing 3 = .ok (.getfield 11, 3) := by decide +kernel
theorem dX1_hasRing_6 : decode cX1_hasRing 6 = .ok (.iconst 3, 1) := by decide +kernel
theorem dX1_hasRing_7 : decode cX1_hasRing 7 = .ok (.iaload, 1) := by decide +kernel
theorem dX1_hasRing_8 : decode cX1_hasRing 8 = .ok (.iconst 1, 1) := by decide +kernel
theorem dX1_hasRing_9 : decode cX1_hasRing 9 = .ok (.isub, 1) := by decide +kernel
theorem dX1_hasRing_10 : decode cX1_hasRing 10 = .ok (.invokestatic 27, 3) := by decide +kernel
theorem dX1_hasRing_13 : decode cX1_hasRing 13 = .ok (.ireturn, 1) := by decide +kernel
theorem dX10_advance_0 : decode cX10_advance 0 = .ok (.aload_n 0, 1) := by decide +kernel
theorem dX10_advance_1 : decode cX10_advance 1 = .ok (.getfield 31, 3) := by decide +kernel
theorem dX10_advance_4 : decode cX10_advance 4 = .ok (.iconst 1, 1) := by decide +kernel
theorem dX10_advance_5 : decode cX10_advance 5 = .ok (.iadd, 1) := by decide +kernel
theorem dX10_advance_6 : decode cX10_advance 6 = .ok (.aload_n 0, 1) := by decide +kernel
theorem dX10_advance_7 : decode cX10_advance 7 = .ok (.getfield 28, 3) := by decide +kernel
theorem dX10_advance_10 : decode cX10_advance 10 = .ok (.if_icmp .ge 52, 3) := by decide +kernel
theorem dX10_advance_13 : decode cX10_advance 13 = .ok (.aload_n 0, 1) := by decide +kernel
theorem dX10_advance_14 : decode cX10_advance 14 = .ok (.dup, 1) := by decide +kernel
theorem dX10_advance_15 : decode cX10_advance 15 = .ok (.getfield 31, 3) := by decide +kernel
theorem dX10_advance_18 : decode cX10_advance 18 = .ok (.iconst 1, 1) := by decide +kernel
theorem dX10_advance_19 : decode cX10_advance 19 = .ok (.iadd, 1) := by decide +kernel
theorem dX10_advance_20 : decode cX10_advance 20 = .ok (.putfield 31, 3) := by decide +kernel
theorem dX10_advance_23 : decode cX10_advance 23 = .ok (.aload_n 0, 1) := by decide +kernel
theorem dX10_advance_24 : decode cX10_advance 24 = .ok (.aload_n 0, 1) := by decide +kernel
theorem dX10_advance_25 : decode cX10_advance 25 = .ok (.getfield 19, 3) := by decide +kernel
theorem dX10_advance_28 : decode cX10_advance 28 = .ok (.aload_n 0, 1) := by decide +kernel
theorem dX10_advance_29 : decode cX10_advance 29 = .ok (.getfield 31, 3) := by decide +kernel
theorem dX10_advance_32 : decode cX10_advance 32 = .ok (.iaload, 1) := by decide +kernel
theorem dX10_advance_33 : decode cX10_advance 33 = .ok (.putfield 34, 3) := by decide +kernel
theorem dX10_advance_36 : decode cX10_advance 36 = .ok (.aload_n 0, 1) := by decide +kernel
theorem dX10_advance_37 : decode cX10_advance 37 = .ok (.aload_n 0, 1) := by decide +kernel
theorem dX10_advance_38 : decode cX10_advance 38 = .ok (.getfield 22, 3) := by decide +kernel
theorem dX10_advance_41 : decode cX10_advance 41 = .ok (.aload_n 0, 1) := by decide +kernel
theorem dX10_advance_42 : decode cX10_advance 42 = .ok (.getfield 31, 3) := by decide +kernel
theorem dX10_advance_45 : decode cX10_advance 45 = .ok (.iaload, 1) := by decide +kernel
theorem dX10_advance_46 : decode cX10_advance 46 = .ok (.putfield 37, 3) := by decide +kernel
theorem dX10_advance_49 : decode cX10_advance 49 = .ok (.aload_n 0, 1) := by decide +kernel
theorem dX10_advance_50 : decode cX10_advance 50 = .ok (.aload_n 0, 1) := by decide +kernel
theorem dX10_advance_51 : decode cX10_advance 51 = .ok (.getfield 25, 3) := by decide +kernel
theorem dX10_advance_54 : decode cX10_advance 54 = .ok (.aload_n 0, 1) := by decide +kernel
theorem dX10_advance_55 : decode cX10_advance 55 = .ok (.getfield 31, 3) := by decide +kernel
theorem dX10_advance_58 : decode cX10_advance 58 = .ok (.iaload, 1) := by decide +kernel
theorem dX10_advance_59 : decode cX10_advance 59 = .ok (.putfield 40, 3) := by decide +kernel
theorem dX10_advance_62 : decode cX10_advance 62 = .ok (.return_, 1) := by decide +kernel
theorem dX10_hasRoom_0 : decode cX10_hasRoom 0 = .ok (.aload_n 0, 1) := by decide +kernel
theorem dX10_hasRoom_1 : decode cX10_hasRoom 1 = .ok (.getfield 15, 3) := by decide +kernel
theorem dX10_hasRoom_4 : decode cX10_hasRoom 4 = .ok (.iload_n 1, 1) := by decide +kernel
theorem dX10_hasRoom_5 : decode cX10_hasRoom 5 = .ok (.iadd, 1) := by decide +kernel
theorem dX10_hasRoom_6 : decode cX10_hasRoom 6 = .ok (.sipush 400, 3) := by decide +kernel
theorem dX10_hasRoom_9 : decode cX10_hasRoom 9 = .ok (.if_icmp .gt 7, 3) := by decide +kernel
theorem dX10_hasRoom_12 : decode cX10_hasRoom 12 = .ok (.iconst 1, 1) := by decide +kernel
theorem dX10_hasRoom_13 : decode cX10_hasRoom 13 = .ok (.goto 4, 3) := by decide +kernel
theorem dX10_hasRoom_16 : decode cX10_hasRoom 16 = .ok (.iconst 0, 1) := by decide +kernel
theorem dX10_hasRoom_17 : decode cX10_hasRoom 17 = .ok (.ireturn, 1) := by decide +kernel
theorem dX11_bestAim_0 : decode cX11_bestAim 0 = .ok (.aload_n 0, 1) := by decide +kernel
theorem dX11_bestAim_1 : decode cX11_bestAim 1 = .ok (.getfield 43, 3) := by decide +kernel
theorem dX11_bestAim_4 : decode cX11_bestAim 4 = .ok (.getfield 111, 3) := by decide +kernel
theorem dX11_bestAim_7 : decode cX11_bestAim 7 = .ok (.astore_n 3, 1) := by decide +kernel
theorem dX11_bestAim_8 : decode cX11_bestAim 8 = .ok (.aload_n 3, 1) := by decide +kernel
theorem dX11_bestAim_9 : decode cX11_bestAim 9 = .ok (.iload_n 1, 1) := by decide +kernel
theorem dX11_bestAim_10 : decode cX11_bestAim 10 = .ok (.invokevirtual 139, 3) := by decide +kernel
theorem dX11_bestAim_13 : decode cX11_bestAim 13 = .ok (.ifCond .eq 12, 3) := by decide +kernel
theorem dX11_bestAim_16 : decode cX11_bestAim 16 = .ok (.iload_n 2, 1) := by decide +kernel
theorem dX11_bestAim_17 : decode cX11_bestAim 17 = .ok (.iconst 0, 1) := by decide +kernel
theorem dX11_bestAim_18 : decode cX11_bestAim 18 = .ok (.iconst 1, 1) := by decide +kernel
theorem dX11_bestAim_19 : decode cX11_bestAim 19 = .ok (.invokestatic 90, 3) := by decide +kernel
theorem dX11_bestAim_22 : decode cX11_bestAim 22 = .ok (.ifCond .ne 6, 3) := by decide +kernel
theorem dX11_bestAim_25 : decode cX11_bestAim 25 = .ok (.bipush (-2), 2) := by decide +kernel
theorem dX11_bestAim_27 : decode cX11_bestAim 27 = .ok (.ireturn, 1) := by decide +kernel
theorem dX11_bestAim_28 : decode cX11_bestAim 28 = .ok (.aload_n 3, 1) := by decide +kernel
theorem dX11_bestAim_29 : decode cX11_bestAim 29 = .ok (.getfield 124, 3) := by decide +kernel
theorem dX11_bestAim_32 : decode cX11_bestAim 32 = .ok (.bipush 38, 2) := by decide +kernel
theorem dX11_bestAim_34 : decode cX11_bestAim 34 = .ok (.iload_n 1, 1) := by decide +kernel
theorem dX11_bestAim_35 : decode cX11_bestAim 35 = .ok (.iadd, 1) := by decide +kernel
theorem dX11_bestAim_36 : decode cX11_bestAim 36 = .ok (.iaload, 1) := by decide +kernel
theorem dX11_bestAim_37 : decode cX11_bestAim 37 = .ok (.istore 4, 2) := by decide +kernel
theorem dX11_bestAim_39 : decode cX11_bestAim 39 = .ok (.aload_n 3, 1) := by decide +kernel
theorem dX11_bestAim_40 : decode cX11_bestAim 40 = .ok (.getfield 124, 3) := by decide +kernel
theorem dX11_bestAim_43 : decode cX11_bestAim 43 = .ok (.bipush 53, 2) := by decide +kernel
theorem dX11_bestAim_45 : decode cX11_bestAim 45 = .ok (.iload_n 1, 1) := by decide +kernel
theorem dX11_bestAim_46 : decode cX11_bestAim 46 = .ok (.iadd, 1) := by decide +kernel
theorem dX11_bestAim_47 : decode cX11_bestAim 47 = .ok (.iaload, 1) := by decide +kernel
theorem dX11_bestAim_48 : decode cX11_bestAim 48 = .ok (.aload_n 3, 1) := by decide +kernel
theorem dX11_bestAim_49 : decode cX11_bestAim 49 = .ok (.getfield 124, 3) := by decide +kernel
theorem dX11_bestAim_52 : decode cX11_bestAim 52 = .ok (.bipush 26, 2) := by decide +kernel
theorem dX11_bestAim_54 : decode cX11_bestAim 54 = .ok (.iload 4, 2) := by decide +kernel
theorem dX11_bestAim_56 : decode cX11_bestAim 56 = .ok (.iadd, 1) := by decide +kernel
theorem dX11_bestAim_57 : decode cX11_bestAim 57 = .ok (.iaload, 1) := by decide +kernel
theorem dX11_bestAim_58 : decode cX11_bestAim 58 = .ok (.invokestatic 178, 3) := by decide +kernel
theorem dX11_bestAim_61 : decode cX11_bestAim 61 = .ok (.istore 5, 2) := by decide +kernel
theorem dX11_bestAim_63 : decode cX11_bestAim 63 = .ok (.aload_n 3, 1) := by decide +kernel
theorem dX11_bestAim_64 : decode cX11_bestAim 64 = .ok (.iload_n 1, 1) := by decide +kernel
theorem dX11_bestAim_65 : decode cX11_bestAim 65 = .ok (.aload_n 3, 1) := by decide +kernel
theorem dX11_bestAim_66 : decode cX11_bestAim 66 = .ok (.getfield 124, 3) := by decide +kernel
theorem dX11_bestAim_69 : decode cX11_bestAim 69 = .ok (.bipush 6, 2) := by decide +kernel
theorem dX11_bestAim_71 : decode cX11_bestAim 71 = .ok (.iaload, 1) := by decide +kernel
theorem dX11_bestAim_72 : decode cX11_bestAim 72 = .ok (.invokevirtual 197, 3) := by decide +kernel
theorem dX11_bestAim_75 : decode cX11_bestAim 75 = .ok (.istore 6, 2) := by decide +kernel
theorem dX11_bestAim_77 : decode cX11_bestAim 77 = .ok (.iload 6, 2) := by decide +kernel
theorem dX11_bestAim_79 : decode cX11_bestAim 79 = .ok (.iconst (-1), 1) := by decide +kernel
theorem dX11_bestAim_80 : decode cX11_bestAim 80 = .ok (.if_icmp .eq 9, 3) := by decide +kernel
theorem dX11_bestAim_83 : decode cX11_bestAim 83 = .ok (.iload 5, 2) := by decide +kernel
theorem dX11_bestAim_85 : decode cX11_bestAim 85 = .ok (.iconst 1, 1) := by decide +kernel
theorem dX11_bestAim_86 : decode cX11_bestAim 86 = .ok (.if_icmp .ge 13, 3) := by decide +kernel
theorem dX11_bestAim_89 : decode cX11_bestAim 89 = .ok (.iload_n 2, 1) := by decide +kernel
theorem dX11_bestAim_90 : decode cX11_bestAim 90 = .ok (.ifCond .ne 7, 3) := by decide +kernel
theorem dX11_bestAim_93 : decode cX11_bestAim 93 = .ok (.iconst (-1), 1) := by decide +kernel
theorem dX11_bestAim_94 : decode cX11_bestAim 94 = .ok (.goto 4, 3) := by decide +kernel
theorem dX11_bestAim_97 : decode cX11_bestAim 97 = .ok (.iconst 0, 1) := by decide +kernel
theorem dX11_bestAim_98 : decode cX11_bestAim 98 = .ok (.ireturn, 1) := by decide +kernel
theorem dX11_bestAim_99 : decode cX11_bestAim 99 = .ok (.iload_n 2, 1) := by decide +kernel
theorem dX11_bestAim_100 : decode cX11_bestAim 100 = .ok (.ifCond .ne 8, 3) := by decide +kernel
theorem dX11_bestAim_103 : decode cX11_bestAim 103 = .ok (.iload 6, 2) := by decide +kernel
theorem dX11_bestAim_105 : decode cX11_bestAim 105 = .ok (.goto 5, 3) := by decide +kernel
theorem dX11_bestAim_108 : decode cX11_bestAim 108 = .ok (.iload 5, 2) := by decide +kernel
theorem dX11_bestAim_110 : decode cX11_bestAim 110 = .ok (.ireturn, 1) := by decide +kernel
theorem dX11_skilled_0 : decode cX11_skilled 0 = .ok (.aload_n 0, 1) := by decide +kernel
theorem dX11_skilled_1 : decode cX11_skilled 1 = .ok (.getfield 43, 3) := by decide +kernel
theorem dX11_skilled_4 : decode cX11_skilled 4 = .ok (.getfield 111, 3) := by decide +kernel
theorem dX11_skilled_7 : decode cX11_skilled 7 = .ok (.iload_n 1, 1) := by decide +kernel
theorem dX11_skilled_8 : decode cX11_skilled 8 = .ok (.invokevirtual 139, 3) := by decide +kernel
theorem dX11_skilled_11 : decode cX11_skilled 11 = .ok (.ifCond .ne 5, 3) := by decide +kernel
theorem dX11_skilled_14 : decode cX11_skilled 14 = .ok (.iconst (-1), 1) := by decide +kernel
theorem dX11_skilled_15 : decode cX11_skilled 15 = .ok (.ireturn, 1) := by decide +kernel
theorem dX11_skilled_16 : decode cX11_skilled 16 = .ok (.aload_n 0, 1) := by decide +kernel
theorem dX11_skilled_17 : decode cX11_skilled 17 = .ok (.getfield 75, 3) := by decide +kernel
theorem dX11_skilled_20 : decode cX11_skilled 20 = .ok (.aload_n 0, 1) := by decide +kernel
theorem dX11_skilled_21 : decode cX11_skilled 21 = .ok (.getfield 61, 3) := by decide +kernel
theorem dX11_skilled_24 : decode cX11_skilled 24 = .ok (.aload_n 0, 1) := by decide +kernel
theorem dX11_skilled_25 : decode cX11_skilled 25 = .ok (.getfield 43, 3) := by decide +kernel
theorem dX11_skilled_28 : decode cX11_skilled 28 = .ok (.aload_n 0, 1) := by decide +kernel
theorem dX11_skilled_29 : decode cX11_skilled 29 = .ok (.invokevirtual 159, 3) := by decide +kernel
theorem dX11_skilled_32 : decode cX11_skilled 32 = .ok (.bipush 43, 2) := by decide +kernel
theorem dX11_skilled_34 : decode cX11_skilled 34 = .ok (.iload_n 1, 1) := by decide +kernel
theorem dX11_skilled_35 : decode cX11_skilled 35 = .ok (.iadd, 1) := by decide +kernel
theorem dX11_skilled_36 : decode cX11_skilled 36 = .ok (.iconst 1, 1) := by decide +kernel
theorem dX11_skilled_37 : decode cX11_skilled 37 = .ok (.bipush 9, 2) := by decide +kernel
theorem dX11_skilled_39 : decode cX11_skilled 39 = .ok (.invokevirtual 239, 3) := by decide +kernel
theorem dX11_skilled_42 : decode cX11_skilled 42 = .ok (.ireturn, 1) := by decide +kernel
theorem dX12_bestAim_0 : decode cX12_bestAim 0 = .ok (.aload_n 0, 1) := by decide +kernel
theorem dX12_bestAim_1 : decode cX12_bestAim 1 = .ok (.iload_n 1, 1) := by decide +kernel
theorem dX12_bestAim_2 : decode cX12_bestAim 2 = .ok (.invokevirtual 314, 3) := by decide +kernel
theorem dX12_bestAim_5 : decode cX12_bestAim 5 = .ok (.ifCond .eq 13, 3) := by decide +kernel
theorem dX12_bestAim_8 : decode cX12_bestAim 8 = .ok (.iload_n 2, 1) := by decide +kernel
theorem dX12_bestAim_9 : decode cX12_bestAim 9 = .ok (.i2l, 1) := by decide +kernel
theorem dX12_bestAim_10 : decode cX12_bestAim 10 = .ok (.lconst 0, 1) := by decide +kernel
theorem dX12_bestAim_11 : decode cX12_bestAim 11 = .ok (.lconst 1, 1) := by decide +kernel
theorem dX12_bestAim_12 : decode cX12_bestAim 12 = .ok (.invokestatic 127, 3) := by decide +kernel
theorem dX12_bestAim_15 : decode cX12_bestAim 15 = .ok (.ifCond .ne 6, 3) := by decide +kernel
theorem dX12_bestAim_18 : decode cX12_bestAim 18 = .ok (.bipush (-2), 2) := by decide +kernel
theorem dX12_bestAim_20 : decode cX12_bestAim 20 = .ok (.ireturn, 1) := by decide +kernel
theorem dX12_bestAim_21 : decode cX12_bestAim 21 = .ok (.iconst (-1), 1) := by decide +kernel
theorem dX12_bestAim_22 : decode cX12_bestAim 22 = .ok (.istore_n 3, 1) := by decide +kernel
theorem dX12_bestAim_23 : decode cX12_bestAim 23 = .ok (.iconst 0, 1) := by decide +kernel
theorem dX12_bestAim_24 : decode cX12_bestAim 24 = .ok (.istore 4, 2) := by decide +kernel
theorem dX12_bestAim_26 : decode cX12_bestAim 26 = .ok (.iconst 0, 1) := by decide +kernel
theorem dX12_bestAim_27 : decode cX12_bestAim 27 = .ok (.istore 5, 2) := by decide +kernel
theorem dX12_bestAim_29 : decode cX12_bestAim 29 = .ok (.iload 5, 2) := by decide +kernel
theorem dX12_bestAim_31 : decode cX12_bestAim 31 = .ok (.aload_n 0, 1) := by decide +kernel
theorem dX12_bestAim_32 : decode cX12_bestAim 32 = .ok (.getfield 39, 3) := by decide +kernel
theorem dX12_bestAim_35 : decode cX12_bestAim 35 = .ok (.iconst 4, 1) := by decide +kernel
theorem dX12_bestAim_36 : decode cX12_bestAim 36 = .ok (.iaload, 1) := by decide +kernel
theorem dX12_bestAim_37 : decode cX12_bestAim 37 = .ok (.if_icmp .ge 36, 3) := by decide +kernel
theorem dX12_bestAim_40 : decode cX12_bestAim 40 = .ok (.aload_n 0, 1) := by decide +kernel
theorem dX12_bestAim_41 : decode cX12_bestAim 41 = .ok (.iload_n 1, 1) := by decide +kernel
theorem dX12_bestAim_42 : decode cX12_bestAim 42 = .ok (.iload 5, 2) := by decide +kernel
theorem dX12_bestAim_44 : decode cX12_bestAim 44 = .ok (.invokevirtual 387, 3) := by decide +kernel
theorem dX12_bestAim_47 : decode cX12_bestAim 47 = .ok (.iload 4, 2) := by decide +kernel
theorem dX12_bestAim_49 : decode cX12_bestAim 49 = .ok (.if_icmp .gt 6, 3) := by decide +kernel
theorem dX12_bestAim_52 : decode cX12_bestAim 52 = .ok (.goto 15, 3) := by decide +kernel
theorem dX12_bestAim_55 : decode cX12_bestAim 55 = .ok (.iload 5, 2) := by decide +kernel
theorem dX12_bestAim_57 : decode cX12_bestAim 57 = .ok (.istore_n 3, 1) := by decide +kernel
theorem dX12_bestAim_58 : decode cX12_bestAim 58 = .ok (.aload_n 0, 1) := by decide +kernel
theorem dX12_bestAim_59 : decode cX12_bestAim 59 = .ok (.iload_n 1, 1) := by decide +kernel
theorem dX12_bestAim_60 : decode cX12_bestAim 60 = .ok (.iload 5, 2) := by decide +kernel
theorem dX12_bestAim_62 : decode cX12_bestAim 62 = .ok (.invokevirtual 387, 3) := by decide +kernel
theorem dX12_bestAim_65 : decode cX12_bestAim 65 = .ok (.istore 4, 2) := by decide +kernel
theorem dX12_bestAim_67 : decode cX12_bestAim 67 = .ok (.iinc 5 1, 3) := by decide +kernel
theorem dX12_bestAim_70 : decode cX12_bestAim 70 = .ok (.goto (-41), 3) := by decide +kernel
theorem dX12_bestAim_73 : decode cX12_bestAim 73 = .ok (.iload_n 2, 1) := by decide +kernel
theorem dX12_bestAim_74 : decode cX12_bestAim 74 = .ok (.ifCond .ne 7, 3) := by decide +kernel
theorem dX12_bestAim_77 : decode cX12_bestAim 77 = .ok (.iload_n 3, 1) := by decide +kernel
theorem dX12_bestAim_78 : decode cX12_bestAim 78 = .ok (.goto 5, 3) := by decide +kernel
theorem dX12_bestAim_81 : decode cX12_bestAim 81 = .ok (.iload 4, 2) := by decide +kernel
theorem dX12_bestAim_83 : decode cX12_bestAim 83 = .ok (.ireturn, 1) := by decide +kernel
theorem dX12_isGreen_0 : decode cX12_isGreen 0 = .ok (.aload_n 0, 1) := by decide +kernel
theorem dX12_isGreen_1 : decode cX12_isGreen 1 = .ok (.getfield 39, 3) := by decide +kernel
theorem dX12_isGreen_4 : decode cX12_isGreen 4 = .ok (.iconst 0, 1) := by decide +kernel
theorem dX12_isGreen_5 : decode cX12_isGreen 5 = .ok (.iaload, 1) := by decide +kernel
theorem dX12_isGreen_6 : decode cX12_isGreen 6 = .ok (.iconst 1, 1) := by decide +kernel
theorem dX12_isGreen_7 : decode cX12_isGreen 7 = .ok (.if_icmp .ne 7, 3) := by decide +kernel
theorem dX12_isGreen_10 : decode cX12_isGreen 10 = .ok (.iconst 1, 1) := by decide +kernel
theorem dX12_isGreen_11 : decode cX12_isGreen 11 = .ok (.goto 4, 3) := by decide +kernel
theorem dX12_isGreen_14 : decode cX12_isGreen 14 = .ok (.iconst 0, 1) := by decide +kernel
theorem dX12_isGreen_15 : decode cX12_isGreen 15 = .ok (.ireturn, 1) := by decide +kernel
theorem dX12_skilled_0 : decode cX12_skilled 0 = .ok (.aload_n 0, 1) := by decide +kernel
theorem dX12_skilled_1 : decode cX12_skilled 1 = .ok (.iload_n 1, 1) := by decide +kernel
theorem dX12_skilled_2 : decode cX12_skilled 2 = .ok (.invokevirtual 314, 3) := by decide +kernel
theorem dX12_skilled_5 : decode cX12_skilled 5 = .ok (.ifCond .eq 19, 3) := by decide +kernel
theorem dX12_skilled_8 : decode cX12_skilled 8 = .ok (.aload_n 0, 1) := by decide +kernel
theorem dX12_skilled_9 : decode cX12_skilled 9 = .ok (.bipush 74, 2) := by decide +kernel
theorem dX12_skilled_11 : decode cX12_skilled 11 = .ok (.iconst 2, 1) := by decide +kernel
theorem dX12_skilled_12 : decode cX12_skilled 12 = .ok (.iload_n 1, 1) := by decide +kernel
theorem dX12_skilled_13 : decode cX12_skilled 13 = .ok (.imul, 1) := by decide +kernel
theorem dX12_skilled_14 : decode cX12_skilled 14 = .ok (.iadd, 1) := by decide +kernel
theorem dX12_skilled_15 : decode cX12_skilled 15 = .ok (.iconst 1, 1) := by decide +kernel
theorem dX12_skilled_16 : decode cX12_skilled 16 = .ok (.bipush 9, 2) := by decide +kernel
theorem dX12_skilled_18 : decode cX12_skilled 18 = .ok (.invokevirtual 438, 3) := by decide +kernel
theorem dX12_skilled_21 : decode cX12_skilled 21 = .ok (.goto 4, 3) := by decide +kernel
theorem dX12_skilled_24 : decode cX12_skilled 24 = .ok (.iconst (-1), 1) := by decide +kernel
theorem dX12_skilled_25 : decode cX12_skilled 25 = .ok (.ireturn, 1) := by decide +kernel
theorem dX12_sumOver_0 : decode cX12_sumOver 0 = .ok (.iconst 0, 1) := by decide +kernel
theorem dX12_sumOver_1 : decode cX12_sumOver 1 = .ok (.istore_n 2, 1) := by decide +kernel
theorem dX12_sumOver_2 : decode cX12_sumOver 2 = .ok (.iconst 0, 1) := by decide +kernel
theorem dX12_sumOver_3 : decode cX12_sumOver 3 = .ok (.istore_n 3, 1) := by decide +kernel
theorem dX12_sumOver_4 : decode cX12_sumOver 4 = .ok (.iload_n 3, 1) := by decide +kernel
theorem dX12_sumOver_5 : decode cX12_sumOver 5 = .ok (.aload_n 0, 1) := by decide +kernel
theorem dX12_sumOver_6 : decode cX12_sumOver 6 = .ok (.getfield 39, 3) := by decide +kernel
theorem dX12_sumOver_9 : decode cX12_sumOver 9 = .ok (.iconst 5, 1) := by decide +kernel
theorem dX12_sumOver_10 : decode cX12_sumOver 10 = .ok (.iaload, 1) := by decide +kernel
theorem dX12_sumOver_11 : decode cX12_sumOver 11 = .ok (.if_icmp .ge 25, 3) := by decide +kernel
theorem dX12_sumOver_14 : decode cX12_sumOver 14 = .ok (.iload_n 2, 1) := by decide +kernel
theorem dX12_sumOver_15 : decode cX12_sumOver 15 = .ok (.aload_n 0, 1) := by decide +kernel
theorem dX12_sumOver_16 : decode cX12_sumOver 16 = .ok (.getfield 39, 3) := by decide +kernel
theorem dX12_sumOver_19 : decode cX12_sumOver 19 = .ok (.bipush 25, 2) := by decide +kernel
theorem dX12_sumOver_21 : decode cX12_sumOver 21 = .ok (.iconst 3, 1) := by decide +kernel
theorem dX12_sumOver_22 : decode cX12_sumOver 22 = .ok (.iload_n 3, 1) := by decide +kernel
theorem dX12_sumOver_23 : decode cX12_sumOver 23 = .ok (.imul, 1) := by decide +kernel
theorem dX12_sumOver_24 : decode cX12_sumOver 24 = .ok (.iadd, 1) := by decide +kernel
theorem dX12_sumOver_25 : decode cX12_sumOver 25 = .ok (.iload_n 1, 1) := by decide +kernel
theorem dX12_sumOver_26 : decode cX12_sumOver 26 = .ok (.iadd, 1) := by decide +kernel
theorem dX12_sumOver_27 : decode cX12_sumOver 27 = .ok (.iaload, 1) := by decide +kernel
theorem dX12_sumOver_28 : decode cX12_sumOver 28 = .ok (.iadd, 1) := by decide +kernel
theorem dX12_sumOver_29 : decode cX12_sumOver 29 = .ok (.istore_n 2, 1) := by decide +kernel
theorem dX12_sumOver_30 : decode cX12_sumOver 30 = .ok (.iinc 3 1, 3) := by decide +kernel
theorem dX12_sumOver_33 : decode cX12_sumOver 33 = .ok (.goto (-29), 3) := by decide +kernel
theorem dX12_sumOver_36 : decode cX12_sumOver 36 = .ok (.iload_n 2, 1) := by decide +kernel
theorem dX12_sumOver_37 : decode cX12_sumOver 37 = .ok (.ireturn, 1) := by decide +kernel
theorem dX1_copyFrom_0 : decode cX1_copyFrom 0 = .ok (.aload_n 1, 1) := by decide +kernel
theorem dX1_copyFrom_1 : decode cX1_copyFrom 1 = .ok (.getfield 11, 3) := by decide +kernel
theorem dX1_copyFrom_4 : decode cX1_copyFrom 4 = .ok (.iconst 0, 1) := by decide +kernel
theorem dX1_copyFrom_5 : decode cX1_copyFrom 5 = .ok (.aload_n 0, 1) := by decide +kernel
theorem dX1_copyFrom_6 : decode cX1_copyFrom 6 = .ok (.getfield 11, 3) := by decide +kernel
theorem dX1_copyFrom_9 : decode cX1_copyFrom 9 = .ok (.iconst 0, 1) := by decide +kernel
theorem dX1_copyFrom_10 : decode cX1_copyFrom 10 = .ok (.bipush 63, 2) := by decide +kernel
theorem dX1_copyFrom_12 : decode cX1_copyFrom 12 = .ok (.invokestatic 15, 3) := by decide +kernel
theorem dX1_copyFrom_15 : decode cX1_copyFrom 15 = .ok (.return_, 1) := by decide +kernel
theorem dX3_readFrom_0 : decode cX3_readFrom 0 = .ok (.aload_n 1, 1) := by decide +kernel
theorem dX3_readFrom_1 : decode cX3_readFrom 1 = .ok (.invokevirtual 18, 3) := by decide +kernel
theorem dX3_readFrom_4 : decode cX3_readFrom 4 = .ok (.aload_n 0, 1) := by decide +kernel
theorem dX3_readFrom_5 : decode cX3_readFrom 5 = .ok (.getfield 12, 3) := by decide +kernel
theorem dX3_readFrom_8 : decode cX3_readFrom 8 = .ok (.invokevirtual 23, 3) := by decide +kernel
