theorem dX11_green_86 : decode cX11_green 86 = .ok (.getfield 111, 3) := by decide +kernel
theorem dX11_green_89 : decode cX11_green 89 = .ok (.getfield 124, 3) := by decide +kernel
theorem dX11_green_92 : decode cX11_green 92 = .ok (.iconst 4, 1) := by decide +kernel
theorem dX11_green_93 : decode cX11_green 93 = .ok (.iaload, 1) := by decide +kernel
theorem dX11_green_94 : decode cX11_green 94 = .ok (.ireturn, 1) := by decide +kernel
theorem dX11_gusts_0 : decode cX11_gusts 0 = .ok (.aload_n 0, 1) := by decide +kernel
theorem dX11_gusts_1 : decode cX11_gusts 1 = .ok (.getfield 43, 3) := by decide +kernel
theorem dX11_gusts_4 : decode cX11_gusts 4 = .ok (.getfield 111, 3) := by decide +kernel
theorem dX11_gusts_7 : decode cX11_gusts 7 = .ok (.invokevirtual 152, 3) := by decide +kernel
theorem dX11_gusts_10 : decode cX11_gusts 10 = .ok (.ifCond .eq 23, 3) := by decide +kernel
theorem dX11_gusts_13 : decode cX11_gusts 13 = .ok (.iload_n 1, 1) := by decide +kernel
theorem dX11_gusts_14 : decode cX11_gusts 14 = .ok (.iconst 1, 1) := by decide +kernel
theorem dX11_gusts_15 : decode cX11_gusts 15 = .ok (.bipush 10, 2) := by decide +kernel
theorem dX11_gusts_17 : decode cX11_gusts 17 = .ok (.invokestatic 90, 3) := by decide +kernel
theorem dX11_gusts_20 : decode cX11_gusts 20 = .ok (.ifCond .eq 13, 3) := by decide +kernel
theorem dX11_gusts_23 : decode cX11_gusts 23 = .ok (.iload_n 2, 1) := by decide +kernel
theorem dX11_gusts_24 : decode cX11_gusts 24 = .ok (.iconst 1, 1) := by decide +kernel
theorem dX11_gusts_25 : decode cX11_gusts 25 = .ok (.bipush 40, 2) := by decide +kernel
theorem dX11_gusts_27 : decode cX11_gusts 27 = .ok (.invokestatic 90, 3) := by decide +kernel
theorem dX11_gusts_30 : decode cX11_gusts 30 = .ok (.ifCond .ne 5, 3) := by decide +kernel
theorem dX11_gusts_33 : decode cX11_gusts 33 = .ok (.iconst (-1), 1) := by decide +kernel
theorem dX11_gusts_34 : decode cX11_gusts 34 = .ok (.ireturn, 1) := by decide +kernel
theorem dX11_gusts_35 : decode cX11_gusts 35 = .ok (.iload_n 3, 1) := by decide +kernel
theorem dX11_gusts_36 : decode cX11_gusts 36 = .ok (.iconst 0, 1) := by decide +kernel
theorem dX11_gusts_37 : decode cX11_gusts 37 = .ok (.bipush 100, 2) := by decide +kernel
theorem dX11_gusts_39 : decode cX11_gusts 39 = .ok (.invokestatic 90, 3) := by decide +kernel
theorem dX11_gusts_42 : decode cX11_gusts 42 = .ok (.ifCond .eq 13, 3) := by decide +kernel
theorem dX11_gusts_45 : decode cX11_gusts 45 = .ok (.iload 4, 2) := by decide +kernel
theorem dX11_gusts_47 : decode cX11_gusts 47 = .ok (.iconst 0, 1) := by decide +kernel
theorem dX11_gusts_48 : decode cX11_gusts 48 = .ok (.iconst 1, 1) := by decide +kernel
theorem dX11_gusts_49 : decode cX11_gusts 49 = .ok (.invokestatic 90, 3) := by decide +kernel
theorem dX11_gusts_52 : decode cX11_gusts 52 = .ok (.ifCond .ne 5, 3) := by decide +kernel
theorem dX11_gusts_55 : decode cX11_gusts 55 = .ok (.iconst (-1), 1) := by decide +kernel
theorem dX11_gusts_56 : decode cX11_gusts 56 = .ok (.ireturn, 1) := by decide +kernel
theorem dX11_gusts_57 : decode cX11_gusts 57 = .ok (.aload_n 0, 1) := by decide +kernel
theorem dX11_gusts_58 : decode cX11_gusts 58 = .ok (.getfield 68, 3) := by decide +kernel
theorem dX11_gusts_61 : decode cX11_gusts 61 = .ok (.aload_n 0, 1) := by decide +kernel
theorem dX11_gusts_62 : decode cX11_gusts 62 = .ok (.getfield 43, 3) := by decide +kernel
theorem dX11_gusts_65 : decode cX11_gusts 65 = .ok (.getfield 149, 3) := by decide +kernel
theorem dX11_gusts_68 : decode cX11_gusts 68 = .ok (.putfield 259, 3) := by decide +kernel
theorem dX11_gusts_71 : decode cX11_gusts 71 = .ok (.iconst 0, 1) := by decide +kernel
theorem dX11_gusts_72 : decode cX11_gusts 72 = .ok (.istore 5, 2) := by decide +kernel
theorem dX11_gusts_74 : decode cX11_gusts 74 = .ok (.iconst 0, 1) := by decide +kernel
theorem dX11_gusts_75 : decode cX11_gusts 75 = .ok (.istore 6, 2) := by decide +kernel
theorem dX11_gusts_77 : decode cX11_gusts 77 = .ok (.iconst 0, 1) := by decide +kernel
theorem dX11_gusts_78 : decode cX11_gusts 78 = .ok (.istore 7, 2) := by decide +kernel
theorem dX11_gusts_80 : decode cX11_gusts 80 = .ok (.iload 7, 2) := by decide +kernel
theorem dX11_gusts_82 : decode cX11_gusts 82 = .ok (.iload_n 1, 1) := by decide +kernel
theorem dX11_gusts_83 : decode cX11_gusts 83 = .ok (.if_icmp .ge 84, 3) := by decide +kernel
theorem dX11_gusts_86 : decode cX11_gusts 86 = .ok (.aload_n 0, 1) := by decide +kernel
theorem dX11_gusts_87 : decode cX11_gusts 87 = .ok (.getfield 61, 3) := by decide +kernel
theorem dX11_gusts_90 : decode cX11_gusts 90 = .ok (.aload_n 0, 1) := by decide +kernel
theorem dX11_gusts_91 : decode cX11_gusts 91 = .ok (.getfield 43, 3) := by decide +kernel
theorem dX11_gusts_94 : decode cX11_gusts 94 = .ok (.getfield 111, 3) := by decide +kernel
theorem dX11_gusts_97 : decode cX11_gusts 97 = .ok (.aload_n 0, 1) := by decide +kernel
theorem dX11_gusts_98 : decode cX11_gusts 98 = .ok (.invokevirtual 159, 3) := by decide +kernel
theorem dX11_gusts_101 : decode cX11_gusts 101 = .ok (.invokevirtual 162, 3) := by decide +kernel
theorem dX11_gusts_104 : decode cX11_gusts 104 = .ok (.aload_n 0, 1) := by decide +kernel
theorem dX11_gusts_105 : decode cX11_gusts 105 = .ok (.getfield 68, 3) := by decide +kernel
theorem dX11_gusts_108 : decode cX11_gusts 108 = .ok (.aload_n 0, 1) := by decide +kernel
theorem dX11_gusts_109 : decode cX11_gusts 109 = .ok (.getfield 61, 3) := by decide +kernel
theorem dX11_gusts_112 : decode cX11_gusts 112 = .ok (.iload_n 2, 1) := by decide +kernel
theorem dX11_gusts_113 : decode cX11_gusts 113 = .ok (.iload_n 3, 1) := by decide +kernel
theorem dX11_gusts_114 : decode cX11_gusts 114 = .ok (.invokevirtual 262, 3) := by decide +kernel
theorem dX11_gusts_117 : decode cX11_gusts 117 = .ok (.iload 5, 2) := by decide +kernel
theorem dX11_gusts_119 : decode cX11_gusts 119 = .ok (.aload_n 0, 1) := by decide +kernel
theorem dX11_gusts_120 : decode cX11_gusts 120 = .ok (.getfield 68, 3) := by decide +kernel
theorem dX11_gusts_123 : decode cX11_gusts 123 = .ok (.aload_n 0, 1) := by decide +kernel
theorem dX11_gusts_124 : decode cX11_gusts 124 = .ok (.getfield 43, 3) := by decide +kernel
theorem dX11_gusts_127 : decode cX11_gusts 127 = .ok (.getfield 111, 3) := by decide +kernel
theorem dX11_gusts_130 : decode cX11_gusts 130 = .ok (.aload_n 0, 1) := by decide +kernel
theorem dX11_gusts_131 : decode cX11_gusts 131 = .ok (.getfield 61, 3) := by decide +kernel
theorem dX11_gusts_134 : decode cX11_gusts 134 = .ok (.getfield 170, 3) := by decide +kernel
theorem dX11_gusts_137 : decode cX11_gusts 137 = .ok (.invokevirtual 266, 3) := by decide +kernel
theorem dX11_gusts_140 : decode cX11_gusts 140 = .ok (.iadd, 1) := by decide +kernel
theorem dX11_gusts_141 : decode cX11_gusts 141 = .ok (.istore 5, 2) := by decide +kernel
theorem dX11_gusts_143 : decode cX11_gusts 143 = .ok (.iload 6, 2) := by decide +kernel
theorem dX11_gusts_145 : decode cX11_gusts 145 = .ok (.aload_n 0, 1) := by decide +kernel
theorem dX11_gusts_146 : decode cX11_gusts 146 = .ok (.getfield 61, 3) := by decide +kernel
theorem dX11_gusts_149 : decode cX11_gusts 149 = .ok (.getfield 170, 3) := by decide +kernel
theorem dX11_gusts_152 : decode cX11_gusts 152 = .ok (.getfield 124, 3) := by decide +kernel
theorem dX11_gusts_155 : decode cX11_gusts 155 = .ok (.bipush 7, 2) := by decide +kernel
theorem dX11_gusts_157 : decode cX11_gusts 157 = .ok (.iaload, 1) := by decide +kernel
theorem dX11_gusts_158 : decode cX11_gusts 158 = .ok (.iadd, 1) := by decide +kernel
theorem dX11_gusts_159 : decode cX11_gusts 159 = .ok (.istore 6, 2) := by decide +kernel
theorem dX11_gusts_161 : decode cX11_gusts 161 = .ok (.iinc 7 1, 3) := by decide +kernel
theorem dX11_gusts_164 : decode cX11_gusts 164 = .ok (.goto (-84), 3) := by decide +kernel
theorem dX11_gusts_167 : decode cX11_gusts 167 = .ok (.iload 4, 2) := by decide +kernel
theorem dX11_gusts_169 : decode cX11_gusts 169 = .ok (.ifCond .ne 8, 3) := by decide +kernel
theorem dX11_gusts_172 : decode cX11_gusts 172 = .ok (.iload 5, 2) := by decide +kernel
theorem dX11_gusts_174 : decode cX11_gusts 174 = .ok (.goto 5, 3) := by decide +kernel
theorem dX11_gusts_177 : decode cX11_gusts 177 = .ok (.iload 6, 2) := by decide +kernel
theorem dX11_gusts_179 : decode cX11_gusts 179 = .ok (.ireturn, 1) := by decide +kernel
theorem dX11_pence_0 : decode cX11_pence 0 = .ok (.iload_n 1, 1) := by decide +kernel
theorem dX11_pence_1 : decode cX11_pence 1 = .ok (.iconst 0, 1) := by decide +kernel
theorem dX11_pence_2 : decode cX11_pence 2 = .ok (.sipush 9999, 3) := by decide +kernel
theorem dX11_pence_5 : decode cX11_pence 5 = .ok (.invokestatic 90, 3) := by decide +kernel
theorem dX11_pence_8 : decode cX11_pence 8 = .ok (.ifCond .eq 17, 3) := by decide +kernel
theorem dX11_pence_11 : decode cX11_pence 11 = .ok (.aload_n 0, 1) := by decide +kernel
theorem dX11_pence_12 : decode cX11_pence 12 = .ok (.getfield 43, 3) := by decide +kernel
theorem dX11_pence_15 : decode cX11_pence 15 = .ok (.getfield 111, 3) := by decide +kernel
theorem dX11_pence_18 : decode cX11_pence 18 = .ok (.iload_n 2, 1) := by decide +kernel
theorem dX11_pence_19 : decode cX11_pence 19 = .ok (.invokevirtual 136, 3) := by decide +kernel
theorem dX11_pence_22 : decode cX11_pence 22 = .ok (.ifCond .ne 5, 3) := by decide +kernel
theorem dX11_pence_25 : decode cX11_pence 25 = .ok (.iconst (-1), 1) := by decide +kernel
theorem dX11_pence_26 : decode cX11_pence 26 = .ok (.ireturn, 1) := by decide +kernel
theorem dX11_pence_27 : decode cX11_pence 27 = .ok (.aload_n 0, 1) := by decide +kernel
theorem dX11_pence_28 : decode cX11_pence 28 = .ok (.getfield 68, 3) := by decide +kernel
theorem dX11_pence_31 : decode cX11_pence 31 = .ok (.aload_n 0, 1) := by decide +kernel
theorem dX11_pence_32 : decode cX11_pence 32 = .ok (.getfield 43, 3) := by decide +kernel
theorem dX11_pence_35 : decode cX11_pence 35 = .ok (.getfield 111, 3) := by decide +kernel
theorem dX11_pence_38 : decode cX11_pence 38 = .ok (.iload_n 1, 1) := by decide +kernel
theorem dX11_pence_39 : decode cX11_pence 39 = .ok (.iload_n 2, 1) := by decide +kernel
theorem dX11_pence_40 : decode cX11_pence 40 = .ok (.invokevirtual 228, 3) := by decide +kernel
theorem dX11_pence_43 : decode cX11_pence 43 = .ok (.ireturn, 1) := by decide +kernel
theorem dX11_rests_0 : decode cX11_rests 0 = .ok (.aload_n 0, 1) := by decide +kernel
theorem dX11_rests_1 : decode cX11_rests 1 = .ok (.getfield 43, 3) := by decide +kernel
theorem dX11_rests_4 : decode cX11_rests 4 = .ok (.getfield 111, 3) := by decide +kernel
theorem dX11_rests_7 : decode cX11_rests 7 = .ok (.iload_n 1, 1) := by decide +kernel
theorem dX11_rests_8 : decode cX11_rests 8 = .ok (.invokevirtual 139, 3) := by decide +kernel
theorem dX11_rests_11 : decode cX11_rests 11 = .ok (.ifCond .eq 22, 3) := by decide +kernel
theorem dX11_rests_14 : decode cX11_rests 14 = .ok (.aload_n 0, 1) := by decide +kernel
theorem dX11_rests_15 : decode cX11_rests 15 = .ok (.getfield 43, 3) := by decide +kernel
theorem dX11_rests_18 : decode cX11_rests 18 = .ok (.getfield 111, 3) := by decide +kernel
theorem dX11_rests_21 : decode cX11_rests 21 = .ok (.iload_n 2, 1) := by decide +kernel
theorem dX11_rests_22 : decode cX11_rests 22 = .ok (.invokevirtual 139, 3) := by decide +kernel
theorem dX11_rests_25 : decode cX11_rests 25 = .ok (.ifCond .eq 8, 3) := by decide +kernel
theorem dX11_rests_28 : decode cX11_rests 28 = .ok (.iload_n 1, 1) := by decide +kernel
theorem dX11_rests_29 : decode cX11_rests 29 = .ok (.iload_n 2, 1) := by decide +kernel
theorem dX11_rests_30 : decode cX11_rests 30 = .ok (.if_icmp .ne 5, 3) := by decide +kernel
theorem dX11_rests_33 : decode cX11_rests 33 = .ok (.iconst (-1), 1) := by decide +kernel
theorem dX11_rests_34 : decode cX11_rests 34 = .ok (.ireturn, 1) := by decide +kernel
theorem dX11_rests_35 : decode cX11_rests 35 = .ok (.iload_n 3, 1) := by decide +kernel
theorem dX11_rests_36 : decode cX11_rests 36 = .ok (.iconst 1, 1) := by decide +kernel
theorem dX11_rests_37 : decode cX11_rests 37 = .ok (.bipush 20, 2) := by decide +kernel
theorem dX11_rests_39 : decode cX11_rests 39 = .ok (.invokestatic 90, 3) := by decide +kernel
theorem dX11_rests_42 : decode cX11_rests 42 = .ok (.ifCond .eq 13, 3) := by decide +kernel
theorem dX11_rests_45 : decode cX11_rests 45 = .ok (.iload 4, 2) := by decide +kernel
theorem dX11_rests_47 : decode cX11_rests 47 = .ok (.iconst 0, 1) := by decide +kernel
theorem dX11_rests_48 : decode cX11_rests 48 = .ok (.iconst 2, 1) := by decide +kernel
theorem dX11_rests_49 : decode cX11_rests 49 = .ok (.invokestatic 90, 3) := by decide +kernel
theorem dX11_rests_52 : decode cX11_rests 52 = .ok (.ifCond .ne 5, 3) := by decide +kernel
theorem dX11_rests_55 : decode cX11_rests 55 = .ok (.iconst (-1), 1) := by decide +kernel
theorem dX11_rests_56 : decode cX11_rests 56 = .ok (.ireturn, 1) := by decide +kernel
theorem dX11_rests_57 : decode cX11_rests 57 = .ok (.aload_n 0, 1) := by decide +kernel
theorem dX11_rests_58 : decode cX11_rests 58 = .ok (.getfield 68, 3) := by decide +kernel
theorem dX11_rests_61 : decode cX11_rests 61 = .ok (.aload_n 0, 1) := by decide +kernel
theorem dX11_rests_62 : decode cX11_rests 62 = .ok (.getfield 61, 3) := by decide +kernel
theorem dX11_rests_65 : decode cX11_rests 65 = .ok (.aload_n 0, 1) := by decide +kernel
theorem dX11_rests_66 : decode cX11_rests 66 = .ok (.getfield 43, 3) := by decide +kernel
theorem dX11_rests_69 : decode cX11_rests 69 = .ok (.getfield 111, 3) := by decide +kernel
theorem dX11_rests_72 : decode cX11_rests 72 = .ok (.aload_n 0, 1) := by decide +kernel
theorem dX11_rests_73 : decode cX11_rests 73 = .ok (.invokevirtual 159, 3) := by decide +kernel
theorem dX11_rests_76 : decode cX11_rests 76 = .ok (.iload_n 1, 1) := by decide +kernel
theorem dX11_rests_77 : decode cX11_rests 77 = .ok (.iload_n 2, 1) := by decide +kernel
theorem dX11_rests_78 : decode cX11_rests 78 = .ok (.iload_n 3, 1) := by decide +kernel
theorem dX11_rests_79 : decode cX11_rests 79 = .ok (.invokevirtual 221, 3) := by decide +kernel
theorem dX11_rests_82 : decode cX11_rests 82 = .ok (.aload_n 0, 1) := by decide +kernel
theorem dX11_rests_83 : decode cX11_rests 83 = .ok (.getfield 68, 3) := by decide +kernel
theorem dX11_rests_86 : decode cX11_rests 86 = .ok (.aload_n 0, 1) := by decide +kernel
theorem dX11_rests_87 : decode cX11_rests 87 = .ok (.getfield 43, 3) := by decide +kernel
theorem dX11_rests_90 : decode cX11_rests 90 = .ok (.getfield 111, 3) := by decide +kernel
theorem dX11_rests_93 : decode cX11_rests 93 = .ok (.getfield 124, 3) := by decide +kernel
theorem dX11_rests_96 : decode cX11_rests 96 = .ok (.iconst 3, 1) := by decide +kernel
theorem dX11_rests_97 : decode cX11_rests 97 = .ok (.iaload, 1) := by decide +kernel
theorem dX11_rests_98 : decode cX11_rests 98 = .ok (.iload 4, 2) := by decide +kernel
theorem dX11_rests_100 : decode cX11_rests 100 = .ok (.invokevirtual 225, 3) := by decide +kernel
theorem dX11_rests_103 : decode cX11_rests 103 = .ok (.ireturn, 1) := by decide +kernel
theorem dX11_round_0 : decode cX11_round 0 = .ok (.aload_n 0, 1) := by decide +kernel
theorem dX11_round_1 : decode cX11_round 1 = .ok (.getfield 43, 3) := by decide +kernel
theorem dX11_round_4 : decode cX11_round 4 = .ok (.getfield 111, 3) := by decide +kernel
theorem dX11_round_7 : decode cX11_round 7 = .ok (.invokevirtual 152, 3) := by decide +kernel
theorem dX11_round_10 : decode cX11_round 10 = .ok (.ifCond .eq 21, 3) := by decide +kernel
theorem dX11_round_13 : decode cX11_round 13 = .ok (.aload_n 0, 1) := by decide +kernel
theorem dX11_round_14 : decode cX11_round 14 = .ok (.getfield 43, 3) := by decide +kernel
theorem dX11_round_17 : decode cX11_round 17 = .ok (.getfield 111, 3) := by decide +kernel
theorem dX11_round_20 : decode cX11_round 20 = .ok (.getfield 124, 3) := by decide +kernel
theorem dX11_round_23 : decode cX11_round 23 = .ok (.iconst 5, 1) := by decide +kernel
theorem dX11_round_24 : decode cX11_round 24 = .ok (.iaload, 1) := by decide +kernel
theorem dX11_round_25 : decode cX11_round 25 = .ok (.sipush 999, 3) := by decide +kernel
theorem dX11_round_28 : decode cX11_round 28 = .ok (.if_icmp .lt 5, 3) := by decide +kernel
theorem dX11_round_31 : decode cX11_round 31 = .ok (.iconst (-1), 1) := by decide +kernel
theorem dX11_round_32 : decode cX11_round 32 = .ok (.ireturn, 1) := by decide +kernel
theorem dX11_round_33 : decode cX11_round 33 = .ok (.aload_n 0, 1) := by decide +kernel
theorem dX11_round_34 : decode cX11_round 34 = .ok (.getfield 54, 3) := by decide +kernel
theorem dX11_round_37 : decode cX11_round 37 = .ok (.aload_n 0, 1) := by decide +kernel
theorem dX11_round_38 : decode cX11_round 38 = .ok (.getfield 43, 3) := by decide +kernel
theorem dX11_round_41 : decode cX11_round 41 = .ok (.getfield 111, 3) := by decide +kernel
theorem dX11_round_44 : decode cX11_round 44 = .ok (.invokevirtual 156, 3) := by decide +kernel
theorem dX11_round_47 : decode cX11_round 47 = .ok (.aload_n 0, 1) := by decide +kernel
theorem dX11_round_48 : decode cX11_round 48 = .ok (.getfield 61, 3) := by decide +kernel
theorem dX11_round_51 : decode cX11_round 51 = .ok (.aload_n 0, 1) := by decide +kernel
theorem dX11_round_52 : decode cX11_round 52 = .ok (.getfield 43, 3) := by decide +kernel
theorem dX11_round_55 : decode cX11_round 55 = .ok (.getfield 111, 3) := by decide +kernel
theorem dX11_round_58 : decode cX11_round 58 = .ok (.aload_n 0, 1) := by decide +kernel
theorem dX11_round_59 : decode cX11_round 59 = .ok (.invokevirtual 159, 3) := by decide +kernel
theorem dX11_round_62 : decode cX11_round 62 = .ok (.invokevirtual 162, 3) := by decide +kernel
theorem dX11_round_65 : decode cX11_round 65 = .ok (.aload_n 0, 1) := by decide +kernel
theorem dX11_round_66 : decode cX11_round 66 = .ok (.getfield 61, 3) := by decide +kernel
theorem dX11_round_69 : decode cX11_round 69 = .ok (.invokevirtual 166, 3) := by decide +kernel
theorem dX11_round_72 : decode cX11_round 72 = .ok (.istore_n 1, 1) := by decide +kernel
theorem dX11_round_73 : decode cX11_round 73 = .ok (.aload_n 0, 1) := by decide +kernel
theorem dX11_round_74 : decode cX11_round 74 = .ok (.getfield 43, 3) := by decide +kernel
theorem dX11_round_77 : decode cX11_round 77 = .ok (.getfield 111, 3) := by decide +kernel
theorem dX11_round_80 : decode cX11_round 80 = .ok (.aload_n 0, 1) := by decide +kernel
theorem dX11_round_81 : decode cX11_round 81 = .ok (.getfield 61, 3) := by decide +kernel
theorem dX11_round_84 : decode cX11_round 84 = .ok (.getfield 170, 3) := by decide +kernel
theorem dX11_round_87 : decode cX11_round 87 = .ok (.invokevirtual 105, 3) := by decide +kernel
theorem dX11_round_90 : decode cX11_round 90 = .ok (.iload_n 1, 1) := by decide +kernel
theorem dX11_round_91 : decode cX11_round 91 = .ok (.ireturn, 1) := by decide +kernel
theorem dX11_ruled_0 : decode cX11_ruled 0 = .ok (.aload_n 0, 1) := by decide +kernel
theorem dX11_ruled_1 : decode cX11_ruled 1 = .ok (.getfield 43, 3) := by decide +kernel
theorem dX11_ruled_4 : decode cX11_ruled 4 = .ok (.getfield 111, 3) := by decide +kernel
theorem dX11_ruled_7 : decode cX11_ruled 7 = .ok (.invokevirtual 152, 3) := by decide +kernel
theorem dX11_ruled_10 : decode cX11_ruled 10 = .ok (.ifCond .eq 12, 3) := by decide +kernel
theorem dX11_ruled_13 : decode cX11_ruled 13 = .ok (.iload_n 1, 1) := by decide +kernel
theorem dX11_ruled_14 : decode cX11_ruled 14 = .ok (.iconst 0, 1) := by decide +kernel
theorem dX11_ruled_15 : decode cX11_ruled 15 = .ok (.iconst 1, 1) := by decide +kernel
theorem dX11_ruled_16 : decode cX11_ruled 16 = .ok (.invokestatic 90, 3) := by decide +kernel
theorem dX11_ruled_19 : decode cX11_ruled 19 = .ok (.ifCond .ne 6, 3) := by decide +kernel
theorem dX11_ruled_22 : decode cX11_ruled 22 = .ok (.bipush (-3), 2) := by decide +kernel
theorem dX11_ruled_24 : decode cX11_ruled 24 = .ok (.ireturn, 1) := by decide +kernel
theorem dX11_ruled_25 : decode cX11_ruled 25 = .ok (.aload_n 0, 1) := by decide +kernel
theorem dX11_ruled_26 : decode cX11_ruled 26 = .ok (.getfield 75, 3) := by decide +kernel
theorem dX11_ruled_29 : decode cX11_ruled 29 = .ok (.aload_n 0, 1) := by decide +kernel
theorem dX11_ruled_30 : decode cX11_ruled 30 = .ok (.getfield 61, 3) := by decide +kernel
theorem dX11_ruled_33 : decode cX11_ruled 33 = .ok (.aload_n 0, 1) := by decide +kernel
theorem dX11_ruled_34 : decode cX11_ruled 34 = .ok (.getfield 43, 3) := by decide +kernel
theorem dX11_ruled_37 : decode cX11_ruled 37 = .ok (.aload_n 0, 1) := by decide +kernel
theorem dX11_ruled_38 : decode cX11_ruled 38 = .ok (.getfield 32, 3) := by decide +kernel
theorem dX11_ruled_41 : decode cX11_ruled 41 = .ok (.aload_n 0, 1) := by decide +kernel
theorem dX11_ruled_42 : decode cX11_ruled 42 = .ok (.getfield 36, 3) := by decide +kernel
theorem dX11_ruled_45 : decode cX11_ruled 45 = .ok (.iconst (-1), 1) := by decide +kernel
theorem dX11_ruled_46 : decode cX11_ruled 46 = .ok (.invokevirtual 243, 3) := by decide +kernel
theorem dX11_ruled_49 : decode cX11_ruled 49 = .ok (.iload_n 1, 1) := by decide +kernel
theorem dX11_ruled_50 : decode cX11_ruled 50 = .ok (.ifCond .ne 11, 3) := by decide +kernel
theorem dX11_ruled_53 : decode cX11_ruled 53 = .ok (.aload_n 0, 1) := by decide +kernel
theorem dX11_ruled_54 : decode cX11_ruled 54 = .ok (.getfield 75, 3) := by decide +kernel
theorem dX11_ruled_57 : decode cX11_ruled 57 = .ok (.getfield 247, 3) := by decide +kernel
theorem dX11_ruled_60 : decode cX11_ruled 60 = .ok (.ireturn, 1) := by decide +kernel
theorem dX11_ruled_61 : decode cX11_ruled 61 = .ok (.aload_n 0, 1) := by decide +kernel
theorem dX11_ruled_62 : decode cX11_ruled 62 = .ok (.getfield 75, 3) := by decide +kernel
theorem dX11_ruled_65 : decode cX11_ruled 65 = .ok (.getfield 247, 3) := by decide +kernel
theorem dX11_ruled_68 : decode cX11_ruled 68 = .ok (.ifCond .ne 8, 3) := by decide +kernel
theorem dX11_ruled_71 : decode cX11_ruled 71 = .ok (.bipush (-2), 2) := by decide +kernel
theorem dX11_ruled_73 : decode cX11_ruled 73 = .ok (.goto 10, 3) := by decide +kernel
theorem dX11_ruled_76 : decode cX11_ruled 76 = .ok (.aload_n 0, 1) := by decide +kernel
theorem dX11_ruled_77 : decode cX11_ruled 77 = .ok (.getfield 75, 3) := by decide +kernel
theorem dX11_ruled_80 : decode cX11_ruled 80 = .ok (.getfield 250, 3) := by decide +kernel
theorem dX11_ruled_83 : decode cX11_ruled 83 = .ok (.ireturn, 1) := by decide +kernel
theorem dX11_shoot_0 : decode cX11_shoot 0 = .ok (.aload_n 0, 1) := by decide +kernel
theorem dX11_shoot_1 : decode cX11_shoot 1 = .ok (.getfield 43, 3) := by decide +kernel
theorem dX11_shoot_4 : decode cX11_shoot 4 = .ok (.getfield 111, 3) := by decide +kernel
theorem dX11_shoot_7 : decode cX11_shoot 7 = .ok (.astore_n 3, 1) := by decide +kernel
theorem dX11_shoot_8 : decode cX11_shoot 8 = .ok (.aload_n 3, 1) := by decide +kernel
theorem dX11_shoot_9 : decode cX11_shoot 9 = .ok (.iload_n 1, 1) := by decide +kernel
theorem dX11_shoot_10 : decode cX11_shoot 10 = .ok (.invokevirtual 139, 3) := by decide +kernel
theorem dX11_shoot_13 : decode cX11_shoot 13 = .ok (.ifCond .eq 24, 3) := by decide +kernel
theorem dX11_shoot_16 : decode cX11_shoot 16 = .ok (.aload_n 3, 1) := by decide +kernel
theorem dX11_shoot_17 : decode cX11_shoot 17 = .ok (.iload_n 2, 1) := by decide +kernel
theorem dX11_shoot_18 : decode cX11_shoot 18 = .ok (.invokevirtual 136, 3) := by decide +kernel
theorem dX11_shoot_21 : decode cX11_shoot 21 = .ok (.ifCond .eq 16, 3) := by decide +kernel
theorem dX11_shoot_24 : decode cX11_shoot 24 = .ok (.aload_n 3, 1) := by decide +kernel
theorem dX11_shoot_25 : decode cX11_shoot 25 = .ok (.getfield 124, 3) := by decide +kernel
theorem dX11_shoot_28 : decode cX11_shoot 28 = .ok (.bipush 58, 2) := by decide +kernel
theorem dX11_shoot_30 : decode cX11_shoot 30 = .ok (.iload_n 1, 1) := by decide +kernel
theorem dX11_shoot_31 : decode cX11_shoot 31 = .ok (.iadd, 1) := by decide +kernel
theorem dX11_shoot_32 : decode cX11_shoot 32 = .ok (.iaload, 1) := by decide +kernel
theorem dX11_shoot_33 : decode cX11_shoot 33 = .ok (.iconst 1, 1) := by decide +kernel
theorem dX11_shoot_34 : decode cX11_shoot 34 = .ok (.if_icmp .ge 5, 3) := by decide +kernel
theorem dX11_shoot_37 : decode cX11_shoot 37 = .ok (.iconst (-1), 1) := by decide +kernel
theorem dX11_shoot_38 : decode cX11_shoot 38 = .ok (.ireturn, 1) := by decide +kernel
theorem dX11_shoot_39 : decode cX11_shoot 39 = .ok (.aload_n 0, 1) := by decide +kernel
theorem dX11_shoot_40 : decode cX11_shoot 40 = .ok (.getfield 54, 3) := by decide +kernel
theorem dX11_shoot_43 : decode cX11_shoot 43 = .ok (.aload_n 3, 1) := by decide +kernel
theorem dX11_shoot_44 : decode cX11_shoot 44 = .ok (.invokevirtual 156, 3) := by decide +kernel
theorem dX11_shoot_47 : decode cX11_shoot 47 = .ok (.aload_n 3, 1) := by decide +kernel
theorem dX11_shoot_48 : decode cX11_shoot 48 = .ok (.iload_n 1, 1) := by decide +kernel
theorem dX11_shoot_49 : decode cX11_shoot 49 = .ok (.iload_n 2, 1) := by decide +kernel
theorem dX11_shoot_50 : decode cX11_shoot 50 = .ok (.aload_n 3, 1) := by decide +kernel
theorem dX11_shoot_51 : decode cX11_shoot 51 = .ok (.aload_n 3, 1) := by decide +kernel
theorem dX11_shoot_52 : decode cX11_shoot 52 = .ok (.getfield 124, 3) := by decide +kernel
theorem dX11_shoot_55 : decode cX11_shoot 55 = .ok (.bipush 6, 2) := by decide +kernel
theorem dX11_shoot_57 : decode cX11_shoot 57 = .ok (.iaload, 1) := by decide +kernel
theorem dX11_shoot_58 : decode cX11_shoot 58 = .ok (.invokevirtual 142, 3) := by decide +kernel
theorem dX11_shoot_61 : decode cX11_shoot 61 = .ok (.invokevirtual 171, 3) := by decide +kernel
theorem dX11_shoot_64 : decode cX11_shoot 64 = .ok (.invokestatic 175, 3) := by decide +kernel
theorem dX11_shoot_67 : decode cX11_shoot 67 = .ok (.ireturn, 1) := by decide +kernel
theorem dX11_teach_0 : decode cX11_teach 0 = .ok (.aload_n 0, 1) := by decide +kernel
theorem dX11_teach_1 : decode cX11_teach 1 = .ok (.getfield 43, 3) := by decide +kernel
theorem dX11_teach_4 : decode cX11_teach 4 = .ok (.getfield 111, 3) := by decide +kernel
theorem dX11_teach_7 : decode cX11_teach 7 = .ok (.astore_n 3, 1) := by decide +kernel
theorem dX11_teach_8 : decode cX11_teach 8 = .ok (.aload_n 3, 1) := by decide +kernel
theorem dX11_teach_9 : decode cX11_teach 9 = .ok (.iload_n 1, 1) := by decide +kernel
theorem dX11_teach_10 : decode cX11_teach 10 = .ok (.invokevirtual 139, 3) := by decide +kernel
theorem dX11_teach_13 : decode cX11_teach 13 = .ok (.ifCond .eq 13, 3) := by decide +kernel
theorem dX11_teach_16 : decode cX11_teach 16 = .ok (.iload_n 2, 1) := by decide +kernel
theorem dX11_teach_17 : decode cX11_teach 17 = .ok (.iconst 1, 1) := by decide +kernel
theorem dX11_teach_18 : decode cX11_teach 18 = .ok (.bipush 9, 2) := by decide +kernel
theorem dX11_teach_20 : decode cX11_teach 20 = .ok (.invokestatic 90, 3) := by decide +kernel
theorem dX11_teach_23 : decode cX11_teach 23 = .ok (.ifCond .ne 5, 3) := by decide +kernel
theorem dX11_teach_26 : decode cX11_teach 26 = .ok (.iconst (-1), 1) := by decide +kernel
theorem dX11_teach_27 : decode cX11_teach 27 = .ok (.ireturn, 1) := by decide +kernel
theorem dX11_teach_28 : decode cX11_teach 28 = .ok (.aload_n 3, 1) := by decide +kernel
theorem dX11_teach_29 : decode cX11_teach 29 = .ok (.getfield 124, 3) := by decide +kernel
theorem dX11_teach_32 : decode cX11_teach 32 = .ok (.bipush 43, 2) := by decide +kernel
theorem dX11_teach_34 : decode cX11_teach 34 = .ok (.iload_n 1, 1) := by decide +kernel
theorem dX11_teach_35 : decode cX11_teach 35 = .ok (.iadd, 1) := by decide +kernel
theorem dX11_teach_36 : decode cX11_teach 36 = .ok (.iaload, 1) := by decide +kernel
theorem dX11_teach_37 : decode cX11_teach 37 = .ok (.istore 4, 2) := by decide +kernel
theorem dX11_teach_39 : decode cX11_teach 39 = .ok (.iload 4, 2) := by decide +kernel
theorem dX11_teach_41 : decode cX11_teach 41 = .ok (.iload_n 2, 1) := by decide +kernel
theorem dX11_teach_42 : decode cX11_teach 42 = .ok (.if_icmp .ne 5, 3) := by decide +kernel
theorem dX11_teach_45 : decode cX11_teach 45 = .ok (.iconst (-1), 1) := by decide +kernel
theorem dX11_teach_46 : decode cX11_teach 46 = .ok (.ireturn, 1) := by decide +kernel
theorem dX11_teach_47 : decode cX11_teach 47 = .ok (.aload_n 0, 1) := by decide +kernel
theorem dX11_teach_48 : decode cX11_teach 48 = .ok (.getfield 54, 3) := by decide +kernel
theorem dX11_teach_51 : decode cX11_teach 51 = .ok (.aload_n 3, 1) := by decide +kernel
theorem dX11_teach_52 : decode cX11_teach 52 = .ok (.invokevirtual 156, 3) := by decide +kernel
theorem dX11_teach_55 : decode cX11_teach 55 = .ok (.aload_n 3, 1) := by decide +kernel
theorem dX11_teach_56 : decode cX11_teach 56 = .ok (.getfield 124, 3) := by decide +kernel
theorem dX11_teach_59 : decode cX11_teach 59 = .ok (.bipush 43, 2) := by decide +kernel
theorem dX11_teach_61 : decode cX11_teach 61 = .ok (.iload_n 1, 1) := by decide +kernel
theorem dX11_teach_62 : decode cX11_teach 62 = .ok (.iadd, 1) := by decide +kernel
theorem dX11_teach_63 : decode cX11_teach 63 = .ok (.iload_n 2, 1) := by decide +kernel
theorem dX11_teach_64 : decode cX11_teach 64 = .ok (.iastore, 1) := by decide +kernel
theorem dX11_teach_65 : decode cX11_teach 65 = .ok (.iload 4, 2) := by decide +kernel
theorem dX11_teach_67 : decode cX11_teach 67 = .ok (.ireturn, 1) := by decide +kernel
theorem dX1_isTold_0 : decode cX1_isTold 0 = .ok (.aload_n 0, 1) := by decide +kernel
theorem dX1_isTold_1 : decode cX1_isTold 1 = .ok (.getfield 11, 3) := by decide +kernel
theorem dX1_isTold_4 : decode cX1_isTold 4 = .ok (.iconst 0, 1) := by decide +kernel
theorem dX1_isTold_5 : decode cX1_isTold 5 = .ok (.iaload, 1) := by decide +kernel
theorem dX1_isTold_6 : decode cX1_isTold 6 = .ok (.ifCond .le 7, 3) := by decide +kernel
theorem dX1_isTold_9 : decode cX1_isTold 9 = .ok (.iconst 1, 1) := by decide +kernel
theorem dX1_isTold_10 : decode cX1_isTold 10 = .ok (.goto 4, 3) := by decide +kernel
theorem dX1_isTold_13 : decode cX1_isTold 13 = .ok (.iconst 0, 1) := by decide +kernel
theorem dX1_isTold_14 : decode cX1_isTold 14 = .ok (.ireturn, 1) := by decide +kernel
theorem dX10_failAt_0 : decode cX10_failAt 0 = .ok (.aload_n 0, 1) := by decide +kernel
theorem dX10_failAt_1 : decode cX10_failAt 1 = .ok (.getfield 43, 3) := by decide +kernel
theorem dX10_failAt_4 : decode cX10_failAt 4 = .ok (.ifCond .ne 15, 3) := by decide +kernel
theorem dX10_failAt_7 : decode cX10_failAt 7 = .ok (.aload_n 0, 1) := by decide +kernel
theorem dX10_failAt_8 : decode cX10_failAt 8 = .ok (.iconst 1, 1) := by decide +kernel
theorem dX10_failAt_9 : decode cX10_failAt 9 = .ok (.bipush 8, 2) := by decide +kernel
theorem dX10_failAt_11 : decode cX10_failAt 11 = .ok (.iload_n 1, 1) := by decide +kernel
theorem dX10_failAt_12 : decode cX10_failAt 12 = .ok (.imul, 1) := by decide +kernel
theorem dX10_failAt_13 : decode cX10_failAt 13 = .ok (.iadd, 1) := by decide +kernel
theorem dX10_failAt_14 : decode cX10_failAt 14 = .ok (.iload_n 2, 1) := by decide +kernel
theorem dX10_failAt_15 : decode cX10_failAt 15 = .ok (.iadd, 1) := by decide +kernel
theorem dX10_failAt_16 : decode cX10_failAt 16 = .ok (.putfield 43, 3) := by decide +kernel
theorem dX10_failAt_19 : decode cX10_failAt 19 = .ok (.return_, 1) := by decide +kernel
theorem dX10_isSign_0 : decode cX10_isSign 0 = .ok (.aload_n 0, 1) := by decide +kernel
theorem dX10_isSign_1 : decode cX10_isSign 1 = .ok (.getfield 34, 3) := by decide +kernel
theorem dX10_isSign_4 : decode cX10_isSign 4 = .ok (.iconst 4, 1) := by decide +kernel
theorem dX10_isSign_5 : decode cX10_isSign 5 = .ok (.if_icmp .ne 15, 3) := by decide +kernel
theorem dX10_isSign_8 : decode cX10_isSign 8 = .ok (.aload_n 0, 1) := by decide +kernel
theorem dX10_isSign_9 : decode cX10_isSign 9 = .ok (.getfield 37, 3) := by decide +kernel
theorem dX10_isSign_12 : decode cX10_isSign 12 = .ok (.iload_n 1, 1) := by decide +kernel
theorem dX10_isSign_13 : decode cX10_isSign 13 = .ok (.if_icmp .ne 7, 3) := by decide +kernel
theorem dX10_isSign_16 : decode cX10_isSign 16 = .ok (.iconst 1, 1) := by decide +kernel
theorem dX10_isSign_17 : decode cX10_isSign 17 = .ok (.goto 4, 3) := by decide +kernel
theorem dX10_isSign_20 : decode cX10_isSign 20 = .ok (.iconst 0, 1) := by decide +kernel
theorem dX10_isSign_21 : decode cX10_isSign 21 = .ok (.ireturn, 1) := by decide +kernel
theorem dX10_isWord_0 : decode cX10_isWord 0 = .ok (.aload_n 0, 1) := by decide +kernel
theorem dX10_isWord_1 : decode cX10_isWord 1 = .ok (.getfield 34, 3) := by decide +kernel
theorem dX10_isWord_4 : decode cX10_isWord 4 = .ok (.iconst 3, 1) := by decide +kernel
theorem dX10_isWord_5 : decode cX10_isWord 5 = .ok (.if_icmp .ne 15, 3) := by decide +kernel
theorem dX10_isWord_8 : decode cX10_isWord 8 = .ok (.aload_n 0, 1) := by decide +kernel
theorem dX10_isWord_9 : decode cX10_isWord 9 = .ok (.getfield 37, 3) := by decide +kernel
theorem dX10_isWord_12 : decode cX10_isWord 12 = .ok (.iload_n 1, 1) := by decide +kernel
theorem dX10_isWord_13 : decode cX10_isWord 13 = .ok (.if_icmp .ne 7, 3) := by decide +kernel
theorem dX10_isWord_16 : decode cX10_isWord 16 = .ok (.iconst 1, 1) := by decide +kernel
theorem dX10_isWord_17 : decode cX10_isWord 17 = .ok (.goto 4, 3) := by decide +kernel
theorem dX10_isWord_20 : decode cX10_isWord 20 = .ok (.iconst 0, 1) := by decide +kernel
theorem dX10_isWord_21 : decode cX10_isWord 21 = .ok (.ireturn, 1) := by decide +kernel
theorem dX11_archer_0 : decode cX11_archer 0 = .ok (.aload_n 0, 1) := by decide +kernel
theorem dX11_archer_1 : decode cX11_archer 1 = .ok (.getfield 43, 3) := by decide +kernel
theorem dX11_archer_4 : decode cX11_archer 4 = .ok (.getfield 111, 3) := by decide +kernel
theorem dX11_archer_7 : decode cX11_archer 7 = .ok (.iload_n 1, 1) := by decide +kernel
theorem dX11_archer_8 : decode cX11_archer 8 = .ok (.invokevirtual 139, 3) := by decide +kernel
theorem dX11_archer_11 : decode cX11_archer 11 = .ok (.ifCond .ne 5, 3) := by decide +kernel
theorem dX11_archer_14 : decode cX11_archer 14 = .ok (.iconst (-1), 1) := by decide +kernel
theorem dX11_archer_15 : decode cX11_archer 15 = .ok (.ireturn, 1) := by decide +kernel
theorem dX11_archer_16 : decode cX11_archer 16 = .ok (.iload_n 2, 1) := by decide +kernel
theorem dX11_archer_17 : decode cX11_archer 17 = .ok (.tableswitch 115 0 4 #[35, 51, 67, 83, 99], 35) := by decide +kernel
theorem dX11_archer_52 : decode cX11_archer 52 = .ok (.aload_n 0, 1) := by decide +kernel
theorem dX11_archer_53 : decode cX11_archer 53 = .ok (.getfield 43, 3) := by decide +kernel
theorem dX11_archer_56 : decode cX11_archer 56 = .ok (.getfield 111, 3) := by decide +kernel
theorem dX11_archer_59 : decode cX11_archer 59 = .ok (.getfield 124, 3) := by decide +kernel
theorem dX11_archer_62 : decode cX11_archer 62 = .ok (.bipush 38, 2) := by decide +kernel
theorem dX11_archer_64 : decode cX11_archer 64 = .ok (.iload_n 1, 1) := by decide +kernel
theorem dX11_archer_65 : decode cX11_archer 65 = .ok (.iadd, 1) := by decide +kernel
theorem dX11_archer_66 : decode cX11_archer 66 = .ok (.iaload, 1) := by decide +kernel
theorem dX11_archer_67 : decode cX11_archer 67 = .ok (.ireturn, 1) := by decide +kernel
theorem dX11_archer_68 : decode cX11_archer 68 = .ok (.aload_n 0, 1) := by decide +kernel
theorem dX11_archer_69 : decode cX11_archer 69 = .ok (.getfield 43, 3) := by decide +kernel
theorem dX11_archer_72 : decode cX11_archer 72 = .ok (.getfield 111, 3) := by decide +kernel
theorem dX11_archer_75 : decode cX11_archer 75 = .ok (.getfield 124, 3) := by decide +kernel
theorem dX11_archer_78 : decode cX11_archer 78 = .ok (.bipush 43, 2) := by decide +kernel
theorem dX11_archer_80 : decode cX11_archer 80 = .ok (.iload_n 1, 1) := by decide +kernel
theorem dX11_archer_81 : decode cX11_archer 81 = .ok (.iadd, 1) := by decide +kernel
theorem dX11_archer_82 : decode cX11_archer 82 = .ok (.iaload, 1) := by decide +kernel
theorem dX11_archer_83 : decode cX11_archer 83 = .ok (.ireturn, 1) := by decide +kernel
theorem dX11_archer_84 : decode cX11_archer 84 = .ok (.aload_n 0, 1) := by decide +kernel
theorem dX11_archer_85 : decode cX11_archer 85 = .ok (.getfield 43, 3) := by decide +kernel
theorem dX11_archer_88 : decode cX11_archer 88 = .ok (.getfield 111, 3) := by decide +kernel
theorem dX11_archer_91 : decode cX11_archer 91 = .ok (.getfield 124, 3) := by decide +kernel
theorem dX11_archer_94 : decode cX11_archer 94 = .ok (.bipush 48, 2) := by decide +kernel
theorem dX11_archer_96 : decode cX11_archer 96 = .ok (.iload_n 1, 1) := by decide +kernel
theorem dX11_archer_97 : decode cX11_archer 97 = .ok (.iadd, 1) := by decide +kernel
theorem dX11_archer_98 : decode cX11_archer 98 = .ok (.iaload, 1) := by decide +kernel
theorem dX11_archer_99 : decode cX11_archer 99 = .ok (.ireturn, 1) := by decide +kernel
theorem dX11_archer_100 : decode cX11_archer 100 = .ok (.aload_n 0, 1) := by decide +kernel
theorem dX11_archer_101 : decode cX11_archer 101 = .ok (.getfield 43, 3) := by decide +kernel
theorem dX11_archer_104 : decode cX11_archer 104 = .ok (.getfield 111, 3) := by decide +kernel
theorem dX11_archer_107 : decode cX11_archer 107 = .ok (.getfield 124, 3) := by decide +kernel
theorem dX11_archer_110 : decode cX11_archer 110 = .ok (.bipush 53, 2) := by decide +kernel
theorem dX11_archer_112 : decode cX11_archer 112 = .ok (.iload_n 1, 1) := by decide +kernel
theorem dX11_archer_113 : decode cX11_archer 113 = .ok (.iadd, 1) := by decide +kernel
theorem dX11_archer_114 : decode cX11_archer 114 = .ok (.iaload, 1) := by decide +kernel
theorem dX11_archer_115 : decode cX11_archer 115 = .ok (.ireturn, 1) := by decide +kernel
theorem dX11_archer_116 : decode cX11_archer 116 = .ok (.aload_n 0, 1) := by decide +kernel
theorem dX11_archer_117 : decode cX11_archer 117 = .ok (.getfield 43, 3) := by decide +kernel
theorem dX11_archer_120 : decode cX11_archer 120 = .ok (.getfield 111, 3) := by decide +kernel
theorem dX11_archer_123 : decode cX11_archer 123 = .ok (.getfield 124, 3) := by decide +kernel
theorem dX11_archer_126 : decode cX11_archer 126 = .ok (.bipush 58, 2) := by decide +kernel
theorem dX11_archer_128 : decode cX11_archer 128 = .ok (.iload_n 1, 1) := by decide +kernel
theorem dX11_archer_129 : decode cX11_archer 129 = .ok (.iadd, 1) := by decide +kernel
theorem dX11_archer_130 : decode cX11_archer 130 = .ok (.iaload, 1) := by decide +kernel
theorem dX11_archer_131 : decode cX11_archer 131 = .ok (.ireturn, 1) := by decide +kernel
theorem dX11_archer_132 : decode cX11_archer 132 = .ok (.iconst (-1), 1) := by decide +kernel
theorem dX11_archer_133 : decode cX11_archer 133 = .ok (.ireturn, 1) := by decide +kernel
theorem dX11_breath_0 : decode cX11_breath 0 = .ok (.aload_n 0, 1) := by decide +kernel
theorem dX11_breath_1 : decode cX11_breath 1 = .ok (.getfield 43, 3) := by decide +kernel
theorem dX11_breath_4 : decode cX11_breath 4 = .ok (.getfield 111, 3) := by decide +kernel
theorem dX11_breath_7 : decode cX11_breath 7 = .ok (.astore_n 2, 1) := by decide +kernel
theorem dX11_breath_8 : decode cX11_breath 8 = .ok (.aload_n 2, 1) := by decide +kernel
theorem dX11_breath_9 : decode cX11_breath 9 = .ok (.invokevirtual 152, 3) := by decide +kernel
theorem dX11_breath_12 : decode cX11_breath 12 = .ok (.ifCond .eq 13, 3) := by decide +kernel
theorem dX11_breath_15 : decode cX11_breath 15 = .ok (.iload_n 1, 1) := by decide +kernel
theorem dX11_breath_16 : decode cX11_breath 16 = .ok (.iconst 1, 1) := by decide +kernel
theorem dX11_breath_17 : decode cX11_breath 17 = .ok (.bipush 20, 2) := by decide +kernel
theorem dX11_breath_19 : decode cX11_breath 19 = .ok (.invokestatic 90, 3) := by decide +kernel
theorem dX11_breath_22 : decode cX11_breath 22 = .ok (.ifCond .ne 5, 3) := by decide +kernel
theorem dX11_breath_25 : decode cX11_breath 25 = .ok (.iconst (-1), 1) := by decide +kernel
theorem dX11_breath_26 : decode cX11_breath 26 = .ok (.ireturn, 1) := by decide +kernel
theorem dX11_breath_27 : decode cX11_breath 27 = .ok (.aload_n 0, 1) := by decide +kernel
theorem dX11_breath_28 : decode cX11_breath 28 = .ok (.getfield 54, 3) := by decide +kernel
theorem dX11_breath_31 : decode cX11_breath 31 = .ok (.aload_n 2, 1) := by decide +kernel
theorem dX11_breath_32 : decode cX11_breath 32 = .ok (.invokevirtual 156, 3) := by decide +kernel
theorem dX11_breath_35 : decode cX11_breath 35 = .ok (.aload_n 2, 1) := by decide +kernel
theorem dX11_breath_36 : decode cX11_breath 36 = .ok (.getfield 124, 3) := by decide +kernel
theorem dX11_breath_39 : decode cX11_breath 39 = .ok (.bipush 6, 2) := by decide +kernel
theorem dX11_breath_41 : decode cX11_breath 41 = .ok (.dup2, 1) := by decide +kernel
theorem dX11_breath_42 : decode cX11_breath 42 = .ok (.iaload, 1) := by decide +kernel
theorem dX11_breath_43 : decode cX11_breath 43 = .ok (.iload_n 1, 1) := by decide +kernel
theorem dX11_breath_44 : decode cX11_breath 44 = .ok (.iadd, 1) := by decide +kernel
theorem dX11_breath_45 : decode cX11_breath 45 = .ok (.iastore, 1) := by decide +kernel
theorem dX11_breath_46 : decode cX11_breath 46 = .ok (.aload_n 2, 1) := by decide +kernel
theorem dX11_breath_47 : decode cX11_breath 47 = .ok (.getfield 124, 3) := by decide +kernel
theorem dX11_breath_50 : decode cX11_breath 50 = .ok (.bipush 6, 2) := by decide +kernel
theorem dX11_breath_52 : decode cX11_breath 52 = .ok (.iaload, 1) := by decide +kernel
theorem dX11_breath_53 : decode cX11_breath 53 = .ok (.ireturn, 1) := by decide +kernel
theorem dX11_within_0 : decode cX11_within 0 = .ok (.iload_n 0, 1) := by decide +kernel
theorem dX11_within_1 : decode cX11_within 1 = .ok (.iload_n 1, 1) := by decide +kernel
theorem dX11_within_2 : decode cX11_within 2 = .ok (.if_icmp .lt 12, 3) := by decide +kernel
theorem dX11_within_5 : decode cX11_within 5 = .ok (.iload_n 0, 1) := by decide +kernel
theorem dX11_within_6 : decode cX11_within 6 = .ok (.iload_n 2, 1) := by decide +kernel
theorem dX11_within_7 : decode cX11_within 7 = .ok (.if_icmp .gt 7, 3) := by decide +kernel
theorem dX11_within_10 : decode cX11_within 10 = .ok (.iconst 1, 1) := by decide +kernel
theorem dX11_within_11 : decode cX11_within 11 = .ok (.goto 4, 3) := by decide +kernel
theorem dX11_within_14 : decode cX11_within 14 = .ok (.iconst 0, 1) := by decide +kernel
theorem dX11_within_15 : decode cX11_within 15 = .ok (.ireturn, 1) := by decide +kernel
theorem dX1_hasRing_0 : decode cX1_hasRing 0 = .ok (.iload_n 1, 1) := by decide +kernel
theorem dX1_hasRing_1 : decode cX1_hasRing 1 = .ok (.iconst 0, 1) := by decide +kernel
theorem dX1_hasRing_2 : decode cX1_hasRing 2 = .ok (.aload_n 0, 1) := by decide +kernel
theorem dX1_hasRing_3 : decode cX1_hasRing 3 = .ok (.getfield 11, 3) := by decide +kernel
theorem dX1_hasRing_6 : decode cX1_hasRing 6 = .ok (.iconst 3, 1) := by decide +kernel
theorem dX1_hasRing_7 : decode cX1_hasRing 7 = .ok (.iaload, 1) := by decide +kernel
theorem dX1_hasRing_8 : decode cX1_hasRing 8 = .ok (.iconst 1, 1) := by decide +kernel
theorem dX1_hasRing_9 : decode cX1_hasRing 9 = .ok (.isub, 1) := by decide +kernel
theorem dX1_hasRing_10 : decode cX1_hasRing 10 = .ok (.invokestatic 27, 3) := by decide +kernel
theorem dX1_hasRing_13 : decode cX1_hasRing 13 = .ok (.ireturn, 1) := by decide +kernel
theorem dX10_advance_0 : decode cX10_advance 0 = .ok (.aload_n 0, 1) := by decide +kernel
theorem dX10_advance_1 : decode cX10_advance 1 = .ok (.getfield 31, 3) := by decide +kernel
theorem dX10_advance_4 : decode cX10_advance 4 = .ok (.iconst 1, 1) := by decide +kernel
theorem dX10_advance_5 : decode cX10_advance 5 = .ok (.iadd, 1) := by decide +kernel
theorem dX10_advance_6 : decode cX10_advance 6 = .ok (.aload_n 0, 1) := by decide +kernel
theorem dX10_advance_7 : decode cX10_advance 7 = .ok (.getfield 28, 3) := by decide +kernel
theorem dX10_advance_10 : decode cX10_advance 10 = .ok (.if_icmp .ge 52, 3) := by decide +kernel
theorem dX10_advance_13 : decode cX10_advance 13 = .ok (.aload_n 0, 1) := by decide +kernel
theorem dX10_advance_14 : decode cX10_advance 14 = .ok (.dup, 1) := by decide +kernel
theorem dX10_advance_15 : decode cX10_advance 15 = .ok (.getfield 31, 3) := by decide +kernel
theorem dX10_advance_18 : decode cX10_advance 18 = .ok (.iconst 1, 1) := by decide +kernel
theorem dX10_advance_19 : decode cX10_advance 19 = .ok (.iadd, 1) := by decide +kernel
theorem dX10_advance_20 : decode cX10_advance 20 = .ok (.putfield 31, 3) := by decide +kernel
theorem dX10_advance_23 : decode cX10_advance 23 = .ok (.aload_n 0, 1) := by decide +kernel
theorem dX10_advance_24 : decode cX10_advance 24 = .ok (.aload_n 0, 1) := by decide +kernel
theorem dX10_advance_25 : decode cX10_advance 25 = .ok (.getfield 19, 3) := by decide +kernel
theorem dX10_advance_28 : decode cX10_advance 28 = .ok (.aload_n 0, 1) := by decide +kernel
theorem dX10_advance_29 : decode cX10_advance 29 = .ok (.getfield 31, 3) := by decide +kernel
theorem dX10_advance_32 : decode cX10_advance 32 = .ok (.iaload, 1) := by decide +kernel
theorem dX10_advance_33 : decode cX10_advance 33 = .ok (.putfield 34, 3) := by decide +kernel
theorem dX10_advance_36 : decode cX10_advance 36 = .ok (.aload_n 0, 1) := by decide +kernel
theorem dX10_advance_37 : decode cX10_advance 37 = .ok (.aload_n 0, 1) := by decide +kernel
theorem dX10_advance_38 : decode cX10_advance 38 = .ok (.getfield 22, 3) := by decide +kernel
theorem dX10_advance_41 : decode cX10_advance 41 = .ok (.aload_n 0, 1) := by decide +kernel
theorem dX10_advance_42 : decode cX10_advance 42 = .ok (.getfield 31, 3) := by decide +kernel
theorem dX10_advance_45 : decode cX10_advance 45 = .ok (.iaload, 1) := by decide +kernel
theorem dX10_advance_46 : decode cX10_advance 46 = .ok (.putfield 37, 3) := by decide +kernel
theorem dX10_advance_49 : decode cX10_advance 49 = .ok (.aload_n 0, 1) := by decide +kernel
theorem dX10_advance_50 : decode cX10_advance 50 = .ok (.aload_n 0, 1) := by decide +kernel
theorem dX10_advance_51 : decode cX10_advance 51 = .ok (.getfield 25, 3) := by decide +kernel
theorem dX10_advance_54 : decode cX10_advance 54 = .ok (.aload_n 0, 1) := by decide +kernel
theorem dX10_advance_55 : decode cX10_advance 55 = .ok (.getfield 31, 3) := by decide +kernel
theorem dX10_advance_58 : decode cX10_advance 58 = .ok (.iaload, 1) := by decide +kernel
theorem dX10_advance_59 : decode cX10_advance 59 = .ok (.putfield 40, 3) := by decide +kernel
theorem dX10_advance_62 : decode cX10_advance 62 = .ok (.return_, 1) := by decide +kernel
theorem dX10_hasRoom_0 : decode cX10_hasRoom 0 = .ok (.aload_n 0, 1) := by decide +kernel
theorem dX10_hasRoom_1 : decode cX10_hasRoom 1 = .ok (.getfield 15, 3) := by decide +kernel
theorem dX10_hasRoom_4 : decode cX10_hasRoom 4 = .ok (.iload_n 1, 1) := by decide +kernel
theorem dX10_hasRoom_5 : decode cX10_hasRoom 5 = .ok (.iadd, 1) := by decide +kernel
theorem dX10_hasRoom_6 : decode cX10_hasRoom 6 = .ok (.sipush 400, 3) := by decide +kernel
theorem dX10_hasRoom_9 : decode cX10_hasRoom 9 = .ok (.if_icmp .gt 7, 3) := by decide +kernel
theorem dX10_hasRoom_12 : decode cX10_hasRoom 12 = .ok (.iconst 1, 1) := by decide +kernel
theorem dX10_hasRoom_13 : decode cX10_hasRoom 13 = .ok (.goto 4, 3) := by decide +kernel
theorem dX10_hasRoom_16 : decode cX10_hasRoom 16 = .ok (.iconst 0, 1) := by decide +kernel
theorem dX10_hasRoom_17 : decode cX10_hasRoom 17 = .ok (.ireturn, 1) := by decide +kernel
theorem dX11_bestAim_0 : decode cX11_bestAim 0 = .ok (.aload_n 0, 1) := by decide +kernel
theorem dX11_bestAim_1 : decode cX11_bestAim 1 = .ok (.getfield 43, 3) := by decide +kernel
theorem dX11_bestAim_4 : decode cX11_bestAim 4 = .ok (.getfield 111, 3) := by decide +kernel
theorem dX11_bestAim_7 : decode cX11_bestAim 7 = .ok (.astore_n 3, 1) := by decide +kernel
theorem dX11_bestAim_8 : decode cX11_bestAim 8 = .ok (.aload_n 3, 1) := by decide +kernel
theorem dX11_bestAim_9 : decode cX11_bestAim 9 = .ok (.iload_n 1, 1) := by decide +kernel
theorem dX11_bestAim_10 : decode cX11_bestAim 10 = .ok (.invokevirtual 139, 3) := by decide +kernel
theorem dX11_bestAim_13 : decode cX11_bestAim 13 = .ok (.ifCond .eq 12, 3) := by decide +kernel
theorem dX11_bestAim_16 : decode cX11_bestAim 16 = .ok (.iload_n 2, 1) := by decide +kernel
theorem dX11_bestAim_17 : decode cX11_bestAim 17 = .ok (.iconst 0, 1) := by decide +kernel
theorem dX11_bestAim_18 : decode cX11_bestAim 18 = .ok (.iconst 1, 1) := by decide +kernel
theorem dX11_bestAim_19 : decode cX11_bestAim 19 = .ok (.invokestatic 90, 3) := by decide +kernel
theorem dX11_bestAim_22 : decode cX11_bestAim 22 = .ok (.ifCond .ne 6, 3) := by decide +kernel
theorem dX11_bestAim_25 : decode cX11_bestAim 25 = .ok (.bipush (-2), 2) := by decide +kernel
theorem dX11_bestAim_27 : decode cX11_bestAim 27 = .ok (.ireturn, 1) := by decide +kernel
theorem dX11_bestAim_28 : decode cX11_bestAim 28 = .ok (.aload_n 3, 1) := by decide +kernel
theorem dX11_bestAim_29 : decode cX11_bestAim 29 = .ok (.getfield 124, 3) := by decide +kernel
theorem dX11_bestAim_32 : decode cX11_bestAim 32 = .ok (.bipush 38, 2) := by decide +kernel
theorem dX11_bestAim_34 : decode cX11_bestAim 34 = .ok (.iload_n 1, 1) := by decide +kernel
theorem dX11_bestAim_35 : decode cX11_bestAim 35 = .ok (.iadd, 1) := by decide +kernel
theorem dX11_bestAim_36 : decode cX11_bestAim 36 = .ok (.iaload, 1) := by decide +kernel
theorem dX11_bestAim_37 : decode cX11_bestAim 37 = .ok (.istore 4, 2) := by decide +kernel
theorem dX11_bestAim_39 : decode cX11_bestAim 39 = .ok (.aload_n 3, 1) := by decide +kernel
theorem dX11_bestAim_40 : decode cX11_bestAim 40 = .ok (.getfield 124, 3) := by decide +kernel
theorem dX11_bestAim_43 : decode cX11_bestAim 43 = .ok (.bipush 53, 2) := by decide +kernel
theorem dX11_bestAim_45 : decode cX11_bestAim 45 = .ok (.iload_n 1, 1) := by decide +kernel
theorem dX11_bestAim_46 : decode cX11_bestAim 46 = .ok (.iadd, 1) := by decide +kernel
theorem dX11_bestAim_47 : decode cX11_bestAim 47 = .ok (.iaload, 1) := by decide +kernel
theorem dX11_bestAim_48 : decode cX11_bestAim 48 = .ok (.aload_n 3, 1) := by decide +kernel
theorem dX11_bestAim_49 : decode cX11_bestAim 49 = .ok (.getfield 124, 3) := by decide +kernel
theorem dX11_bestAim_52 : decode cX11_bestAim 52 = .ok (.bipush 26, 2) := by decide +kernel
theorem dX11_bestAim_54 : decode cX11_bestAim 54 = .ok (.iload 4, 2) := by decide +kernel
theorem dX11_bestAim_56 : decode cX11_bestAim 56 = .ok (.iadd, 1) := by decide +kernel
theorem dX11_bestAim_57 : decode cX11_bestAim 57 = .ok (.iaload, 1) := by decide +kernel
theorem dX11_bestAim_58 : decode cX11_bestAim 58 = .ok (.invokestatic 178, 3) := by decide +kernel
theorem dX11_bestAim_61 : decode cX11_bestAim 61 = .ok (.istore 5, 2) := by decide +kernel
theorem dX11_bestAim_63 : decode cX11_bestAim 63 = .ok (.aload_n 3, 1) := by decide +kernel
theorem dX11_bestAim_64 : decode cX11_bestAim 64 = .ok (.iload_n 1, 1) := by decide +kernel
theorem dX11_bestAim_65 : decode cX11_bestAim 65 = .ok (.aload_n 3, 1) := by decide +kernel
theorem dX11_bestAim_66 : decode cX11_bestAim 66 = .ok (.getfield 124, 3) := by decide +kernel
theorem dX11_bestAim_69 : decode cX11_bestAim 69 = .ok (.bipush 6, 2) := by decide +kernel
theorem dX11_bestAim_71 : decode cX11_bestAim 71 = .ok (.iaload, 1) := by decide +kernel
theorem dX11_bestAim_72 : decode cX11_bestAim 72 = .ok (.invokevirtual 197, 3) := by decide +kernel
theorem dX11_bestAim_75 : decode cX11_bestAim 75 = .ok (.istore 6, 2) := by decide +kernel
theorem dX11_bestAim_77 : decode cX11_bestAim 77 = .ok (.iload 6, 2) := by decide +kernel
theorem dX11_bestAim_79 : decode cX11_bestAim 79 = .ok (.iconst (-1), 1) := by decide +kernel
theorem dX11_bestAim_80 : decode cX11_bestAim 80 = .ok (.if_icmp .eq 9, 3) := by decide +kernel
theorem dX11_bestAim_83 : decode cX11_bestAim 83 = .ok (.iload 5, 2) := by decide +kernel
theorem dX11_bestAim_85 : decode cX11_bestAim 85 = .ok (.iconst 1, 1) := by decide +kernel
theorem dX11_bestAim_86 : decode cX11_bestAim 86 = .ok (.if_icmp .ge 13, 3) := by decide +kernel
theorem dX11_bestAim_89 : decode cX11_bestAim 89 = .ok (.iload_n 2, 1) := by decide +kernel
theorem dX11_bestAim_90 : decode cX11_bestAim 90 = .ok (.ifCond .ne 7, 3) := by decide +kernel
theorem dX11_bestAim_93 : decode cX11_bestAim 93 = .ok (.iconst (-1), 1) := by decide +kernel
theorem dX11_bestAim_94 : decode cX11_bestAim 94 = .ok (.goto 4, 3) := by decide +kernel
theorem dX11_bestAim_97 : decode cX11_bestAim 97 = .ok (.iconst 0, 1) := by decide +kernel
theorem dX11_bestAim_98 : decode cX11_bestAim 98 = .ok (.ireturn, 1) := by decide +kernel
theorem dX11_bestAim_99 : decode cX11_bestAim 99 = .ok (.iload_n 2, 1) := by decide +kernel
theorem dX11_bestAim_100 : decode cX11_bestAim 100 = .ok (.ifCond .ne 8, 3) := by decide +kernel
theorem dX11_bestAim_103 : decode cX11_bestAim 103 = .ok (.iload 6, 2) := by decide +kernel
theorem dX11_bestAim_105 : decode cX11_bestAim 105 = .ok (.goto 5, 3) := by decide +kernel
theorem dX11_bestAim_108 : decode cX11_bestAim 108 = .ok (.iload 5, 2) := by decide +kernel
theorem dX11_bestAim_110 : decode cX11_bestAim 110 = .ok (.ireturn, 1) := by decide +kernel
theorem dX11_skilled_0 : decode cX11_skilled 0 = .ok (.aload_n 0, 1) := by decide +kernel
theorem dX11_skilled_1 : decode cX11_skilled 1 = .ok (.getfield 43, 3) := by decide +kernel
theorem dX11_skilled_4 : decode cX11_skilled 4 = .ok (.getfield 111, 3) := by decide +kernel
theorem dX11_skilled_7 : decode cX11_skilled 7 = .ok (.iload_n 1, 1) := by decide +kernel
theorem dX11_skilled_8 : decode cX11_skilled 8 = .ok (.invokevirtual 139, 3) := by decide +kernel
theorem dX11_skilled_11 : decode cX11_skilled 11 = .ok (.ifCond .ne 5, 3) := by decide +kernel
theorem dX11_skilled_14 : decode cX11_skilled 14 = .ok (.iconst (-1), 1) := by decide +kernel
theorem dX11_skilled_15 : decode cX11_skilled 15 = .ok (.ireturn, 1) := by decide +kernel
theorem dX11_skilled_16 : decode cX11_skilled 16 = .ok (.aload_n 0, 1) := by decide +kernel
theorem dX11_skilled_17 : decode cX11_skilled 17 = .ok (.getfield 75, 3) := by decide +kernel
theorem dX11_skilled_20 : decode cX11_skilled 20 = .ok (.aload_n 0, 1) := by decide +kernel
theorem dX11_skilled_21 : decode cX11_skilled 21 = .ok (.getfield 61, 3) := by decide +kernel
theorem dX11_skilled_24 : decode cX11_skilled 24 = .ok (.aload_n 0, 1) := by decide +kernel
theorem dX11_skilled_25 : decode cX11_skilled 25 = .ok (.getfield 43, 3) := by decide +kernel
theorem dX11_skilled_28 : decode cX11_skilled 28 = .ok (.aload_n 0, 1) := by decide +kernel
theorem dX11_skilled_29 : decode cX11_skilled 29 = .ok (.invokevirtual 159, 3) := by decide +kernel
theorem dX11_skilled_32 : decode cX11_skilled 32 = .ok (.bipush 43, 2) := by decide +kernel
theorem dX11_skilled_34 : decode cX11_skilled 34 = .ok (.iload_n 1, 1) := by decide +kernel
theorem dX11_skilled_35 : decode cX11_skilled 35 = .ok (.iadd, 1) := by decide +kernel
theorem dX11_skilled_36 : decode cX11_skilled 36 = .ok (.iconst 1, 1) := by decide +kernel
theorem dX11_skilled_37 : decode cX11_skilled 37 = .ok (.bipush 9, 2) := by decide +kernel
theorem dX11_skilled_39 : decode cX11_skilled 39 = .ok (.invokevirtual 239, 3) := by decide +kernel
theorem dX11_skilled_42 : decode cX11_skilled 42 = .ok (.ireturn, 1) := by decide +kernel
theorem dX3_readFrom_0 : decode cX3_readFrom 0 = .ok (.aload_n 1, 1) := by decide +kernel
theorem dX3_readFrom_1 : decode cX3_readFrom 1 = .ok (.invokevirtual 18, 3) := by decide +kernel
theorem dX3_readFrom_4 : decode cX3_readFrom 4 = .ok (.aload_n 0, 1) := by decide +kernel
theorem dX3_readFrom_5 : decode cX3_readFrom 5 = .ok (.getfield 12, 3) := by decide +kernel
theorem dX3_readFrom_8 : decode cX3_readFrom 8 = .ok (.invokevirtual 23, 3) := by decide +kernel
theorem dX3_readFrom_11 : decode cX3_readFrom 11 = .ok (.iconst 0, 1) := by decide +kernel
theorem dX3_readFrom_12 : decode cX3_readFrom 12 = .ok (.istore_n 2, 1) := by decide +kernel
theorem dX3_readFrom_13 : decode cX3_readFrom 13 = .ok (.aload_n 0, 1) := by decide +kernel
theorem dX3_readFrom_14 : decode cX3_readFrom 14 = .ok (.aload_n 1, 1) := by decide +kernel
theorem dX3_readFrom_15 : decode cX3_readFrom 15 = .ok (.iload_n 2, 1) := by decide +kernel
theorem dX3_readFrom_16 : decode cX3_readFrom 16 = .ok (.invokevirtual 26, 3) := by decide +kernel
theorem dX3_readFrom_19 : decode cX3_readFrom 19 = .ok (.iinc 2 1, 3) := by decide +kernel
theorem dX3_readFrom_22 : decode cX3_readFrom 22 = .ok (.iload_n 2, 1) := by decide +kernel
theorem dX3_readFrom_23 : decode cX3_readFrom 23 = .ok (.sipush 400, 3) := by decide +kernel
theorem dX3_readFrom_26 : decode cX3_readFrom 26 = .ok (.if_icmp .gt 10, 3) := by decide +kernel
theorem dX3_readFrom_29 : decode cX3_readFrom 29 = .ok (.aload_n 1, 1) := by decide +kernel
theorem dX3_readFrom_30 : decode cX3_readFrom 30 = .ok (.invokevirtual 30, 3) := by decide +kernel
theorem dX3_readFrom_33 : decode cX3_readFrom 33 = .ok (.ifCond .ne (-20), 3) := by decide +kernel
theorem dX3_readFrom_36 : decode cX3_readFrom 36 = .ok (.aload_n 1, 1) := by decide +kernel
theorem dX3_readFrom_37 : decode cX3_readFrom 37 = .ok (.getfield 34, 3) := by decide +kernel
theorem dX3_readFrom_40 : decode cX3_readFrom 40 = .ok (.ifCond .ne 7, 3) := by decide +kernel
theorem dX3_readFrom_43 : decode cX3_readFrom 43 = .ok (.aload_n 0, 1) := by decide +kernel
theorem dX3_readFrom_44 : decode cX3_readFrom 44 = .ok (.invokevirtual 38, 3) := by decide +kernel
theorem dX3_readFrom_47 : decode cX3_readFrom 47 = .ok (.aload_n 1, 1) := by decide +kernel
theorem dX3_readFrom_48 : decode cX3_readFrom 48 = .ok (.getfield 34, 3) := by decide +kernel
theorem dX3_readFrom_51 : decode cX3_readFrom 51 = .ok (.ireturn, 1) := by decide +kernel
theorem dX8_readFrom_0 : decode cX8_readFrom 0 = .ok (.aload_n 1, 1) := by decide +kernel
theorem dX8_readFrom_1 : decode cX8_readFrom 1 = .ok (.invokevirtual 24, 3) := by decide +kernel
theorem dX8_readFrom_4 : decode cX8_readFrom 4 = .ok (.aload_n 0, 1) := by decide +kernel
theorem dX8_readFrom_5 : decode cX8_readFrom 5 = .ok (.iconst 0, 1) := by decide +kernel
theorem dX8_readFrom_6 : decode cX8_readFrom 6 = .ok (.putfield 17, 3) := by decide +kernel
theorem dX8_readFrom_9 : decode cX8_readFrom 9 = .ok (.aload_n 0, 1) := by decide +kernel
theorem dX8_readFrom_10 : decode cX8_readFrom 10 = .ok (.iconst 0, 1) := by decide +kernel
theorem dX8_readFrom_11 : decode cX8_readFrom 11 = .ok (.putfield 21, 3) := by decide +kernel
theorem dX8_readFrom_14 : decode cX8_readFrom 14 = .ok (.iconst 0, 1) := by decide +kernel
theorem dX8_readFrom_15 : decode cX8_readFrom 15 = .ok (.istore_n 2, 1) := by decide +kernel
theorem dX8_readFrom_16 : decode cX8_readFrom 16 = .ok (.aload_n 0, 1) := by decide +kernel
theorem dX8_readFrom_17 : decode cX8_readFrom 17 = .ok (.aload_n 1, 1) := by decide +kernel
theorem dX8_readFrom_18 : decode cX8_readFrom 18 = .ok (.iload_n 2, 1) := by decide +kernel
theorem dX8_readFrom_19 : decode cX8_readFrom 19 = .ok (.invokevirtual 27, 3) := by decide +kernel
theorem dX8_readFrom_22 : decode cX8_readFrom 22 = .ok (.iinc 2 1, 3) := by decide +kernel
theorem dX8_readFrom_25 : decode cX8_readFrom 25 = .ok (.iload_n 2, 1) := by decide +kernel
theorem dX8_readFrom_26 : decode cX8_readFrom 26 = .ok (.sipush 400, 3) := by decide +kernel
theorem dX8_readFrom_29 : decode cX8_readFrom 29 = .ok (.if_icmp .gt 10, 3) := by decide +kernel
theorem dX8_readFrom_32 : decode cX8_readFrom 32 = .ok (.aload_n 1, 1) := by decide +kernel
theorem dX8_readFrom_33 : decode cX8_readFrom 33 = .ok (.invokevirtual 31, 3) := by decide +kernel
theorem dX8_readFrom_36 : decode cX8_readFrom 36 = .ok (.ifCond .ne (-20), 3) := by decide +kernel
theorem dX8_readFrom_39 : decode cX8_readFrom 39 = .ok (.aload_n 1, 1) := by decide +kernel
theorem dX8_readFrom_40 : decode cX8_readFrom 40 = .ok (.getfield 35, 3) := by decide +kernel
theorem dX8_readFrom_43 : decode cX8_readFrom 43 = .ok (.ireturn, 1) := by decide +kernel
theorem dX10_addBytes_0 : decode cX10_addBytes 0 = .ok (.bipush 24, 2) := by decide +kernel
theorem dX10_addBytes_2 : decode cX10_addBytes 2 = .ok (.istore_n 2, 1) := by decide +kernel
theorem dX10_addBytes_3 : decode cX10_addBytes 3 = .ok (.iload_n 2, 1) := by decide +kernel
theorem dX10_addBytes_4 : decode cX10_addBytes 4 = .ok (.ifCond .lt 45, 3) := by decide +kernel
theorem dX10_addBytes_7 : decode cX10_addBytes 7 = .ok (.aload_n 0, 1) := by decide +kernel
theorem dX10_addBytes_8 : decode cX10_addBytes 8 = .ok (.getfield 15, 3) := by decide +kernel
theorem dX10_addBytes_11 : decode cX10_addBytes 11 = .ok (.sipush 400, 3) := by decide +kernel
theorem dX10_addBytes_14 : decode cX10_addBytes 14 = .ok (.if_icmp .ge 35, 3) := by decide +kernel
theorem dX10_addBytes_17 : decode cX10_addBytes 17 = .ok (.aload_n 0, 1) := by decide +kernel
theorem dX10_addBytes_18 : decode cX10_addBytes 18 = .ok (.getfield 11, 3) := by decide +kernel
theorem dX10_addBytes_21 : decode cX10_addBytes 21 = .ok (.aload_n 0, 1) := by decide +kernel
theorem dX10_addBytes_22 : decode cX10_addBytes 22 = .ok (.getfield 15, 3) := by decide +kernel
theorem dX10_addBytes_25 : decode cX10_addBytes 25 = .ok (.iload_n 1, 1) := by decide +kernel
theorem dX10_addBytes_26 : decode cX10_addBytes 26 = .ok (.iload_n 2, 1) := by decide +kernel
theorem dX10_addBytes_27 : decode cX10_addBytes 27 = .ok (.iushr, 1) := by decide +kernel
theorem dX10_addBytes_28 : decode cX10_addBytes 28 = .ok (.sipush 255, 3) := by decide +kernel
theorem dX10_addBytes_31 : decode cX10_addBytes 31 = .ok (.iand, 1) := by decide +kernel
theorem dX10_addBytes_32 : decode cX10_addBytes 32 = .ok (.iastore, 1) := by decide +kernel
theorem dX10_addBytes_33 : decode cX10_addBytes 33 = .ok (.aload_n 0, 1) := by decide +kernel
theorem dX10_addBytes_34 : decode cX10_addBytes 34 = .ok (.dup, 1) := by decide +kernel
theorem dX10_addBytes_35 : decode cX10_addBytes 35 = .ok (.getfield 15, 3) := by decide +kernel
theorem dX10_addBytes_38 : decode cX10_addBytes 38 = .ok (.iconst 1, 1) := by decide +kernel
theorem dX10_addBytes_39 : decode cX10_addBytes 39 = .ok (.iadd, 1) := by decide +kernel
theorem dX10_addBytes_40 : decode cX10_addBytes 40 = .ok (.putfield 15, 3) := by decide +kernel
theorem dX10_addBytes_43 : decode cX10_addBytes 43 = .ok (.iinc 2 (-8), 3) := by decide +kernel
theorem dX10_addBytes_46 : decode cX10_addBytes 46 = .ok (.goto (-43), 3) := by decide +kernel
theorem dX10_addBytes_49 : decode cX10_addBytes 49 = .ok (.return_, 1) := by decide +kernel
theorem dX10_addToken_0 : decode cX10_addToken 0 = .ok (.aload_n 0, 1) := by decide +kernel
theorem dX10_addToken_1 : decode cX10_addToken 1 = .ok (.getfield 28, 3) := by decide +kernel
theorem dX10_addToken_4 : decode cX10_addToken 4 = .ok (.sipush 400, 3) := by decide +kernel
theorem dX10_addToken_7 : decode cX10_addToken 7 = .ok (.if_icmp .gt 43, 3) := by decide +kernel
theorem dX10_addToken_10 : decode cX10_addToken 10 = .ok (.aload_n 0, 1) := by decide +kernel
theorem dX10_addToken_11 : decode cX10_addToken 11 = .ok (.getfield 19, 3) := by decide +kernel
theorem dX10_addToken_14 : decode cX10_addToken 14 = .ok (.aload_n 0, 1) := by decide +kernel
theorem dX10_addToken_15 : decode cX10_addToken 15 = .ok (.getfield 28, 3) := by decide +kernel
theorem dX10_addToken_18 : decode cX10_addToken 18 = .ok (.iload_n 1, 1) := by decide +kernel
theorem dX10_addToken_19 : decode cX10_addToken 19 = .ok (.iastore, 1) := by decide +kernel
theorem dX10_addToken_20 : decode cX10_addToken 20 = .ok (.aload_n 0, 1) := by decide +kernel
theorem dX10_addToken_21 : decode cX10_addToken 21 = .ok (.getfield 22, 3) := by decide +kernel
theorem dX10_addToken_24 : decode cX10_addToken 24 = .ok (.aload_n 0, 1) := by decide +kernel
theorem dX10_addToken_25 : decode cX10_addToken 25 = .ok (.getfield 28, 3) := by decide +kernel
theorem dX10_addToken_28 : decode cX10_addToken 28 = .ok (.iload_n 2, 1) := by decide +kernel
theorem dX10_addToken_29 : decode cX10_addToken 29 = .ok (.iastore, 1) := by decide +kernel
theorem dX10_addToken_30 : decode cX10_addToken 30 = .ok (.aload_n 0, 1) := by decide +kernel
theorem dX10_addToken_31 : decode cX10_addToken 31 = .ok (.getfield 25, 3) := by decide +kernel
theorem dX10_addToken_34 : decode cX10_addToken 34 = .ok (.aload_n 0, 1) := by decide +kernel
theorem dX10_addToken_35 : decode cX10_addToken 35 = .ok (.getfield 28, 3) := by decide +kernel
theorem dX10_addToken_38 : decode cX10_addToken 38 = .ok (.iload_n 3, 1) := by decide +kernel
theorem dX10_addToken_39 : decode cX10_addToken 39 = .ok (.iastore, 1) := by decide +kernel
theorem dX10_addToken_40 : decode cX10_addToken 40 = .ok (.aload_n 0, 1) := by decide +kernel
theorem dX10_addToken_41 : decode cX10_addToken 41 = .ok (.dup, 1) := by decide +kernel
theorem dX10_addToken_42 : decode cX10_addToken 42 = .ok (.getfield 28, 3) := by decide +kernel
theorem dX10_addToken_45 : decode cX10_addToken 45 = .ok (.iconst 1, 1) := by decide +kernel
theorem dX10_addToken_46 : decode cX10_addToken 46 = .ok (.iadd, 1) := by decide +kernel
theorem dX10_addToken_47 : decode cX10_addToken 47 = .ok (.putfield 28, 3) := by decide +kernel
theorem dX10_addToken_50 : decode cX10_addToken 50 = .ok (.return_, 1) := by decide +kernel
theorem dX11_allEased_0 : decode cX11_allEased 0 = .ok (.aload_n 0, 1) := by decide +kernel
theorem dX11_allEased_1 : decode cX11_allEased 1 = .ok (.getfield 43, 3) := by decide +kernel
theorem dX11_allEased_4 : decode cX11_allEased 4 = .ok (.getfield 111, 3) := by decide +kernel
theorem dX11_allEased_7 : decode cX11_allEased 7 = .ok (.invokevirtual 152, 3) := by decide +kernel
theorem dX11_allEased_10 : decode cX11_allEased 10 = .ok (.ifCond .ne 5, 3) := by decide +kernel
theorem dX11_allEased_13 : decode cX11_allEased 13 = .ok (.iconst (-1), 1) := by decide +kernel
theorem dX11_allEased_14 : decode cX11_allEased 14 = .ok (.ireturn, 1) := by decide +kernel
theorem dX11_allEased_15 : decode cX11_allEased 15 = .ok (.aload_n 0, 1) := by decide +kernel
theorem dX11_allEased_16 : decode cX11_allEased 16 = .ok (.getfield 61, 3) := by decide +kernel
theorem dX11_allEased_19 : decode cX11_allEased 19 = .ok (.aload_n 0, 1) := by decide +kernel
theorem dX11_allEased_20 : decode cX11_allEased 20 = .ok (.getfield 43, 3) := by decide +kernel
theorem dX11_allEased_23 : decode cX11_allEased 23 = .ok (.getfield 111, 3) := by decide +kernel
theorem dX11_allEased_26 : decode cX11_allEased 26 = .ok (.aload_n 0, 1) := by decide +kernel
theorem dX11_allEased_27 : decode cX11_allEased 27 = .ok (.invokevirtual 159, 3) := by decide +kernel
theorem dX11_allEased_30 : decode cX11_allEased 30 = .ok (.invokevirtual 162, 3) := by decide +kernel
theorem dX11_allEased_33 : decode cX11_allEased 33 = .ok (.aload_n 0, 1) := by decide +kernel
theorem dX11_allEased_34 : decode cX11_allEased 34 = .ok (.getfield 68, 3) := by decide +kernel
theorem dX11_allEased_37 : decode cX11_allEased 37 = .ok (.aload_n 0, 1) := by decide +kernel
theorem dX11_allEased_38 : decode cX11_allEased 38 = .ok (.getfield 61, 3) := by decide +kernel
theorem dX11_allEased_41 : decode cX11_allEased 41 = .ok (.iconst 0, 1) := by decide +kernel
theorem dX11_allEased_42 : decode cX11_allEased 42 = .ok (.aload_n 0, 1) := by decide +kernel
theorem dX11_allEased_43 : decode cX11_allEased 43 = .ok (.getfield 43, 3) := by decide +kernel
theorem dX11_allEased_46 : decode cX11_allEased 46 = .ok (.getfield 111, 3) := by decide +kernel
theorem dX11_allEased_49 : decode cX11_allEased 49 = .ok (.getfield 124, 3) := by decide +kernel
theorem dX11_allEased_52 : decode cX11_allEased 52 = .ok (.iconst 4, 1) := by decide +kernel
theorem dX11_allEased_53 : decode cX11_allEased 53 = .ok (.iaload, 1) := by decide +kernel
theorem dX11_allEased_54 : decode cX11_allEased 54 = .ok (.iconst 1, 1) := by decide +kernel
theorem dX11_allEased_55 : decode cX11_allEased 55 = .ok (.isub, 1) := by decide +kernel
theorem dX11_allEased_56 : decode cX11_allEased 56 = .ok (.invokevirtual 190, 3) := by decide +kernel
theorem dX11_allEased_59 : decode cX11_allEased 59 = .ok (.ireturn, 1) := by decide +kernel
theorem dX1_hasArcher_0 : decode cX1_hasArcher 0 = .ok (.iload_n 1, 1) := by decide +kernel
theorem dX1_hasArcher_1 : decode cX1_hasArcher 1 = .ok (.iconst 0, 1) := by decide +kernel
theorem dX1_hasArcher_2 : decode cX1_hasArcher 2 = .ok (.aload_n 0, 1) := by decide +kernel
theorem dX1_hasArcher_3 : decode cX1_hasArcher 3 = .ok (.getfield 11, 3) := by decide +kernel
theorem dX1_hasArcher_6 : decode cX1_hasArcher 6 = .ok (.iconst 4, 1) := by decide +kernel
theorem dX1_hasArcher_7 : decode cX1_hasArcher 7 = .ok (.iaload, 1) := by decide +kernel
theorem dX1_hasArcher_8 : decode cX1_hasArcher 8 = .ok (.iconst 1, 1) := by decide +kernel
theorem dX1_hasArcher_9 : decode cX1_hasArcher 9 = .ok (.isub, 1) := by decide +kernel
theorem dX1_hasArcher_10 : decode cX1_hasArcher 10 = .ok (.invokestatic 27, 3) := by decide +kernel
theorem dX1_hasArcher_13 : decode cX1_hasArcher 13 = .ok (.ireturn, 1) := by decide +kernel
theorem dJ7_fill_53178_0 : decode cJ7_fill_53178 0 = .ok (.iconst 0, 1) := by decide +kernel
theorem dJ7_fill_53178_1 : decode cJ7_fill_53178 1 = .ok (.istore_n 2, 1) := by decide +kernel
theorem dJ7_fill_53178_2 : decode cJ7_fill_53178 2 = .ok (.aload_n 0, 1) := by decide +kernel
theorem dJ7_fill_53178_3 : decode cJ7_fill_53178 3 = .ok (.arraylength, 1) := by decide +kernel
theorem dJ7_fill_53178_4 : decode cJ7_fill_53178 4 = .ok (.istore_n 3, 1) := by decide +kernel
theorem dJ7_fill_53178_5 : decode cJ7_fill_53178 5 = .ok (.iload_n 2, 1) := by decide +kernel
theorem dJ7_fill_53178_6 : decode cJ7_fill_53178 6 = .ok (.iload_n 3, 1) := by decide +kernel
theorem dJ7_fill_53178_7 : decode cJ7_fill_53178 7 = .ok (.if_icmp .ge 13, 3) := by decide +kernel
theorem dJ7_fill_53178_10 : decode cJ7_fill_53178 10 = .ok (.aload_n 0, 1) := by decide +kernel
theorem dJ7_fill_53178_11 : decode cJ7_fill_53178 11 = .ok (.iload_n 2, 1) := by decide +kernel
theorem dJ7_fill_53178_12 : decode cJ7_fill_53178 12 = .ok (.iload_n 1, 1) := by decide +kernel
theorem dJ7_fill_53178_13 : decode cJ7_fill_53178 13 = .ok (.iastore, 1) := by decide +kernel
theorem dJ7_fill_53178_14 : decode cJ7_fill_53178 14 = .ok (.iinc 2 1, 3) := by decide +kernel
theorem dJ7_fill_53178_17 : decode cJ7_fill_53178 17 = .ok (.goto (-12), 3) := by decide +kernel
theorem dJ7_fill_53178_20 : decode cJ7_fill_53178 20 = .ok (.return_, 1) := by decide +kernel
theorem dX3_readClause_0 : decode cX3_readClause 0 = .ok (.aload_n 1, 1) := by decide +kernel
theorem dX3_readClause_1 : decode cX3_readClause 1 = .ok (.getfield 41, 3) := by decide +kernel
theorem dX3_readClause_4 : decode cX3_readClause 4 = .ok (.iconst 3, 1) := by decide +kernel
theorem dX3_readClause_5 : decode cX3_readClause 5 = .ok (.if_icmp .ne 10, 3) := by decide +kernel
theorem dX3_readClause_8 : decode cX3_readClause 8 = .ok (.aload_n 1, 1) := by decide +kernel
theorem dX3_readClause_9 : decode cX3_readClause 9 = .ok (.getfield 44, 3) := by decide +kernel
theorem dX3_readClause_12 : decode cX3_readClause 12 = .ok (.goto 4, 3) := by decide +kernel
theorem dX3_readClause_15 : decode cX3_readClause 15 = .ok (.iconst (-1), 1) := by decide +kernel
theorem dX3_readClause_16 : decode cX3_readClause 16 = .ok (.istore_n 3, 1) := by decide +kernel
theorem dX3_readClause_17 : decode cX3_readClause 17 = .ok (.iload_n 3, 1) := by decide +kernel
theorem dX3_readClause_18 : decode cX3_readClause 18 = .ok (.invokestatic 47, 3) := by decide +kernel
theorem dX3_readClause_21 : decode cX3_readClause 21 = .ok (.ifCond .ne 15, 3) := by decide +kernel
theorem dX3_readClause_24 : decode cX3_readClause 24 = .ok (.aload_n 1, 1) := by decide +kernel
theorem dX3_readClause_25 : decode cX3_readClause 25 = .ok (.aload_n 1, 1) := by decide +kernel
theorem dX3_readClause_26 : decode cX3_readClause 26 = .ok (.getfield 51, 3) := by decide +kernel
theorem dX3_readClause_29 : decode cX3_readClause 29 = .ok (.iconst 0, 1) := by decide +kernel
theorem dX3_readClause_30 : decode cX3_readClause 30 = .ok (.invokevirtual 54, 3) := by decide +kernel
theorem dX3_readClause_33 : decode cX3_readClause 33 = .ok (.goto 62, 3) := by decide +kernel
theorem dX3_readClause_36 : decode cX3_readClause 36 = .ok (.iload_n 2, 1) := by decide +kernel
theorem dX3_readClause_37 : decode cX3_readClause 37 = .ok (.bipush 40, 2) := by decide +kernel
theorem dX3_readClause_39 : decode cX3_readClause 39 = .ok (.if_icmp .ge 34, 3) := by decide +kernel
theorem dX3_readClause_42 : decode cX3_readClause 42 = .ok (.iload_n 3, 1) := by decide +kernel
theorem dX3_readClause_43 : decode cX3_readClause 43 = .ok (.bipush 13, 2) := by decide +kernel
theorem dX3_readClause_45 : decode cX3_readClause 45 = .ok (.if_icmp .ne 7, 3) := by decide +kernel
theorem dX3_readClause_48 : decode cX3_readClause 48 = .ok (.iconst 1, 1) := by decide +kernel
theorem dX3_readClause_49 : decode cX3_readClause 49 = .ok (.goto 4, 3) := by decide +kernel
theorem dX3_readClause_52 : decode cX3_readClause 52 = .ok (.iconst 0, 1) := by decide +kernel
theorem dX3_readClause_53 : decode cX3_readClause 53 = .ok (.iload_n 2, 1) := by decide +kernel
theorem dX3_readClause_54 : decode cX3_readClause 54 = .ok (.ifCond .ne 7, 3) := by decide +kernel
theorem dX3_readClause_57 : decode cX3_readClause 57 = .ok (.iconst 1, 1) := by decide +kernel
theorem dX3_readClause_58 : decode cX3_readClause 58 = .ok (.goto 4, 3) := by decide +kernel
theorem dX3_readClause_61 : decode cX3_readClause 61 = .ok (.iconst 0, 1) := by decide +kernel
theorem dX3_readClause_62 : decode cX3_readClause 62 = .ok (.if_icmp .ne 11, 3) := by decide +kernel
theorem dX3_readClause_65 : decode cX3_readClause 65 = .ok (.aload_n 0, 1) := by decide +kernel
theorem dX3_readClause_66 : decode cX3_readClause 66 = .ok (.iload_n 3, 1) := by decide +kernel
theorem dX3_readClause_67 : decode cX3_readClause 67 = .ok (.invokevirtual 58, 3) := by decide +kernel
theorem dX3_readClause_70 : decode cX3_readClause 70 = .ok (.ifCond .eq 15, 3) := by decide +kernel
theorem dX3_readClause_73 : decode cX3_readClause 73 = .ok (.aload_n 1, 1) := by decide +kernel
theorem dX3_readClause_74 : decode cX3_readClause 74 = .ok (.aload_n 1, 1) := by decide +kernel
theorem dX3_readClause_75 : decode cX3_readClause 75 = .ok (.getfield 51, 3) := by decide +kernel
theorem dX3_readClause_78 : decode cX3_readClause 78 = .ok (.iconst 4, 1) := by decide +kernel
theorem dX3_readClause_79 : decode cX3_readClause 79 = .ok (.invokevirtual 54, 3) := by decide +kernel
theorem dX3_readClause_82 : decode cX3_readClause 82 = .ok (.goto 13, 3) := by decide +kernel
theorem dX3_readClause_85 : decode cX3_readClause 85 = .ok (.aload_n 1, 1) := by decide +kernel
theorem dX3_readClause_86 : decode cX3_readClause 86 = .ok (.invokevirtual 61, 3) := by decide +kernel
theorem dX3_readClause_89 : decode cX3_readClause 89 = .ok (.aload_n 0, 1) := by decide +kernel
theorem dX3_readClause_90 : decode cX3_readClause 90 = .ok (.aload_n 1, 1) := by decide +kernel
theorem dX3_readClause_91 : decode cX3_readClause 91 = .ok (.iload_n 3, 1) := by decide +kernel
theorem dX3_readClause_92 : decode cX3_readClause 92 = .ok (.invokevirtual 64, 3) := by decide +kernel
theorem dX3_readClause_95 : decode cX3_readClause 95 = .ok (.return_, 1) := by decide +kernel
theorem dX8_readClause_0 : decode cX8_readClause 0 = .ok (.aload_n 1, 1) := by decide +kernel
theorem dX8_readClause_1 : decode cX8_readClause 1 = .ok (.bipush 14, 2) := by decide +kernel
theorem dX8_readClause_3 : decode cX8_readClause 3 = .ok (.invokevirtual 49, 3) := by decide +kernel
theorem dX8_readClause_6 : decode cX8_readClause 6 = .ok (.ifCond .ne 13, 3) := by decide +kernel
theorem dX8_readClause_9 : decode cX8_readClause 9 = .ok (.aload_n 1, 1) := by decide +kernel
theorem dX8_readClause_10 : decode cX8_readClause 10 = .ok (.aload_n 1, 1) := by decide +kernel
theorem dX8_readClause_11 : decode cX8_readClause 11 = .ok (.getfield 53, 3) := by decide +kernel
theorem dX8_readClause_14 : decode cX8_readClause 14 = .ok (.iconst 0, 1) := by decide +kernel
theorem dX8_readClause_15 : decode cX8_readClause 15 = .ok (.invokevirtual 56, 3) := by decide +kernel
theorem dX8_readClause_18 : decode cX8_readClause 18 = .ok (.return_, 1) := by decide +kernel
theorem dX8_readClause_19 : decode cX8_readClause 19 = .ok (.iload_n 2, 1) := by decide +kernel
theorem dX8_readClause_20 : decode cX8_readClause 20 = .ok (.bipush 12, 2) := by decide +kernel
theorem dX8_readClause_22 : decode cX8_readClause 22 = .ok (.if_icmp .lt 13, 3) := by decide +kernel
theorem dX8_readClause_25 : decode cX8_readClause 25 = .ok (.aload_n 1, 1) := by decide +kernel
theorem dX8_readClause_26 : decode cX8_readClause 26 = .ok (.aload_n 1, 1) := by decide +kernel
theorem dX8_readClause_27 : decode cX8_readClause 27 = .ok (.getfield 53, 3) := by decide +kernel
theorem dX8_readClause_30 : decode cX8_readClause 30 = .ok (.iconst 4, 1) := by decide +kernel
theorem dX8_readClause_31 : decode cX8_readClause 31 = .ok (.invokevirtual 56, 3) := by decide +kernel
theorem dX8_readClause_34 : decode cX8_readClause 34 = .ok (.return_, 1) := by decide +kernel
theorem dX8_readClause_35 : decode cX8_readClause 35 = .ok (.aload_n 1, 1) := by decide +kernel
theorem dX8_readClause_36 : decode cX8_readClause 36 = .ok (.invokevirtual 60, 3) := by decide +kernel
theorem dX8_readClause_39 : decode cX8_readClause 39 = .ok (.aload_n 0, 1) := by decide +kernel
theorem dX8_readClause_40 : decode cX8_readClause 40 = .ok (.aload_n 1, 1) := by decide +kernel
theorem dX8_readClause_41 : decode cX8_readClause 41 = .ok (.invokevirtual 63, 3) := by decide +kernel
theorem dX8_readClause_44 : decode cX8_readClause 44 = .ok (.aload_n 1, 1) := by decide +kernel
theorem dX8_readClause_45 : decode cX8_readClause 45 = .ok (.getfield 35, 3) := by decide +kernel
theorem dX8_readClause_48 : decode cX8_readClause 48 = .ok (.ifCond .ne 31, 3) := by decide +kernel
theorem dX8_readClause_51 : decode cX8_readClause 51 = .ok (.aload_n 1, 1) := by decide +kernel
theorem dX8_readClause_52 : decode cX8_readClause 52 = .ok (.bipush 15, 2) := by decide +kernel
theorem dX8_readClause_54 : decode cX8_readClause 54 = .ok (.invokevirtual 49, 3) := by decide +kernel
theorem dX8_readClause_57 : decode cX8_readClause 57 = .ok (.ifCond .eq 22, 3) := by decide +kernel
theorem dX8_readClause_60 : decode cX8_readClause 60 = .ok (.aload_n 1, 1) := by decide +kernel
theorem dX8_readClause_61 : decode cX8_readClause 61 = .ok (.invokevirtual 60, 3) := by decide +kernel
theorem dX8_readClause_64 : decode cX8_readClause 64 = .ok (.aload_n 0, 1) := by decide +kernel
theorem dX8_readClause_65 : decode cX8_readClause 65 = .ok (.aload_n 1, 1) := by decide +kernel
theorem dX8_readClause_66 : decode cX8_readClause 66 = .ok (.iconst 0, 1) := by decide +kernel
theorem dX8_readClause_67 : decode cX8_readClause 67 = .ok (.invokevirtual 67, 3) := by decide +kernel
theorem dX8_readClause_70 : decode cX8_readClause 70 = .ok (.aload_n 0, 1) := by decide +kernel
theorem dX8_readClause_71 : decode cX8_readClause 71 = .ok (.iconst 4, 1) := by decide +kernel
theorem dX8_readClause_72 : decode cX8_readClause 72 = .ok (.iconst 0, 1) := by decide +kernel
theorem dX8_readClause_73 : decode cX8_readClause 73 = .ok (.invokevirtual 70, 3) := by decide +kernel
theorem dX8_readClause_76 : decode cX8_readClause 76 = .ok (.goto 9, 3) := by decide +kernel
theorem dX8_readClause_79 : decode cX8_readClause 79 = .ok (.aload_n 0, 1) := by decide +kernel
theorem dX8_readClause_80 : decode cX8_readClause 80 = .ok (.iconst 3, 1) := by decide +kernel
theorem dX8_readClause_81 : decode cX8_readClause 81 = .ok (.iconst 0, 1) := by decide +kernel
theorem dX8_readClause_82 : decode cX8_readClause 82 = .ok (.invokevirtual 70, 3) := by decide +kernel
theorem dX8_readClause_85 : decode cX8_readClause 85 = .ok (.return_, 1) := by decide +kernel
theorem dX11_leastSkill_0 : decode cX11_leastSkill 0 = .ok (.aload_n 0, 1) := by decide +kernel
theorem dX11_leastSkill_1 : decode cX11_leastSkill 1 = .ok (.getfield 43, 3) := by decide +kernel
theorem dX11_leastSkill_4 : decode cX11_leastSkill 4 = .ok (.getfield 111, 3) := by decide +kernel
theorem dX11_leastSkill_7 : decode cX11_leastSkill 7 = .ok (.iload_n 1, 1) := by decide +kernel
theorem dX11_leastSkill_8 : decode cX11_leastSkill 8 = .ok (.invokevirtual 139, 3) := by decide +kernel
theorem dX11_leastSkill_11 : decode cX11_leastSkill 11 = .ok (.ifCond .eq 13, 3) := by decide +kernel
theorem dX11_leastSkill_14 : decode cX11_leastSkill 14 = .ok (.iload_n 2, 1) := by decide +kernel
theorem dX11_leastSkill_15 : decode cX11_leastSkill 15 = .ok (.iconst 1, 1) := by decide +kernel
theorem dX11_leastSkill_16 : decode cX11_leastSkill 16 = .ok (.bipush 40, 2) := by decide +kernel
theorem dX11_leastSkill_18 : decode cX11_leastSkill 18 = .ok (.invokestatic 90, 3) := by decide +kernel
theorem dX11_leastSkill_21 : decode cX11_leastSkill 21 = .ok (.ifCond .ne 5, 3) := by decide +kernel
theorem dX11_leastSkill_24 : decode cX11_leastSkill 24 = .ok (.iconst (-1), 1) := by decide +kernel
theorem dX11_leastSkill_25 : decode cX11_leastSkill 25 = .ok (.ireturn, 1) := by decide +kernel
theorem dX11_leastSkill_26 : decode cX11_leastSkill 26 = .ok (.iconst 1, 1) := by decide +kernel
theorem dX11_leastSkill_27 : decode cX11_leastSkill 27 = .ok (.istore_n 3, 1) := by decide +kernel
theorem dX11_leastSkill_28 : decode cX11_leastSkill 28 = .ok (.iload_n 3, 1) := by decide +kernel
theorem dX11_leastSkill_29 : decode cX11_leastSkill 29 = .ok (.bipush 9, 2) := by decide +kernel
theorem dX11_leastSkill_31 : decode cX11_leastSkill 31 = .ok (.if_icmp .gt 71, 3) := by decide +kernel
theorem dX11_leastSkill_34 : decode cX11_leastSkill 34 = .ok (.aload_n 0, 1) := by decide +kernel
theorem dX11_leastSkill_35 : decode cX11_leastSkill 35 = .ok (.getfield 61, 3) := by decide +kernel
theorem dX11_leastSkill_38 : decode cX11_leastSkill 38 = .ok (.aload_n 0, 1) := by decide +kernel
theorem dX11_leastSkill_39 : decode cX11_leastSkill 39 = .ok (.getfield 43, 3) := by decide +kernel
theorem dX11_leastSkill_42 : decode cX11_leastSkill 42 = .ok (.getfield 111, 3) := by decide +kernel
theorem dX11_leastSkill_45 : decode cX11_leastSkill 45 = .ok (.aload_n 0, 1) := by decide +kernel
theorem dX11_leastSkill_46 : decode cX11_leastSkill 46 = .ok (.invokevirtual 159, 3) := by decide +kernel
theorem dX11_leastSkill_49 : decode cX11_leastSkill 49 = .ok (.invokevirtual 162, 3) := by decide +kernel
theorem dX11_leastSkill_52 : decode cX11_leastSkill 52 = .ok (.aload_n 0, 1) := by decide +kernel
theorem dX11_leastSkill_53 : decode cX11_leastSkill 53 = .ok (.getfield 61, 3) := by decide +kernel
theorem dX11_leastSkill_56 : decode cX11_leastSkill 56 = .ok (.getfield 170, 3) := by decide +kernel
theorem dX11_leastSkill_59 : decode cX11_leastSkill 59 = .ok (.getfield 124, 3) := by decide +kernel
