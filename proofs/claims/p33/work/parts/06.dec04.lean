theorem dX11_eased_4 : decode cX11_eased 4 = .ok (.getfield 111, 3) := by decide +kernel
theorem dX11_eased_7 : decode cX11_eased 7 = .ok (.iload_n 1, 1) := by decide +kernel
theorem dX11_eased_8 : decode cX11_eased 8 = .ok (.invokevirtual 139, 3) := by decide +kernel
theorem dX11_eased_11 : decode cX11_eased 11 = .ok (.ifCond .ne 5, 3) := by decide +kernel
theorem dX11_eased_14 : decode cX11_eased 14 = .ok (.iconst (-1), 1) := by decide +kernel
theorem dX11_eased_15 : decode cX11_eased 15 = .ok (.ireturn, 1) := by decide +kernel
theorem dX11_eased_16 : decode cX11_eased 16 = .ok (.aload_n 0, 1) := by decide +kernel
theorem dX11_eased_17 : decode cX11_eased 17 = .ok (.getfield 61, 3) := by decide +kernel
theorem dX11_eased_20 : decode cX11_eased 20 = .ok (.aload_n 0, 1) := by decide +kernel
theorem dX11_eased_21 : decode cX11_eased 21 = .ok (.getfield 43, 3) := by decide +kernel
theorem dX11_eased_24 : decode cX11_eased 24 = .ok (.getfield 111, 3) := by decide +kernel
theorem dX11_eased_27 : decode cX11_eased 27 = .ok (.aload_n 0, 1) := by decide +kernel
theorem dX11_eased_28 : decode cX11_eased 28 = .ok (.invokevirtual 159, 3) := by decide +kernel
theorem dX11_eased_31 : decode cX11_eased 31 = .ok (.invokevirtual 162, 3) := by decide +kernel
theorem dX11_eased_34 : decode cX11_eased 34 = .ok (.aload_n 0, 1) := by decide +kernel
theorem dX11_eased_35 : decode cX11_eased 35 = .ok (.getfield 68, 3) := by decide +kernel
theorem dX11_eased_38 : decode cX11_eased 38 = .ok (.aload_n 0, 1) := by decide +kernel
theorem dX11_eased_39 : decode cX11_eased 39 = .ok (.getfield 61, 3) := by decide +kernel
theorem dX11_eased_42 : decode cX11_eased 42 = .ok (.iload_n 1, 1) := by decide +kernel
theorem dX11_eased_43 : decode cX11_eased 43 = .ok (.iload_n 1, 1) := by decide +kernel
theorem dX11_eased_44 : decode cX11_eased 44 = .ok (.invokevirtual 190, 3) := by decide +kernel
theorem dX11_eased_47 : decode cX11_eased 47 = .ok (.ireturn, 1) := by decide +kernel
theorem dX11_force_0 : decode cX11_force 0 = .ok (.iload_n 1, 1) := by decide +kernel
theorem dX11_force_1 : decode cX11_force 1 = .ok (.iconst (-1), 1) := by decide +kernel
theorem dX11_force_2 : decode cX11_force 2 = .ok (.aload_n 0, 1) := by decide +kernel
theorem dX11_force_3 : decode cX11_force 3 = .ok (.getfield 36, 3) := by decide +kernel
theorem dX11_force_6 : decode cX11_force 6 = .ok (.iconst 1, 1) := by decide +kernel
theorem dX11_force_7 : decode cX11_force 7 = .ok (.isub, 1) := by decide +kernel
theorem dX11_force_8 : decode cX11_force 8 = .ok (.invokestatic 90, 3) := by decide +kernel
theorem dX11_force_11 : decode cX11_force 11 = .ok (.ifCond .ne 6, 3) := by decide +kernel
theorem dX11_force_14 : decode cX11_force 14 = .ok (.bipush (-2), 2) := by decide +kernel
theorem dX11_force_16 : decode cX11_force 16 = .ok (.ireturn, 1) := by decide +kernel
theorem dX11_force_17 : decode cX11_force 17 = .ok (.aload_n 0, 1) := by decide +kernel
theorem dX11_force_18 : decode cX11_force 18 = .ok (.getfield 43, 3) := by decide +kernel
theorem dX11_force_21 : decode cX11_force 21 = .ok (.getfield 133, 3) := by decide +kernel
theorem dX11_force_24 : decode cX11_force 24 = .ok (.istore_n 2, 1) := by decide +kernel
theorem dX11_force_25 : decode cX11_force 25 = .ok (.aload_n 0, 1) := by decide +kernel
theorem dX11_force_26 : decode cX11_force 26 = .ok (.getfield 43, 3) := by decide +kernel
theorem dX11_force_29 : decode cX11_force 29 = .ok (.iload_n 1, 1) := by decide +kernel
theorem dX11_force_30 : decode cX11_force 30 = .ok (.putfield 133, 3) := by decide +kernel
theorem dX11_force_33 : decode cX11_force 33 = .ok (.iload_n 2, 1) := by decide +kernel
theorem dX11_force_34 : decode cX11_force 34 = .ok (.ireturn, 1) := by decide +kernel
theorem dX11_given_0 : decode cX11_given 0 = .ok (.aload_n 0, 1) := by decide +kernel
theorem dX11_given_1 : decode cX11_given 1 = .ok (.getfield 43, 3) := by decide +kernel
theorem dX11_given_4 : decode cX11_given 4 = .ok (.getfield 111, 3) := by decide +kernel
theorem dX11_given_7 : decode cX11_given 7 = .ok (.invokevirtual 152, 3) := by decide +kernel
theorem dX11_given_10 : decode cX11_given 10 = .ok (.ifCond .eq 22, 3) := by decide +kernel
theorem dX11_given_13 : decode cX11_given 13 = .ok (.iload_n 1, 1) := by decide +kernel
theorem dX11_given_14 : decode cX11_given 14 = .ok (.iconst 1, 1) := by decide +kernel
theorem dX11_given_15 : decode cX11_given 15 = .ok (.bipush 40, 2) := by decide +kernel
theorem dX11_given_17 : decode cX11_given 17 = .ok (.invokestatic 90, 3) := by decide +kernel
theorem dX11_given_20 : decode cX11_given 20 = .ok (.ifCond .eq 12, 3) := by decide +kernel
theorem dX11_given_23 : decode cX11_given 23 = .ok (.iload_n 2, 1) := by decide +kernel
theorem dX11_given_24 : decode cX11_given 24 = .ok (.iconst 0, 1) := by decide +kernel
theorem dX11_given_25 : decode cX11_given 25 = .ok (.iconst 1, 1) := by decide +kernel
theorem dX11_given_26 : decode cX11_given 26 = .ok (.invokestatic 90, 3) := by decide +kernel
theorem dX11_given_29 : decode cX11_given 29 = .ok (.ifCond .ne 6, 3) := by decide +kernel
theorem dX11_given_32 : decode cX11_given 32 = .ok (.bipush (-2), 2) := by decide +kernel
theorem dX11_given_34 : decode cX11_given 34 = .ok (.ireturn, 1) := by decide +kernel
theorem dX11_given_35 : decode cX11_given 35 = .ok (.aload_n 0, 1) := by decide +kernel
theorem dX11_given_36 : decode cX11_given 36 = .ok (.getfield 68, 3) := by decide +kernel
theorem dX11_given_39 : decode cX11_given 39 = .ok (.aload_n 0, 1) := by decide +kernel
theorem dX11_given_40 : decode cX11_given 40 = .ok (.getfield 61, 3) := by decide +kernel
theorem dX11_given_43 : decode cX11_given 43 = .ok (.aload_n 0, 1) := by decide +kernel
theorem dX11_given_44 : decode cX11_given 44 = .ok (.getfield 43, 3) := by decide +kernel
theorem dX11_given_47 : decode cX11_given 47 = .ok (.getfield 111, 3) := by decide +kernel
theorem dX11_given_50 : decode cX11_given 50 = .ok (.aload_n 0, 1) := by decide +kernel
theorem dX11_given_51 : decode cX11_given 51 = .ok (.invokevirtual 159, 3) := by decide +kernel
theorem dX11_given_54 : decode cX11_given 54 = .ok (.iload_n 1, 1) := by decide +kernel
theorem dX11_given_55 : decode cX11_given 55 = .ok (.invokevirtual 217, 3) := by decide +kernel
theorem dX11_given_58 : decode cX11_given 58 = .ok (.iload_n 2, 1) := by decide +kernel
theorem dX11_given_59 : decode cX11_given 59 = .ok (.ifCond .ne 13, 3) := by decide +kernel
theorem dX11_given_62 : decode cX11_given 62 = .ok (.aload_n 0, 1) := by decide +kernel
theorem dX11_given_63 : decode cX11_given 63 = .ok (.getfield 68, 3) := by decide +kernel
theorem dX11_given_66 : decode cX11_given 66 = .ok (.getfield 211, 3) := by decide +kernel
theorem dX11_given_69 : decode cX11_given 69 = .ok (.goto 10, 3) := by decide +kernel
theorem dX11_given_72 : decode cX11_given 72 = .ok (.aload_n 0, 1) := by decide +kernel
theorem dX11_given_73 : decode cX11_given 73 = .ok (.getfield 68, 3) := by decide +kernel
theorem dX11_given_76 : decode cX11_given 76 = .ok (.getfield 214, 3) := by decide +kernel
theorem dX11_given_79 : decode cX11_given 79 = .ok (.ireturn, 1) := by decide +kernel
theorem dX11_green_0 : decode cX11_green 0 = .ok (.aload_n 0, 1) := by decide +kernel
theorem dX11_green_1 : decode cX11_green 1 = .ok (.getfield 19, 3) := by decide +kernel
theorem dX11_green_4 : decode cX11_green 4 = .ok (.aload_n 0, 1) := by decide +kernel
theorem dX11_green_5 : decode cX11_green 5 = .ok (.getfield 10, 3) := by decide +kernel
theorem dX11_green_8 : decode cX11_green 8 = .ok (.invokevirtual 94, 3) := by decide +kernel
theorem dX11_green_11 : decode cX11_green 11 = .ok (.istore_n 1, 1) := by decide +kernel
theorem dX11_green_12 : decode cX11_green 12 = .ok (.iload_n 1, 1) := by decide +kernel
theorem dX11_green_13 : decode cX11_green 13 = .ok (.ifCond .eq 8, 3) := by decide +kernel
theorem dX11_green_16 : decode cX11_green 16 = .ok (.bipush (-2), 2) := by decide +kernel
theorem dX11_green_18 : decode cX11_green 18 = .ok (.iload_n 1, 1) := by decide +kernel
theorem dX11_green_19 : decode cX11_green 19 = .ok (.isub, 1) := by decide +kernel
theorem dX11_green_20 : decode cX11_green 20 = .ok (.ireturn, 1) := by decide +kernel
theorem dX11_green_21 : decode cX11_green 21 = .ok (.aload_n 0, 1) := by decide +kernel
theorem dX11_green_22 : decode cX11_green 22 = .ok (.getfield 43, 3) := by decide +kernel
theorem dX11_green_25 : decode cX11_green 25 = .ok (.getfield 98, 3) := by decide +kernel
theorem dX11_green_28 : decode cX11_green 28 = .ok (.aload_n 0, 1) := by decide +kernel
theorem dX11_green_29 : decode cX11_green 29 = .ok (.getfield 19, 3) := by decide +kernel
theorem dX11_green_32 : decode cX11_green 32 = .ok (.getfield 102, 3) := by decide +kernel
theorem dX11_green_35 : decode cX11_green 35 = .ok (.invokevirtual 105, 3) := by decide +kernel
theorem dX11_green_38 : decode cX11_green 38 = .ok (.aload_n 0, 1) := by decide +kernel
theorem dX11_green_39 : decode cX11_green 39 = .ok (.getfield 43, 3) := by decide +kernel
theorem dX11_green_42 : decode cX11_green 42 = .ok (.getfield 111, 3) := by decide +kernel
theorem dX11_green_45 : decode cX11_green 45 = .ok (.aload_n 0, 1) := by decide +kernel
theorem dX11_green_46 : decode cX11_green 46 = .ok (.getfield 19, 3) := by decide +kernel
theorem dX11_green_49 : decode cX11_green 49 = .ok (.getfield 102, 3) := by decide +kernel
theorem dX11_green_52 : decode cX11_green 52 = .ok (.invokevirtual 105, 3) := by decide +kernel
theorem dX11_green_55 : decode cX11_green 55 = .ok (.aload_n 0, 1) := by decide +kernel
theorem dX11_green_56 : decode cX11_green 56 = .ok (.getfield 43, 3) := by decide +kernel
theorem dX11_green_59 : decode cX11_green 59 = .ok (.getfield 114, 3) := by decide +kernel
theorem dX11_green_62 : decode cX11_green 62 = .ok (.iconst 0, 1) := by decide +kernel
theorem dX11_green_63 : decode cX11_green 63 = .ok (.putfield 118, 3) := by decide +kernel
theorem dX11_green_66 : decode cX11_green 66 = .ok (.aload_n 0, 1) := by decide +kernel
theorem dX11_green_67 : decode cX11_green 67 = .ok (.getfield 54, 3) := by decide +kernel
theorem dX11_green_70 : decode cX11_green 70 = .ok (.iconst 0, 1) := by decide +kernel
theorem dX11_green_71 : decode cX11_green 71 = .ok (.putfield 123, 3) := by decide +kernel
theorem dX11_green_74 : decode cX11_green 74 = .ok (.aload_n 0, 1) := by decide +kernel
theorem dX11_green_75 : decode cX11_green 75 = .ok (.getfield 10, 3) := by decide +kernel
theorem dX11_green_78 : decode cX11_green 78 = .ok (.iconst 0, 1) := by decide +kernel
theorem dX11_green_79 : decode cX11_green 79 = .ok (.putfield 87, 3) := by decide +kernel
theorem dX11_green_82 : decode cX11_green 82 = .ok (.aload_n 0, 1) := by decide +kernel
theorem dX11_green_83 : decode cX11_green 83 = .ok (.getfield 43, 3) := by decide +kernel
theorem dX11_green_86 : decode cX11_green 86 = .ok (.getfield 111, 3) := by decide +kernel
theorem dX11_green_89 : decode cX11_green 89 = .ok (.getfield 124, 3) := by decide +kernel
theorem dX11_green_92 : decode cX11_green 92 = .ok (.iconst 4, 1) := by decide +kernel
theorem dX11_green_93 : decode cX11_green 93 = .ok (.iaload, 1) := by decide +kernel
theorem dX11_green_94 : decode cX11_green 94 = .ok (.ireturn, 1) := by decide +kernel
theorem dX11_gusts_0 : decode cX11_gusts 0 = .ok (.aload_n 0, 1) := by decide +kernel
theorem dX11_gusts_1 : decode cX11_gusts 1 = .ok (.getfield 43, 3) := by decide +kernel
theorem dX11_gusts_4 : decode cX11_gusts 4 = .ok (.getfield 111, 3) := by decide +kernel
theorem dX11_gusts_7 : decode cX11_gusts 7 = .ok (.invokevirtual 152, 3) := by decide +kernel
theorem dX11_gusts_10 : decode cX11_gusts 10 = .ok (.ifCond .eq 23, 3) := by decide +kernel
theorem dX11_gusts_13 : decode cX11_gusts 13 = .ok (.iload_n 1, 1) := by decide +kernel
theorem dX11_gusts_14 : decode cX11_gusts 14 = .ok (.iconst 1, 1) := by decide +kernel
theorem dX11_gusts_15 : decode cX11_gusts 15 = .ok (.bipush 10, 2) := by decide +kernel
theorem dX11_gusts_17 : decode cX11_gusts 17 = .ok (.invokestatic 90, 3) := by decide +kernel
theorem dX11_gusts_20 : decode cX11_gusts 20 = .ok (.ifCond .eq 13, 3) := by decide +kernel
theorem dX11_gusts_23 : decode cX11_gusts 23 = .ok (.iload_n 2, 1) := by decide +kernel
theorem dX11_gusts_24 : decode cX11_gusts 24 = .ok (.iconst 1, 1) := by decide +kernel
theorem dX11_gusts_25 : decode cX11_gusts 25 = .ok (.bipush 40, 2) := by decide +kernel
theorem dX11_gusts_27 : decode cX11_gusts 27 = .ok (.invokestatic 90, 3) := by decide +kernel
theorem dX11_gusts_30 : decode cX11_gusts 30 = .ok (.ifCond .ne 5, 3) := by decide +kernel
theorem dX11_gusts_33 : decode cX11_gusts 33 = .ok (.iconst (-1), 1) := by decide +kernel
theorem dX11_gusts_34 : decode cX11_gusts 34 = .ok (.ireturn, 1) := by decide +kernel
theorem dX11_gusts_35 : decode cX11_gusts 35 = .ok (.iload_n 3, 1) := by decide +kernel
theorem dX11_gusts_36 : decode cX11_gusts 36 = .ok (.iconst 0, 1) := by decide +kernel
theorem dX11_gusts_37 : decode cX11_gusts 37 = .ok (.bipush 100, 2) := by decide +kernel
theorem dX11_gusts_39 : decode cX11_gusts 39 = .ok (.invokestatic 90, 3) := by decide +kernel
theorem dX11_gusts_42 : decode cX11_gusts 42 = .ok (.ifCond .eq 13, 3) := by decide +kernel
theorem dX11_gusts_45 : decode cX11_gusts 45 = .ok (.iload 4, 2) := by decide +kernel
theorem dX11_gusts_47 : decode cX11_gusts 47 = .ok (.iconst 0, 1) := by decide +kernel
theorem dX11_gusts_48 : decode cX11_gusts 48 = .ok (.iconst 1, 1) := by decide +kernel
theorem dX11_gusts_49 : decode cX11_gusts 49 = .ok (.invokestatic 90, 3) := by decide +kernel
theorem dX11_gusts_52 : decode cX11_gusts 52 = .ok (.ifCond .ne 5, 3) := by decide +kernel
theorem dX11_gusts_55 : decode cX11_gusts 55 = .ok (.iconst (-1), 1) := by decide +kernel
theorem dX11_gusts_56 : decode cX11_gusts 56 = .ok (.ireturn, 1) := by decide +kernel
theorem dX11_gusts_57 : decode cX11_gusts 57 = .ok (.aload_n 0, 1) := by decide +kernel
theorem dX11_gusts_58 : decode cX11_gusts 58 = .ok (.getfield 68, 3) := by decide +kernel
theorem dX11_gusts_61 : decode cX11_gusts 61 = .ok (.aload_n 0, 1) := by decide +kernel
theorem dX11_gusts_62 : decode cX11_gusts 62 = .ok (.getfield 43, 3) := by decide +kernel
theorem dX11_gusts_65 : decode cX11_gusts 65 = .ok (.getfield 149, 3) := by decide +kernel
theorem dX11_gusts_68 : decode cX11_gusts 68 = .ok (.putfield 259, 3) := by decide +kernel
theorem dX11_gusts_71 : decode cX11_gusts 71 = .ok (.iconst 0, 1) := by decide +kernel
theorem dX11_gusts_72 : decode cX11_gusts 72 = .ok (.istore 5, 2) := by decide +kernel
theorem dX11_gusts_74 : decode cX11_gusts 74 = .ok (.iconst 0, 1) := by decide +kernel
theorem dX11_gusts_75 : decode cX11_gusts 75 = .ok (.istore 6, 2) := by decide +kernel
theorem dX11_gusts_77 : decode cX11_gusts 77 = .ok (.iconst 0, 1) := by decide +kernel
theorem dX11_gusts_78 : decode cX11_gusts 78 = .ok (.istore 7, 2) := by decide +kernel
theorem dX11_gusts_80 : decode cX11_gusts 80 = .ok (.iload 7, 2) := by decide +kernel
theorem dX11_gusts_82 : decode cX11_gusts 82 = .ok (.iload_n 1, 1) := by decide +kernel
theorem dX11_gusts_83 : decode cX11_gusts 83 = .ok (.if_icmp .ge 84, 3) := by decide +kernel
theorem dX11_gusts_86 : decode cX11_gusts 86 = .ok (.aload_n 0, 1) := by decide +kernel
theorem dX11_gusts_87 : decode cX11_gusts 87 = .ok (.getfield 61, 3) := by decide +kernel
theorem dX11_gusts_90 : decode cX11_gusts 90 = .ok (.aload_n 0, 1) := by decide +kernel
theorem dX11_gusts_91 : decode cX11_gusts 91 = .ok (.getfield 43, 3) := by decide +kernel
theorem dX11_gusts_94 : decode cX11_gusts 94 = .ok (.getfield 111, 3) := by decide +kernel
theorem dX11_gusts_97 : decode cX11_gusts 97 = .ok (.aload_n 0, 1) := by decide +kernel
theorem dX11_gusts_98 : decode cX11_gusts 98 = .ok (.invokevirtual 159, 3) := by decide +kernel
theorem dX11_gusts_101 : decode cX11_gusts 101 = .ok (.invokevirtual 162, 3) := by decide +kernel
theorem dX11_gusts_104 : decode cX11_gusts 104 = .ok (.aload_n 0, 1) := by decide +kernel
theorem dX11_gusts_105 : decode cX11_gusts 105 = .ok (.getfield 68, 3) := by decide +kernel
theorem dX11_gusts_108 : decode cX11_gusts 108 = .ok (.aload_n 0, 1) := by decide +kernel
theorem dX11_gusts_109 : decode cX11_gusts 109 = .ok (.getfield 61, 3) := by decide +kernel
theorem dX11_gusts_112 : decode cX11_gusts 112 = .ok (.iload_n 2, 1) := by decide +kernel
theorem dX11_gusts_113 : decode cX11_gusts 113 = .ok (.iload_n 3, 1) := by decide +kernel
theorem dX11_gusts_114 : decode cX11_gusts 114 = .ok (.invokevirtual 262, 3) := by decide +kernel
theorem dX11_gusts_117 : decode cX11_gusts 117 = .ok (.iload 5, 2) := by decide +kernel
theorem dX11_gusts_119 : decode cX11_gusts 119 = .ok (.aload_n 0, 1) := by decide +kernel
theorem dX11_gusts_120 : decode cX11_gusts 120 = .ok (.getfield 68, 3) := by decide +kernel
theorem dX11_gusts_123 : decode cX11_gusts 123 = .ok (.aload_n 0, 1) := by decide +kernel
theorem dX11_gusts_124 : decode cX11_gusts 124 = .ok (.getfield 43, 3) := by decide +kernel
theorem dX11_gusts_127 : decode cX11_gusts 127 = .ok (.getfield 111, 3) := by decide +kernel
theorem dX11_gusts_130 : decode cX11_gusts 130 = .ok (.aload_n 0, 1) := by decide +kernel
theorem dX11_gusts_131 : decode cX11_gusts 131 = .ok (.getfield 61, 3) := by decide +kernel
theorem dX11_gusts_134 : decode cX11_gusts 134 = .ok (.getfield 170, 3) := by decide +kernel
theorem dX11_gusts_137 : decode cX11_gusts 137 = .ok (.invokevirtual 266, 3) := by decide +kernel
theorem dX11_gusts_140 : decode cX11_gusts 140 = .ok (.iadd, 1) := by decide +kernel
theorem dX11_gusts_141 : decode cX11_gusts 141 = .ok (.istore 5, 2) := by decide +kernel
theorem dX11_gusts_143 : decode cX11_gusts 143 = .ok (.iload 6, 2) := by decide +kernel
theorem dX11_gusts_145 : decode cX11_gusts 145 = .ok (.aload_n 0, 1) := by decide +kernel
theorem dX11_gusts_146 : decode cX11_gusts 146 = .ok (.getfield 61, 3) := by decide +kernel
theorem dX11_gusts_149 : decode cX11_gusts 149 = .ok (.getfield 170, 3) := by decide +kernel
theorem dX11_gusts_152 : decode cX11_gusts 152 = .ok (.getfield 124, 3) := by decide +kernel
theorem dX11_gusts_155 : decode cX11_gusts 155 = .ok (.bipush 7, 2) := by decide +kernel
theorem dX11_gusts_157 : decode cX11_gusts 157 = .ok (.iaload, 1) := by decide +kernel
theorem dX11_gusts_158 : decode cX11_gusts 158 = .ok (.iadd, 1) := by decide +kernel
theorem dX11_gusts_159 : decode cX11_gusts 159 = .ok (.istore 6, 2) := by decide +kernel
theorem dX11_gusts_161 : decode cX11_gusts 161 = .ok (.iinc 7 1, 3) := by decide +kernel
theorem dX11_gusts_164 : decode cX11_gusts 164 = .ok (.goto (-84), 3) := by decide +kernel
theorem dX11_gusts_167 : decode cX11_gusts 167 = .ok (.iload 4, 2) := by decide +kernel
theorem dX11_gusts_169 : decode cX11_gusts 169 = .ok (.ifCond .ne 8, 3) := by decide +kernel
theorem dX11_gusts_172 : decode cX11_gusts 172 = .ok (.iload 5, 2) := by decide +kernel
theorem dX11_gusts_174 : decode cX11_gusts 174 = .ok (.goto 5, 3) := by decide +kernel
theorem dX11_gusts_177 : decode cX11_gusts 177 = .ok (.iload 6, 2) := by decide +kernel
theorem dX11_gusts_179 : decode cX11_gusts 179 = .ok (.ireturn, 1) := by decide +kernel
theorem dX11_image_0 : decode cX11_image 0 = .ok (.iload_n 1, 1) := by decide +kernel
theorem dX11_image_1 : decode cX11_image 1 = .ok (.iconst 0, 1) := by decide +kernel
theorem dX11_image_2 : decode cX11_image 2 = .ok (.iconst 3, 1) := by decide +kernel
theorem dX11_image_3 : decode cX11_image 3 = .ok (.invokestatic 90, 3) := by decide +kernel
theorem dX11_image_6 : decode cX11_image 6 = .ok (.ifCond .ne 5, 3) := by decide +kernel
theorem dX11_image_9 : decode cX11_image 9 = .ok (.iconst (-1), 1) := by decide +kernel
theorem dX11_image_10 : decode cX11_image 10 = .ok (.ireturn, 1) := by decide +kernel
theorem dX11_image_11 : decode cX11_image 11 = .ok (.aload_n 0, 1) := by decide +kernel
theorem dX11_image_12 : decode cX11_image 12 = .ok (.getfield 47, 3) := by decide +kernel
theorem dX11_image_15 : decode cX11_image 15 = .ok (.iload_n 1, 1) := by decide +kernel
theorem dX11_image_16 : decode cX11_image 16 = .ok (.aaload, 1) := by decide +kernel
theorem dX11_image_17 : decode cX11_image 17 = .ok (.aload_n 0, 1) := by decide +kernel
theorem dX11_image_18 : decode cX11_image 18 = .ok (.getfield 43, 3) := by decide +kernel
theorem dX11_image_21 : decode cX11_image 21 = .ok (.invokevirtual 270, 3) := by decide +kernel
theorem dX11_image_24 : decode cX11_image 24 = .ok (.aload_n 0, 1) := by decide +kernel
theorem dX11_image_25 : decode cX11_image 25 = .ok (.getfield 47, 3) := by decide +kernel
theorem dX11_image_28 : decode cX11_image 28 = .ok (.iload_n 1, 1) := by decide +kernel
theorem dX11_image_29 : decode cX11_image 29 = .ok (.aaload, 1) := by decide +kernel
theorem dX11_image_30 : decode cX11_image 30 = .ok (.iconst 1, 1) := by decide +kernel
theorem dX11_image_31 : decode cX11_image 31 = .ok (.putfield 273, 3) := by decide +kernel
theorem dX11_image_34 : decode cX11_image 34 = .ok (.aload_n 0, 1) := by decide +kernel
theorem dX11_image_35 : decode cX11_image 35 = .ok (.getfield 43, 3) := by decide +kernel
theorem dX11_image_38 : decode cX11_image 38 = .ok (.getfield 111, 3) := by decide +kernel
theorem dX11_image_41 : decode cX11_image 41 = .ok (.getfield 124, 3) := by decide +kernel
theorem dX11_image_44 : decode cX11_image 44 = .ok (.iconst 5, 1) := by decide +kernel
theorem dX11_image_45 : decode cX11_image 45 = .ok (.iaload, 1) := by decide +kernel
theorem dX11_image_46 : decode cX11_image 46 = .ok (.ireturn, 1) := by decide +kernel
theorem dX11_pence_0 : decode cX11_pence 0 = .ok (.iload_n 1, 1) := by decide +kernel
theorem dX11_pence_1 : decode cX11_pence 1 = .ok (.iconst 0, 1) := by decide +kernel
theorem dX11_pence_2 : decode cX11_pence 2 = .ok (.sipush 9999, 3) := by decide +kernel
theorem dX11_pence_5 : decode cX11_pence 5 = .ok (.invokestatic 90, 3) := by decide +kernel
theorem dX11_pence_8 : decode cX11_pence 8 = .ok (.ifCond .eq 17, 3) := by decide +kernel
theorem dX11_pence_11 : decode cX11_pence 11 = .ok (.aload_n 0, 1) := by decide +kernel
theorem dX11_pence_12 : decode cX11_pence 12 = .ok (.getfield 43, 3) := by decide +kernel
theorem dX11_pence_15 : decode cX11_pence 15 = .ok (.getfield 111, 3) := by decide +kernel
theorem dX11_pence_18 : decode cX11_pence 18 = .ok (.iload_n 2, 1) := by decide +kernel
theorem dX11_pence_19 : decode cX11_pence 19 = .ok (.invokevirtual 136, 3) := by decide +kernel
theorem dX11_pence_22 : decode cX11_pence 22 = .ok (.ifCond .ne 5, 3) := by decide +kernel
theorem dX11_pence_25 : decode cX11_pence 25 = .ok (.iconst (-1), 1) := by decide +kernel
theorem dX11_pence_26 : decode cX11_pence 26 = .ok (.ireturn, 1) := by decide +kernel
theorem dX11_pence_27 : decode cX11_pence 27 = .ok (.aload_n 0, 1) := by decide +kernel
theorem dX11_pence_28 : decode cX11_pence 28 = .ok (.getfield 68, 3) := by decide +kernel
theorem dX11_pence_31 : decode cX11_pence 31 = .ok (.aload_n 0, 1) := by decide +kernel
theorem dX11_pence_32 : decode cX11_pence 32 = .ok (.getfield 43, 3) := by decide +kernel
theorem dX11_pence_35 : decode cX11_pence 35 = .ok (.getfield 111, 3) := by decide +kernel
theorem dX11_pence_38 : decode cX11_pence 38 = .ok (.iload_n 1, 1) := by decide +kernel
theorem dX11_pence_39 : decode cX11_pence 39 = .ok (.iload_n 2, 1) := by decide +kernel
theorem dX11_pence_40 : decode cX11_pence 40 = .ok (.invokevirtual 228, 3) := by decide +kernel
theorem dX11_pence_43 : decode cX11_pence 43 = .ok (.ireturn, 1) := by decide +kernel
theorem dX11_rests_0 : decode cX11_rests 0 = .ok (.aload_n 0, 1) := by decide +kernel
theorem dX11_rests_1 : decode cX11_rests 1 = .ok (.getfield 43, 3) := by decide +kernel
theorem dX11_rests_4 : decode cX11_rests 4 = .ok (.getfield 111, 3) := by decide +kernel
theorem dX11_rests_7 : decode cX11_rests 7 = .ok (.iload_n 1, 1) := by decide +kernel
theorem dX11_rests_8 : decode cX11_rests 8 = .ok (.invokevirtual 139, 3) := by decide +kernel
theorem dX11_rests_11 : decode cX11_rests 11 = .ok (.ifCond .eq 22, 3) := by decide +kernel
theorem dX11_rests_14 : decode cX11_rests 14 = .ok (.aload_n 0, 1) := by decide +kernel
theorem dX11_rests_15 : decode cX11_rests 15 = .ok (.getfield 43, 3) := by decide +kernel
theorem dX11_rests_18 : decode cX11_rests 18 = .ok (.getfield 111, 3) := by decide +kernel
theorem dX11_rests_21 : decode cX11_rests 21 = .ok (.iload_n 2, 1) := by decide +kernel
theorem dX11_rests_22 : decode cX11_rests 22 = .ok (.invokevirtual 139, 3) := by decide +kernel
theorem dX11_rests_25 : decode cX11_rests 25 = .ok (.ifCond .eq 8, 3) := by decide +kernel
theorem dX11_rests_28 : decode cX11_rests 28 = .ok (.iload_n 1, 1) := by decide +kernel
theorem dX11_rests_29 : decode cX11_rests 29 = .ok (.iload_n 2, 1) := by decide +kernel
theorem dX11_rests_30 : decode cX11_rests 30 = .ok (.if_icmp .ne 5, 3) := by decide +kernel
theorem dX11_rests_33 : decode cX11_rests 33 = .ok (.iconst (-1), 1) := by decide +kernel
theorem dX11_rests_34 : decode cX11_rests 34 = .ok (.ireturn, 1) := by decide +kernel
theorem dX11_rests_35 : decode cX11_rests 35 = .ok (.iload_n 3, 1) := by decide +kernel
theorem dX11_rests_36 : decode cX11_rests 36 = .ok (.iconst 1, 1) := by decide +kernel
theorem dX11_rests_37 : decode cX11_rests 37 = .ok (.bipush 20, 2) := by decide +kernel
theorem dX11_rests_39 : decode cX11_rests 39 = .ok (.invokestatic 90, 3) := by decide +kernel
theorem dX11_rests_42 : decode cX11_rests 42 = .ok (.ifCond .eq 13, 3) := by decide +kernel
theorem dX11_rests_45 : decode cX11_rests 45 = .ok (.iload 4, 2) := by decide +kernel
theorem dX11_rests_47 : decode cX11_rests 47 = .ok (.iconst 0, 1) := by decide +kernel
theorem dX11_rests_48 : decode cX11_rests 48 = .ok (.iconst 2, 1) := by decide +kernel
theorem dX11_rests_49 : decode cX11_rests 49 = .ok (.invokestatic 90, 3) := by decide +kernel
theorem dX11_rests_52 : decode cX11_rests 52 = .ok (.ifCond .ne 5, 3) := by decide +kernel
theorem dX11_rests_55 : decode cX11_rests 55 = .ok (.iconst (-1), 1) := by decide +kernel
theorem dX11_rests_56 : decode cX11_rests 56 = .ok (.ireturn, 1) := by decide +kernel
theorem dX11_rests_57 : decode cX11_rests 57 = .ok (.aload_n 0, 1) := by decide +kernel
theorem dX11_rests_58 : decode cX11_rests 58 = .ok (.getfield 68, 3) := by decide +kernel
theorem dX11_rests_61 : decode cX11_rests 61 = .ok (.aload_n 0, 1) := by decide +kernel
theorem dX11_rests_62 : decode cX11_rests 62 = .ok (.getfield 61, 3) := by decide +kernel
theorem dX11_rests_65 : decode cX11_rests 65 = .ok (.aload_n 0, 1) := by decide +kernel
theorem dX11_rests_66 : decode cX11_rests 66 = .ok (.getfield 43, 3) := by decide +kernel
theorem dX11_rests_69 : decode cX11_rests 69 = .ok (.getfield 111, 3) := by decide +kernel
theorem dX11_rests_72 : decode cX11_rests 72 = .ok (.aload_n 0, 1) := by decide +kernel
theorem dX11_rests_73 : decode cX11_rests 73 = .ok (.invokevirtual 159, 3) := by decide +kernel
theorem dX11_rests_76 : decode cX11_rests 76 = .ok (.iload_n 1, 1) := by decide +kernel
theorem dX11_rests_77 : decode cX11_rests 77 = .ok (.iload_n 2, 1) := by decide +kernel
theorem dX11_rests_78 : decode cX11_rests 78 = .ok (.iload_n 3, 1) := by decide +kernel
theorem dX11_rests_79 : decode cX11_rests 79 = .ok (.invokevirtual 221, 3) := by decide +kernel
theorem dX11_rests_82 : decode cX11_rests 82 = .ok (.aload_n 0, 1) := by decide +kernel
theorem dX11_rests_83 : decode cX11_rests 83 = .ok (.getfield 68, 3) := by decide +kernel
theorem dX11_rests_86 : decode cX11_rests 86 = .ok (.aload_n 0, 1) := by decide +kernel
theorem dX11_rests_87 : decode cX11_rests 87 = .ok (.getfield 43, 3) := by decide +kernel
theorem dX11_rests_90 : decode cX11_rests 90 = .ok (.getfield 111, 3) := by decide +kernel
theorem dX11_rests_93 : decode cX11_rests 93 = .ok (.getfield 124, 3) := by decide +kernel
theorem dX11_rests_96 : decode cX11_rests 96 = .ok (.iconst 3, 1) := by decide +kernel
theorem dX11_rests_97 : decode cX11_rests 97 = .ok (.iaload, 1) := by decide +kernel
theorem dX11_rests_98 : decode cX11_rests 98 = .ok (.iload 4, 2) := by decide +kernel
theorem dX11_rests_100 : decode cX11_rests 100 = .ok (.invokevirtual 225, 3) := by decide +kernel
theorem dX11_rests_103 : decode cX11_rests 103 = .ok (.ireturn, 1) := by decide +kernel
theorem dX11_round_0 : decode cX11_round 0 = .ok (.aload_n 0, 1) := by decide +kernel
theorem dX11_round_1 : decode cX11_round 1 = .ok (.getfield 43, 3) := by decide +kernel
theorem dX11_round_4 : decode cX11_round 4 = .ok (.getfield 111, 3) := by decide +kernel
theorem dX11_round_7 : decode cX11_round 7 = .ok (.invokevirtual 152, 3) := by decide +kernel
theorem dX11_round_10 : decode cX11_round 10 = .ok (.ifCond .eq 21, 3) := by decide +kernel
theorem dX11_round_13 : decode cX11_round 13 = .ok (.aload_n 0, 1) := by decide +kernel
theorem dX11_round_14 : decode cX11_round 14 = .ok (.getfield 43, 3) := by decide +kernel
theorem dX11_round_17 : decode cX11_round 17 = .ok (.getfield 111, 3) := by decide +kernel
theorem dX11_round_20 : decode cX11_round 20 = .ok (.getfield 124, 3) := by decide +kernel
theorem dX11_round_23 : decode cX11_round 23 = .ok (.iconst 5, 1) := by decide +kernel
theorem dX11_round_24 : decode cX11_round 24 = .ok (.iaload, 1) := by decide +kernel
theorem dX11_round_25 : decode cX11_round 25 = .ok (.sipush 999, 3) := by decide +kernel
theorem dX11_round_28 : decode cX11_round 28 = .ok (.if_icmp .lt 5, 3) := by decide +kernel
theorem dX11_round_31 : decode cX11_round 31 = .ok (.iconst (-1), 1) := by decide +kernel
theorem dX11_round_32 : decode cX11_round 32 = .ok (.ireturn, 1) := by decide +kernel
theorem dX11_round_33 : decode cX11_round 33 = .ok (.aload_n 0, 1) := by decide +kernel
theorem dX11_round_34 : decode cX11_round 34 = .ok (.getfield 54, 3) := by decide +kernel
theorem dX11_round_37 : decode cX11_round 37 = .ok (.aload_n 0, 1) := by decide +kernel
theorem dX11_round_38 : decode cX11_round 38 = .ok (.getfield 43, 3) := by decide +kernel
theorem dX11_round_41 : decode cX11_round 41 = .ok (.getfield 111, 3) := by decide +kernel
theorem dX11_round_44 : decode cX11_round 44 = .ok (.invokevirtual 156, 3) := by decide +kernel
theorem dX11_round_47 : decode cX11_round 47 = .ok (.aload_n 0, 1) := by decide +kernel
theorem dX11_round_48 : decode cX11_round 48 = .ok (.getfield 61, 3) := by decide +kernel
theorem dX11_round_51 : decode cX11_round 51 = .ok (.aload_n 0, 1) := by decide +kernel
theorem dX11_round_52 : decode cX11_round 52 = .ok (.getfield 43, 3) := by decide +kernel
theorem dX11_round_55 : decode cX11_round 55 = .ok (.getfield 111, 3) := by decide +kernel
theorem dX11_round_58 : decode cX11_round 58 = .ok (.aload_n 0, 1) := by decide +kernel
theorem dX11_round_59 : decode cX11_round 59 = .ok (.invokevirtual 159, 3) := by decide +kernel
theorem dX11_round_62 : decode cX11_round 62 = .ok (.invokevirtual 162, 3) := by decide +kernel
theorem dX11_round_65 : decode cX11_round 65 = .ok (.aload_n 0, 1) := by decide +kernel
theorem dX11_round_66 : decode cX11_round 66 = .ok (.getfield 61, 3) := by decide +kernel
theorem dX11_round_69 : decode cX11_round 69 = .ok (.invokevirtual 166, 3) := by decide +kernel
theorem dX11_round_72 : decode cX11_round 72 = .ok (.istore_n 1, 1) := by decide +kernel
theorem dX11_round_73 : decode cX11_round 73 = .ok (.aload_n 0, 1) := by decide +kernel
theorem dX11_round_74 : decode cX11_round 74 = .ok (.getfield 43, 3) := by decide +kernel
theorem dX11_round_77 : decode cX11_round 77 = .ok (.getfield 111, 3) := by decide +kernel
theorem dX11_round_80 : decode cX11_round 80 = .ok (.aload_n 0, 1) := by decide +kernel
theorem dX11_round_81 : decode cX11_round 81 = .ok (.getfield 61, 3) := by decide +kernel
theorem dX11_round_84 : decode cX11_round 84 = .ok (.getfield 170, 3) := by decide +kernel
theorem dX11_round_87 : decode cX11_round 87 = .ok (.invokevirtual 105, 3) := by decide +kernel
theorem dX11_round_90 : decode cX11_round 90 = .ok (.iload_n 1, 1) := by decide +kernel
theorem dX11_round_91 : decode cX11_round 91 = .ok (.ireturn, 1) := by decide +kernel
theorem dX11_ruled_0 : decode cX11_ruled 0 = .ok (.aload_n 0, 1) := by decide +kernel
theorem dX11_ruled_1 : decode cX11_ruled 1 = .ok (.getfield 43, 3) := by decide +kernel
theorem dX11_ruled_4 : decode cX11_ruled 4 = .ok (.getfield 111, 3) := by decide +kernel
theorem dX11_ruled_7 : decode cX11_ruled 7 = .ok (.invokevirtual 152, 3) := by decide +kernel
theorem dX11_ruled_10 : decode cX11_ruled 10 = .ok (.ifCond .eq 12, 3) := by decide +kernel
theorem dX11_ruled_13 : decode cX11_ruled 13 = .ok (.iload_n 1, 1) := by decide +kernel
theorem dX11_ruled_14 : decode cX11_ruled 14 = .ok (.iconst 0, 1) := by decide +kernel
theorem dX11_ruled_15 : decode cX11_ruled 15 = .ok (.iconst 1, 1) := by decide +kernel
theorem dX11_ruled_16 : decode cX11_ruled 16 = .ok (.invokestatic 90, 3) := by decide +kernel
theorem dX11_ruled_19 : decode cX11_ruled 19 = .ok (.ifCond .ne 6, 3) := by decide +kernel
theorem dX11_ruled_22 : decode cX11_ruled 22 = .ok (.bipush (-3), 2) := by decide +kernel
theorem dX11_ruled_24 : decode cX11_ruled 24 = .ok (.ireturn, 1) := by decide +kernel
theorem dX11_ruled_25 : decode cX11_ruled 25 = .ok (.aload_n 0, 1) := by decide +kernel
theorem dX11_ruled_26 : decode cX11_ruled 26 = .ok (.getfield 75, 3) := by decide +kernel
theorem dX11_ruled_29 : decode cX11_ruled 29 = .ok (.aload_n 0, 1) := by decide +kernel
theorem dX11_ruled_30 : decode cX11_ruled 30 = .ok (.getfield 61, 3) := by decide +kernel
theorem dX11_ruled_33 : decode cX11_ruled 33 = .ok (.aload_n 0, 1) := by decide +kernel
theorem dX11_ruled_34 : decode cX11_ruled 34 = .ok (.getfield 43, 3) := by decide +kernel
theorem dX11_ruled_37 : decode cX11_ruled 37 = .ok (.aload_n 0, 1) := by decide +kernel
theorem dX11_ruled_38 : decode cX11_ruled 38 = .ok (.getfield 32, 3) := by decide +kernel
theorem dX11_ruled_41 : decode cX11_ruled 41 = .ok (.aload_n 0, 1) := by decide +kernel
theorem dX11_ruled_42 : decode cX11_ruled 42 = .ok (.getfield 36, 3) := by decide +kernel
theorem dX11_ruled_45 : decode cX11_ruled 45 = .ok (.iconst (-1), 1) := by decide +kernel
theorem dX11_ruled_46 : decode cX11_ruled 46 = .ok (.invokevirtual 243, 3) := by decide +kernel
theorem dX11_ruled_49 : decode cX11_ruled 49 = .ok (.iload_n 1, 1) := by decide +kernel
theorem dX11_ruled_50 : decode cX11_ruled 50 = .ok (.ifCond .ne 11, 3) := by decide +kernel
theorem dX11_ruled_53 : decode cX11_ruled 53 = .ok (.aload_n 0, 1) := by decide +kernel
theorem dX11_ruled_54 : decode cX11_ruled 54 = .ok (.getfield 75, 3) := by decide +kernel
theorem dX11_ruled_57 : decode cX11_ruled 57 = .ok (.getfield 247, 3) := by decide +kernel
theorem dX11_ruled_60 : decode cX11_ruled 60 = .ok (.ireturn, 1) := by decide +kernel
theorem dX11_ruled_61 : decode cX11_ruled 61 = .ok (.aload_n 0, 1) := by decide +kernel
theorem dX11_ruled_62 : decode cX11_ruled 62 = .ok (.getfield 75, 3) := by decide +kernel
theorem dX11_ruled_65 : decode cX11_ruled 65 = .ok (.getfield 247, 3) := by decide +kernel
theorem dX11_ruled_68 : decode cX11_ruled 68 = .ok (.ifCond .ne 8, 3) := by decide +kernel
theorem dX11_ruled_71 : decode cX11_ruled 71 = .ok (.bipush (-2), 2) := by decide +kernel
theorem dX11_ruled_73 : decode cX11_ruled 73 = .ok (.goto 10, 3) := by decide +kernel
theorem dX11_ruled_76 : decode cX11_ruled 76 = .ok (.aload_n 0, 1) := by decide +kernel
theorem dX11_ruled_77 : decode cX11_ruled 77 = .ok (.getfield 75, 3) := by decide +kernel
theorem dX11_ruled_80 : decode cX11_ruled 80 = .ok (.getfield 250, 3) := by decide +kernel
theorem dX11_ruled_83 : decode cX11_ruled 83 = .ok (.ireturn, 1) := by decide +kernel
theorem dX11_shoot_0 : decode cX11_shoot 0 = .ok (.aload_n 0, 1) := by decide +kernel
theorem dX11_shoot_1 : decode cX11_shoot 1 = .ok (.getfield 43, 3) := by decide +kernel
theorem dX11_shoot_4 : decode cX11_shoot 4 = .ok (.getfield 111, 3) := by decide +kernel
theorem dX11_shoot_7 : decode cX11_shoot 7 = .ok (.astore_n 3, 1) := by decide +kernel
theorem dX11_shoot_8 : decode cX11_shoot 8 = .ok (.aload_n 3, 1) := by decide +kernel
theorem dX11_shoot_9 : decode cX11_shoot 9 = .ok (.iload_n 1, 1) := by decide +kernel
theorem dX11_shoot_10 : decode cX11_shoot 10 = .ok (.invokevirtual 139, 3) := by decide +kernel
theorem dX11_shoot_13 : decode cX11_shoot 13 = .ok (.ifCond .eq 24, 3) := by decide +kernel
theorem dX11_shoot_16 : decode cX11_shoot 16 = .ok (.aload_n 3, 1) := by decide +kernel
theorem dX11_shoot_17 : decode cX11_shoot 17 = .ok (.iload_n 2, 1) := by decide +kernel
theorem dX11_shoot_18 : decode cX11_shoot 18 = .ok (.invokevirtual 136, 3) := by decide +kernel
theorem dX11_shoot_21 : decode cX11_shoot 21 = .ok (.ifCond .eq 16, 3) := by decide +kernel
theorem dX11_shoot_24 : decode cX11_shoot 24 = .ok (.aload_n 3, 1) := by decide +kernel
theorem dX11_shoot_25 : decode cX11_shoot 25 = .ok (.getfield 124, 3) := by decide +kernel
theorem dX11_shoot_28 : decode cX11_shoot 28 = .ok (.bipush 58, 2) := by decide +kernel
theorem dX11_shoot_30 : decode cX11_shoot 30 = .ok (.iload_n 1, 1) := by decide +kernel
theorem dX11_shoot_31 : decode cX11_shoot 31 = .ok (.iadd, 1) := by decide +kernel
theorem dX11_shoot_32 : decode cX11_shoot 32 = .ok (.iaload, 1) := by decide +kernel
theorem dX11_shoot_33 : decode cX11_shoot 33 = .ok (.iconst 1, 1) := by decide +kernel
theorem dX11_shoot_34 : decode cX11_shoot 34 = .ok (.if_icmp .ge 5, 3) := by decide +kernel
theorem dX11_shoot_37 : decode cX11_shoot 37 = .ok (.iconst (-1), 1) := by decide +kernel
theorem dX11_shoot_38 : decode cX11_shoot 38 = .ok (.ireturn, 1) := by decide +kernel
theorem dX11_shoot_39 : decode cX11_shoot 39 = .ok (.aload_n 0, 1) := by decide +kernel
theorem dX11_shoot_40 : decode cX11_shoot 40 = .ok (.getfield 54, 3) := by decide +kernel
theorem dX11_shoot_43 : decode cX11_shoot 43 = .ok (.aload_n 3, 1) := by decide +kernel
theorem dX11_shoot_44 : decode cX11_shoot 44 = .ok (.invokevirtual 156, 3) := by decide +kernel
theorem dX11_shoot_47 : decode cX11_shoot 47 = .ok (.aload_n 3, 1) := by decide +kernel
theorem dX11_shoot_48 : decode cX11_shoot 48 = .ok (.iload_n 1, 1) := by decide +kernel
theorem dX11_shoot_49 : decode cX11_shoot 49 = .ok (.iload_n 2, 1) := by decide +kernel
theorem dX11_shoot_50 : decode cX11_shoot 50 = .ok (.aload_n 3, 1) := by decide +kernel
theorem dX11_shoot_51 : decode cX11_shoot 51 = .ok (.aload_n 3, 1) := by decide +kernel
theorem dX11_shoot_52 : decode cX11_shoot 52 = .ok (.getfield 124, 3) := by decide +kernel
theorem dX11_shoot_55 : decode cX11_shoot 55 = .ok (.bipush 6, 2) := by decide +kernel
theorem dX11_shoot_57 : decode cX11_shoot 57 = .ok (.iaload, 1) := by decide +kernel
theorem dX11_shoot_58 : decode cX11_shoot 58 = .ok (.invokevirtual 142, 3) := by decide +kernel
theorem dX11_shoot_61 : decode cX11_shoot 61 = .ok (.invokevirtual 171, 3) := by decide +kernel
theorem dX11_shoot_64 : decode cX11_shoot 64 = .ok (.invokestatic 175, 3) := by decide +kernel
theorem dX11_shoot_67 : decode cX11_shoot 67 = .ok (.ireturn, 1) := by decide +kernel
theorem dX11_teach_0 : decode cX11_teach 0 = .ok (.aload_n 0, 1) := by decide +kernel
theorem dX11_teach_1 : decode cX11_teach 1 = .ok (.getfield 43, 3) := by decide +kernel
theorem dX11_teach_4 : decode cX11_teach 4 = .ok (.getfield 111, 3) := by decide +kernel
theorem dX11_teach_7 : decode cX11_teach 7 = .ok (.astore_n 3, 1) := by decide +kernel
theorem dX11_teach_8 : decode cX11_teach 8 = .ok (.aload_n 3, 1) := by decide +kernel
theorem dX11_teach_9 : decode cX11_teach 9 = .ok (.iload_n 1, 1) := by decide +kernel
theorem dX11_teach_10 : decode cX11_teach 10 = .ok (.invokevirtual 139, 3) := by decide +kernel
theorem dX11_teach_13 : decode cX11_teach 13 = .ok (.ifCond .eq 13, 3) := by decide +kernel
theorem dX11_teach_16 : decode cX11_teach 16 = .ok (.iload_n 2, 1) := by decide +kernel
theorem dX11_teach_17 : decode cX11_teach 17 = .ok (.iconst 1, 1) := by decide +kernel
theorem dX11_teach_18 : decode cX11_teach 18 = .ok (.bipush 9, 2) := by decide +kernel
theorem dX11_teach_20 : decode cX11_teach 20 = .ok (.invokestatic 90, 3) := by decide +kernel
theorem dX11_teach_23 : decode cX11_teach 23 = .ok (.ifCond .ne 5, 3) := by decide +kernel
theorem dX11_teach_26 : decode cX11_teach 26 = .ok (.iconst (-1), 1) := by decide +kernel
theorem dX11_teach_27 : decode cX11_teach 27 = .ok (.ireturn, 1) := by decide +kernel
theorem dX11_teach_28 : decode cX11_teach 28 = .ok (.aload_n 3, 1) := by decide +kernel
theorem dX11_teach_29 : decode cX11_teach 29 = .ok (.getfield 124, 3) := by decide +kernel
theorem dX11_teach_32 : decode cX11_teach 32 = .ok (.bipush 43, 2) := by decide +kernel
theorem dX11_teach_34 : decode cX11_teach 34 = .ok (.iload_n 1, 1) := by decide +kernel
theorem dX11_teach_35 : decode cX11_teach 35 = .ok (.iadd, 1) := by decide +kernel
theorem dX11_teach_36 : decode cX11_teach 36 = .ok (.iaload, 1) := by decide +kernel
theorem dX11_teach_37 : decode cX11_teach 37 = .ok (.istore 4, 2) := by decide +kernel
theorem dX11_teach_39 : decode cX11_teach 39 = .ok (.iload 4, 2) := by decide +kernel
theorem dX11_teach_41 : decode cX11_teach 41 = .ok (.iload_n 2, 1) := by decide +kernel
theorem dX11_teach_42 : decode cX11_teach 42 = .ok (.if_icmp .ne 5, 3) := by decide +kernel
theorem dX11_teach_45 : decode cX11_teach 45 = .ok (.iconst (-1), 1) := by decide +kernel
theorem dX11_teach_46 : decode cX11_teach 46 = .ok (.ireturn, 1) := by decide +kernel
theorem dX11_teach_47 : decode cX11_teach 47 = .ok (.aload_n 0, 1) := by decide +kernel
theorem dX11_teach_48 : decode cX11_teach 48 = .ok (.getfield 54, 3) := by decide +kernel
theorem dX11_teach_51 : decode cX11_teach 51 = .ok (.aload_n 3, 1) := by decide +kernel
theorem dX11_teach_52 : decode cX11_teach 52 = .ok (.invokevirtual 156, 3) := by decide +kernel
theorem dX11_teach_55 : decode cX11_teach 55 = .ok (.aload_n 3, 1) := by decide +kernel
theorem dX11_teach_56 : decode cX11_teach 56 = .ok (.getfield 124, 3) := by decide +kernel
theorem dX11_teach_59 : decode cX11_teach 59 = .ok (.bipush 43, 2) := by decide +kernel
theorem dX11_teach_61 : decode cX11_teach 61 = .ok (.iload_n 1, 1) := by decide +kernel
theorem dX11_teach_62 : decode cX11_teach 62 = .ok (.iadd, 1) := by decide +kernel
theorem dX11_teach_63 : decode cX11_teach 63 = .ok (.iload_n 2, 1) := by decide +kernel
theorem dX11_teach_64 : decode cX11_teach 64 = .ok (.iastore, 1) := by decide +kernel
theorem dX11_teach_65 : decode cX11_teach 65 = .ok (.iload 4, 2) := by decide +kernel
theorem dX11_teach_67 : decode cX11_teach 67 = .ok (.ireturn, 1) := by decide +kernel
theorem dX12_ahead_0 : decode cX12_ahead 0 = .ok (.aload_n 0, 1) := by decide +kernel
theorem dX12_ahead_1 : decode cX12_ahead 1 = .ok (.invokevirtual 294, 3) := by decide +kernel
theorem dX12_ahead_4 : decode cX12_ahead 4 = .ok (.ifCond .eq 40, 3) := by decide +kernel
theorem dX12_ahead_7 : decode cX12_ahead 7 = .ok (.iload_n 2, 1) := by decide +kernel
theorem dX12_ahead_8 : decode cX12_ahead 8 = .ok (.i2l, 1) := by decide +kernel
theorem dX12_ahead_9 : decode cX12_ahead 9 = .ok (.lconst 0, 1) := by decide +kernel
theorem dX12_ahead_10 : decode cX12_ahead 10 = .ok (.ldc2_w 370, 3) := by decide +kernel
theorem dX12_ahead_13 : decode cX12_ahead 13 = .ok (.invokestatic 127, 3) := by decide +kernel
theorem dX12_ahead_16 : decode cX12_ahead 16 = .ok (.ifCond .eq 28, 3) := by decide +kernel
theorem dX12_ahead_19 : decode cX12_ahead 19 = .ok (.iload_n 3, 1) := by decide +kernel
theorem dX12_ahead_20 : decode cX12_ahead 20 = .ok (.i2l, 1) := by decide +kernel
theorem dX12_ahead_21 : decode cX12_ahead 21 = .ok (.lconst 0, 1) := by decide +kernel
theorem dX12_ahead_22 : decode cX12_ahead 22 = .ok (.ldc2_w 312, 3) := by decide +kernel
theorem dX12_ahead_25 : decode cX12_ahead 25 = .ok (.invokestatic 127, 3) := by decide +kernel
theorem dX12_ahead_28 : decode cX12_ahead 28 = .ok (.ifCond .eq 16, 3) := by decide +kernel
theorem dX12_ahead_31 : decode cX12_ahead 31 = .ok (.iload_n 3, 1) := by decide +kernel
theorem dX12_ahead_32 : decode cX12_ahead 32 = .ok (.iconst 2, 1) := by decide +kernel
theorem dX12_ahead_33 : decode cX12_ahead 33 = .ok (.if_icmp .ge 13, 3) := by decide +kernel
theorem dX12_ahead_36 : decode cX12_ahead 36 = .ok (.aload_n 0, 1) := by decide +kernel
theorem dX12_ahead_37 : decode cX12_ahead 37 = .ok (.iload_n 1, 1) := by decide +kernel
theorem dX12_ahead_38 : decode cX12_ahead 38 = .ok (.invokevirtual 314, 3) := by decide +kernel
theorem dX12_ahead_41 : decode cX12_ahead 41 = .ok (.ifCond .ne 5, 3) := by decide +kernel
theorem dX12_ahead_44 : decode cX12_ahead 44 = .ok (.iconst (-1), 1) := by decide +kernel
theorem dX12_ahead_45 : decode cX12_ahead 45 = .ok (.ireturn, 1) := by decide +kernel
theorem dX12_ahead_46 : decode cX12_ahead 46 = .ok (.aload_n 0, 1) := by decide +kernel
theorem dX12_ahead_47 : decode cX12_ahead 47 = .ok (.invokevirtual 372, 3) := by decide +kernel
theorem dX12_ahead_50 : decode cX12_ahead 50 = .ok (.aload_n 0, 1) := by decide +kernel
theorem dX12_ahead_51 : decode cX12_ahead 51 = .ok (.iload_n 2, 1) := by decide +kernel
theorem dX12_ahead_52 : decode cX12_ahead 52 = .ok (.invokevirtual 375, 3) := by decide +kernel
theorem dX12_ahead_55 : decode cX12_ahead 55 = .ok (.iload_n 3, 1) := by decide +kernel
theorem dX12_ahead_56 : decode cX12_ahead 56 = .ok (.ifCond .ne 11, 3) := by decide +kernel
theorem dX12_ahead_59 : decode cX12_ahead 59 = .ok (.aload_n 0, 1) := by decide +kernel
theorem dX12_ahead_60 : decode cX12_ahead 60 = .ok (.iload_n 1, 1) := by decide +kernel
theorem dX12_ahead_61 : decode cX12_ahead 61 = .ok (.invokevirtual 317, 3) := by decide +kernel
theorem dX12_ahead_64 : decode cX12_ahead 64 = .ok (.goto 23, 3) := by decide +kernel
theorem dX12_ahead_67 : decode cX12_ahead 67 = .ok (.iload_n 3, 1) := by decide +kernel
theorem dX12_ahead_68 : decode cX12_ahead 68 = .ok (.iconst 1, 1) := by decide +kernel
theorem dX12_ahead_69 : decode cX12_ahead 69 = .ok (.if_icmp .ne 11, 3) := by decide +kernel
theorem dX12_ahead_72 : decode cX12_ahead 72 = .ok (.aload_n 0, 1) := by decide +kernel
theorem dX12_ahead_73 : decode cX12_ahead 73 = .ok (.iload_n 1, 1) := by decide +kernel
theorem dX12_ahead_74 : decode cX12_ahead 74 = .ok (.invokevirtual 320, 3) := by decide +kernel
theorem dX12_ahead_77 : decode cX12_ahead 77 = .ok (.goto 10, 3) := by decide +kernel
theorem dX12_ahead_80 : decode cX12_ahead 80 = .ok (.aload_n 0, 1) := by decide +kernel
theorem dX12_ahead_81 : decode cX12_ahead 81 = .ok (.getfield 39, 3) := by decide +kernel
theorem dX12_ahead_84 : decode cX12_ahead 84 = .ok (.bipush 12, 2) := by decide +kernel
theorem dX12_ahead_86 : decode cX12_ahead 86 = .ok (.iaload, 1) := by decide +kernel
theorem dX12_ahead_87 : decode cX12_ahead 87 = .ok (.istore 4, 2) := by decide +kernel
theorem dX12_ahead_89 : decode cX12_ahead 89 = .ok (.aload_n 0, 1) := by decide +kernel
theorem dX12_ahead_90 : decode cX12_ahead 90 = .ok (.invokevirtual 378, 3) := by decide +kernel
theorem dX12_ahead_93 : decode cX12_ahead 93 = .ok (.iload 4, 2) := by decide +kernel
theorem dX12_ahead_95 : decode cX12_ahead 95 = .ok (.ireturn, 1) := by decide +kernel
theorem dX12_canBe_0 : decode cX12_canBe 0 = .ok (.aload_n 0, 1) := by decide +kernel
theorem dX12_canBe_1 : decode cX12_canBe 1 = .ok (.getfield 39, 3) := by decide +kernel
theorem dX12_canBe_4 : decode cX12_canBe 4 = .ok (.iload_n 1, 1) := by decide +kernel
theorem dX12_canBe_5 : decode cX12_canBe 5 = .ok (.iaload, 1) := by decide +kernel
theorem dX12_canBe_6 : decode cX12_canBe 6 = .ok (.istore 4, 2) := by decide +kernel
theorem dX12_canBe_8 : decode cX12_canBe 8 = .ok (.iconst 0, 1) := by decide +kernel
theorem dX12_canBe_9 : decode cX12_canBe 9 = .ok (.istore 5, 2) := by decide +kernel
theorem dX12_canBe_11 : decode cX12_canBe 11 = .ok (.aload_n 0, 1) := by decide +kernel
theorem dX12_canBe_12 : decode cX12_canBe 12 = .ok (.invokevirtual 372, 3) := by decide +kernel
theorem dX12_canBe_15 : decode cX12_canBe 15 = .ok (.iload_n 2, 1) := by decide +kernel
theorem dX12_canBe_16 : decode cX12_canBe 16 = .ok (.istore 6, 2) := by decide +kernel
theorem dX12_canBe_18 : decode cX12_canBe 18 = .ok (.iload 6, 2) := by decide +kernel
theorem dX12_canBe_20 : decode cX12_canBe 20 = .ok (.iload_n 3, 1) := by decide +kernel
theorem dX12_canBe_21 : decode cX12_canBe 21 = .ok (.if_icmp .gt 39, 3) := by decide +kernel
theorem dX12_canBe_24 : decode cX12_canBe 24 = .ok (.aload_n 0, 1) := by decide +kernel
theorem dX12_canBe_25 : decode cX12_canBe 25 = .ok (.getfield 39, 3) := by decide +kernel
theorem dX12_canBe_28 : decode cX12_canBe 28 = .ok (.iload_n 1, 1) := by decide +kernel
theorem dX12_canBe_29 : decode cX12_canBe 29 = .ok (.iload 6, 2) := by decide +kernel
theorem dX12_canBe_31 : decode cX12_canBe 31 = .ok (.iastore, 1) := by decide +kernel
theorem dX12_canBe_32 : decode cX12_canBe 32 = .ok (.aload_n 0, 1) := by decide +kernel
theorem dX12_canBe_33 : decode cX12_canBe 33 = .ok (.invokevirtual 273, 3) := by decide +kernel
theorem dX12_canBe_36 : decode cX12_canBe 36 = .ok (.aload_n 0, 1) := by decide +kernel
theorem dX12_canBe_37 : decode cX12_canBe 37 = .ok (.iconst 0, 1) := by decide +kernel
theorem dX12_canBe_38 : decode cX12_canBe 38 = .ok (.iconst (-1), 1) := by decide +kernel
theorem dX12_canBe_39 : decode cX12_canBe 39 = .ok (.invokevirtual 429, 3) := by decide +kernel
theorem dX12_canBe_42 : decode cX12_canBe 42 = .ok (.ifCond .eq 12, 3) := by decide +kernel
theorem dX12_canBe_45 : decode cX12_canBe 45 = .ok (.iload 5, 2) := by decide +kernel
theorem dX12_canBe_47 : decode cX12_canBe 47 = .ok (.iconst 1, 1) := by decide +kernel
theorem dX12_canBe_48 : decode cX12_canBe 48 = .ok (.iload 6, 2) := by decide +kernel
theorem dX12_canBe_50 : decode cX12_canBe 50 = .ok (.ishl, 1) := by decide +kernel
theorem dX12_canBe_51 : decode cX12_canBe 51 = .ok (.ior, 1) := by decide +kernel
theorem dX12_canBe_52 : decode cX12_canBe 52 = .ok (.istore 5, 2) := by decide +kernel
theorem dX12_canBe_54 : decode cX12_canBe 54 = .ok (.iinc 6 1, 3) := by decide +kernel
theorem dX12_canBe_57 : decode cX12_canBe 57 = .ok (.goto (-39), 3) := by decide +kernel
theorem dX12_canBe_60 : decode cX12_canBe 60 = .ok (.aload_n 0, 1) := by decide +kernel
theorem dX12_canBe_61 : decode cX12_canBe 61 = .ok (.getfield 39, 3) := by decide +kernel
theorem dX12_canBe_64 : decode cX12_canBe 64 = .ok (.iload_n 1, 1) := by decide +kernel
theorem dX12_canBe_65 : decode cX12_canBe 65 = .ok (.iload 4, 2) := by decide +kernel
theorem dX12_canBe_67 : decode cX12_canBe 67 = .ok (.iastore, 1) := by decide +kernel
theorem dX12_canBe_68 : decode cX12_canBe 68 = .ok (.aload_n 0, 1) := by decide +kernel
theorem dX12_canBe_69 : decode cX12_canBe 69 = .ok (.invokevirtual 378, 3) := by decide +kernel
theorem dX12_canBe_72 : decode cX12_canBe 72 = .ok (.iload 5, 2) := by decide +kernel
theorem dX12_canBe_74 : decode cX12_canBe 74 = .ok (.ireturn, 1) := by decide +kernel
theorem dX12_count_0 : decode cX12_count 0 = .ok (.iload_n 1, 1) := by decide +kernel
theorem dX12_count_1 : decode cX12_count 1 = .ok (.tableswitch 171 0 15 #[79, 79, 88, 93, 93, 102, 107, 112, 120, 128, 134, 140, 148, 156, 161, 166], 79) := by decide +kernel
theorem dX12_count_80 : decode cX12_count 80 = .ok (.aload_n 0, 1) := by decide +kernel
theorem dX12_count_81 : decode cX12_count 81 = .ok (.getfield 39, 3) := by decide +kernel
theorem dX12_count_84 : decode cX12_count 84 = .ok (.iload_n 1, 1) := by decide +kernel
theorem dX12_count_85 : decode cX12_count 85 = .ok (.iconst 1, 1) := by decide +kernel
theorem dX12_count_86 : decode cX12_count 86 = .ok (.iadd, 1) := by decide +kernel
theorem dX12_count_87 : decode cX12_count 87 = .ok (.iaload, 1) := by decide +kernel
theorem dX12_count_88 : decode cX12_count 88 = .ok (.ireturn, 1) := by decide +kernel
theorem dX12_count_89 : decode cX12_count 89 = .ok (.aload_n 0, 1) := by decide +kernel
theorem dX12_count_90 : decode cX12_count 90 = .ok (.invokevirtual 323, 3) := by decide +kernel
theorem dX12_count_93 : decode cX12_count 93 = .ok (.ireturn, 1) := by decide +kernel
theorem dX12_count_94 : decode cX12_count 94 = .ok (.aload_n 0, 1) := by decide +kernel
theorem dX12_count_95 : decode cX12_count 95 = .ok (.getfield 39, 3) := by decide +kernel
theorem dX12_count_98 : decode cX12_count 98 = .ok (.iload_n 1, 1) := by decide +kernel
theorem dX12_count_99 : decode cX12_count 99 = .ok (.iconst 1, 1) := by decide +kernel
theorem dX12_count_100 : decode cX12_count 100 = .ok (.iadd, 1) := by decide +kernel
theorem dX12_count_101 : decode cX12_count 101 = .ok (.iaload, 1) := by decide +kernel
theorem dX12_count_102 : decode cX12_count 102 = .ok (.ireturn, 1) := by decide +kernel
theorem dX12_count_103 : decode cX12_count 103 = .ok (.aload_n 0, 1) := by decide +kernel
theorem dX12_count_104 : decode cX12_count 104 = .ok (.getfield 267, 3) := by decide +kernel
theorem dX12_count_107 : decode cX12_count 107 = .ok (.ireturn, 1) := by decide +kernel
theorem dX12_count_108 : decode cX12_count 108 = .ok (.aload_n 0, 1) := by decide +kernel
theorem dX12_count_109 : decode cX12_count 109 = .ok (.getfield 42, 3) := by decide +kernel
theorem dX12_count_112 : decode cX12_count 112 = .ok (.ireturn, 1) := by decide +kernel
theorem dX12_count_113 : decode cX12_count 113 = .ok (.aload_n 0, 1) := by decide +kernel
theorem dX12_count_114 : decode cX12_count 114 = .ok (.getfield 39, 3) := by decide +kernel
theorem dX12_count_117 : decode cX12_count 117 = .ok (.bipush 10, 2) := by decide +kernel
theorem dX12_count_119 : decode cX12_count 119 = .ok (.iaload, 1) := by decide +kernel
theorem dX12_count_120 : decode cX12_count 120 = .ok (.ireturn, 1) := by decide +kernel
theorem dX12_count_121 : decode cX12_count 121 = .ok (.aload_n 0, 1) := by decide +kernel
theorem dX12_count_122 : decode cX12_count 122 = .ok (.getfield 39, 3) := by decide +kernel
theorem dX12_count_125 : decode cX12_count 125 = .ok (.bipush 11, 2) := by decide +kernel
theorem dX12_count_127 : decode cX12_count 127 = .ok (.iaload, 1) := by decide +kernel
theorem dX12_count_128 : decode cX12_count 128 = .ok (.ireturn, 1) := by decide +kernel
theorem dX12_count_129 : decode cX12_count 129 = .ok (.aload_n 0, 1) := by decide +kernel
theorem dX12_count_130 : decode cX12_count 130 = .ok (.iconst 1, 1) := by decide +kernel
theorem dX12_count_131 : decode cX12_count 131 = .ok (.invokevirtual 381, 3) := by decide +kernel
theorem dX12_count_134 : decode cX12_count 134 = .ok (.ireturn, 1) := by decide +kernel
theorem dX12_count_135 : decode cX12_count 135 = .ok (.aload_n 0, 1) := by decide +kernel
theorem dX12_count_136 : decode cX12_count 136 = .ok (.iconst 2, 1) := by decide +kernel
theorem dX12_count_137 : decode cX12_count 137 = .ok (.invokevirtual 381, 3) := by decide +kernel
theorem dX12_count_140 : decode cX12_count 140 = .ok (.ireturn, 1) := by decide +kernel
theorem dX12_count_141 : decode cX12_count 141 = .ok (.aload_n 0, 1) := by decide +kernel
theorem dX12_count_142 : decode cX12_count 142 = .ok (.getfield 39, 3) := by decide +kernel
theorem dX12_count_145 : decode cX12_count 145 = .ok (.bipush 12, 2) := by decide +kernel
theorem dX12_count_147 : decode cX12_count 147 = .ok (.iaload, 1) := by decide +kernel
theorem dX12_count_148 : decode cX12_count 148 = .ok (.ireturn, 1) := by decide +kernel
theorem dX12_count_149 : decode cX12_count 149 = .ok (.aload_n 0, 1) := by decide +kernel
theorem dX12_count_150 : decode cX12_count 150 = .ok (.getfield 39, 3) := by decide +kernel
theorem dX12_count_153 : decode cX12_count 153 = .ok (.bipush 114, 2) := by decide +kernel
theorem dX12_count_155 : decode cX12_count 155 = .ok (.iaload, 1) := by decide +kernel
theorem dX12_count_156 : decode cX12_count 156 = .ok (.ireturn, 1) := by decide +kernel
theorem dX12_count_157 : decode cX12_count 157 = .ok (.aload_n 0, 1) := by decide +kernel
theorem dX12_count_158 : decode cX12_count 158 = .ok (.getfield 276, 3) := by decide +kernel
theorem dX12_count_161 : decode cX12_count 161 = .ok (.ireturn, 1) := by decide +kernel
theorem dX12_count_162 : decode cX12_count 162 = .ok (.aload_n 0, 1) := by decide +kernel
theorem dX12_count_163 : decode cX12_count 163 = .ok (.getfield 442, 3) := by decide +kernel
theorem dX12_count_166 : decode cX12_count 166 = .ok (.ireturn, 1) := by decide +kernel
theorem dX12_count_167 : decode cX12_count 167 = .ok (.aload_n 0, 1) := by decide +kernel
theorem dX12_count_168 : decode cX12_count 168 = .ok (.getfield 89, 3) := by decide +kernel
theorem dX12_count_171 : decode cX12_count 171 = .ok (.ireturn, 1) := by decide +kernel
theorem dX12_count_172 : decode cX12_count 172 = .ok (.iconst (-1), 1) := by decide +kernel
theorem dX12_count_173 : decode cX12_count 173 = .ok (.ireturn, 1) := by decide +kernel
theorem dX12_eased_0 : decode cX12_eased 0 = .ok (.aload_n 0, 1) := by decide +kernel
theorem dX12_eased_1 : decode cX12_eased 1 = .ok (.iload_n 1, 1) := by decide +kernel
theorem dX12_eased_2 : decode cX12_eased 2 = .ok (.invokevirtual 314, 3) := by decide +kernel
theorem dX12_eased_5 : decode cX12_eased 5 = .ok (.ifCond .eq 11, 3) := by decide +kernel
theorem dX12_eased_8 : decode cX12_eased 8 = .ok (.aload_n 0, 1) := by decide +kernel
theorem dX12_eased_9 : decode cX12_eased 9 = .ok (.iload_n 1, 1) := by decide +kernel
theorem dX12_eased_10 : decode cX12_eased 10 = .ok (.invokevirtual 384, 3) := by decide +kernel
theorem dX12_eased_13 : decode cX12_eased 13 = .ok (.goto 4, 3) := by decide +kernel
theorem dX12_eased_16 : decode cX12_eased 16 = .ok (.iconst (-1), 1) := by decide +kernel
theorem dX12_eased_17 : decode cX12_eased 17 = .ok (.ireturn, 1) := by decide +kernel
theorem dX12_fails_0 : decode cX12_fails 0 = .ok (.aload_n 0, 1) := by decide +kernel
theorem dX12_fails_1 : decode cX12_fails 1 = .ok (.getfield 96, 3) := by decide +kernel
theorem dX12_fails_4 : decode cX12_fails 4 = .ok (.ifCond .ne 15, 3) := by decide +kernel
theorem dX12_fails_7 : decode cX12_fails 7 = .ok (.aload_n 0, 1) := by decide +kernel
theorem dX12_fails_8 : decode cX12_fails 8 = .ok (.iconst 1, 1) := by decide +kernel
theorem dX12_fails_9 : decode cX12_fails 9 = .ok (.bipush 8, 2) := by decide +kernel
theorem dX12_fails_11 : decode cX12_fails 11 = .ok (.iload_n 2, 1) := by decide +kernel
theorem dX12_fails_12 : decode cX12_fails 12 = .ok (.imul, 1) := by decide +kernel
theorem dX12_fails_13 : decode cX12_fails 13 = .ok (.iadd, 1) := by decide +kernel
theorem dX12_fails_14 : decode cX12_fails 14 = .ok (.iload_n 1, 1) := by decide +kernel
theorem dX12_fails_15 : decode cX12_fails 15 = .ok (.iadd, 1) := by decide +kernel
theorem dX12_fails_16 : decode cX12_fails 16 = .ok (.putfield 96, 3) := by decide +kernel
theorem dX12_fails_19 : decode cX12_fails 19 = .ok (.iconst 0, 1) := by decide +kernel
theorem dX12_fails_20 : decode cX12_fails 20 = .ok (.ireturn, 1) := by decide +kernel
theorem dX12_force_0 : decode cX12_force 0 = .ok (.iload_n 1, 1) := by decide +kernel
theorem dX12_force_1 : decode cX12_force 1 = .ok (.iconst (-1), 1) := by decide +kernel
theorem dX12_force_2 : decode cX12_force 2 = .ok (.if_icmp .eq 14, 3) := by decide +kernel
theorem dX12_force_5 : decode cX12_force 5 = .ok (.aload_n 0, 1) := by decide +kernel
theorem dX12_force_6 : decode cX12_force 6 = .ok (.iload_n 1, 1) := by decide +kernel
theorem dX12_force_7 : decode cX12_force 7 = .ok (.invokevirtual 306, 3) := by decide +kernel
theorem dX12_force_10 : decode cX12_force 10 = .ok (.ifCond .ne 6, 3) := by decide +kernel
theorem dX12_force_13 : decode cX12_force 13 = .ok (.bipush (-2), 2) := by decide +kernel
theorem dX12_force_15 : decode cX12_force 15 = .ok (.ireturn, 1) := by decide +kernel
theorem dX12_force_16 : decode cX12_force 16 = .ok (.aload_n 0, 1) := by decide +kernel
theorem dX12_force_17 : decode cX12_force 17 = .ok (.getfield 42, 3) := by decide +kernel
theorem dX12_force_20 : decode cX12_force 20 = .ok (.istore_n 2, 1) := by decide +kernel
theorem dX12_force_21 : decode cX12_force 21 = .ok (.aload_n 0, 1) := by decide +kernel
theorem dX12_force_22 : decode cX12_force 22 = .ok (.iload_n 1, 1) := by decide +kernel
theorem dX12_force_23 : decode cX12_force 23 = .ok (.putfield 42, 3) := by decide +kernel
theorem dX12_force_26 : decode cX12_force 26 = .ok (.iload_n 2, 1) := by decide +kernel
theorem dX12_force_27 : decode cX12_force 27 = .ok (.ireturn, 1) := by decide +kernel
theorem dX12_given_0 : decode cX12_given 0 = .ok (.aload_n 0, 1) := by decide +kernel
theorem dX12_given_1 : decode cX12_given 1 = .ok (.invokevirtual 294, 3) := by decide +kernel
theorem dX12_given_4 : decode cX12_given 4 = .ok (.ifCond .eq 25, 3) := by decide +kernel
theorem dX12_given_7 : decode cX12_given 7 = .ok (.iload_n 1, 1) := by decide +kernel
theorem dX12_given_8 : decode cX12_given 8 = .ok (.i2l, 1) := by decide +kernel
theorem dX12_given_9 : decode cX12_given 9 = .ok (.lconst 1, 1) := by decide +kernel
theorem dX12_given_10 : decode cX12_given 10 = .ok (.ldc2_w 404, 3) := by decide +kernel
theorem dX12_given_13 : decode cX12_given 13 = .ok (.invokestatic 127, 3) := by decide +kernel
theorem dX12_given_16 : decode cX12_given 16 = .ok (.ifCond .eq 13, 3) := by decide +kernel
theorem dX12_given_19 : decode cX12_given 19 = .ok (.iload_n 2, 1) := by decide +kernel
theorem dX12_given_20 : decode cX12_given 20 = .ok (.i2l, 1) := by decide +kernel
theorem dX12_given_21 : decode cX12_given 21 = .ok (.lconst 0, 1) := by decide +kernel
theorem dX12_given_22 : decode cX12_given 22 = .ok (.lconst 1, 1) := by decide +kernel
theorem dX12_given_23 : decode cX12_given 23 = .ok (.invokestatic 127, 3) := by decide +kernel
theorem dX12_given_26 : decode cX12_given 26 = .ok (.ifCond .ne 6, 3) := by decide +kernel
theorem dX12_given_29 : decode cX12_given 29 = .ok (.bipush (-2), 2) := by decide +kernel
theorem dX12_given_31 : decode cX12_given 31 = .ok (.ireturn, 1) := by decide +kernel
theorem dX12_given_32 : decode cX12_given 32 = .ok (.aload_n 0, 1) := by decide +kernel
theorem dX12_given_33 : decode cX12_given 33 = .ok (.invokevirtual 372, 3) := by decide +kernel
theorem dX12_given_36 : decode cX12_given 36 = .ok (.iconst (-1), 1) := by decide +kernel
theorem dX12_given_37 : decode cX12_given 37 = .ok (.istore_n 3, 1) := by decide +kernel
theorem dX12_given_38 : decode cX12_given 38 = .ok (.aload_n 0, 1) := by decide +kernel
theorem dX12_given_39 : decode cX12_given 39 = .ok (.iload_n 1, 1) := by decide +kernel
theorem dX12_given_40 : decode cX12_given 40 = .ok (.invokevirtual 406, 3) := by decide +kernel
theorem dX12_given_43 : decode cX12_given 43 = .ok (.istore 4, 2) := by decide +kernel
theorem dX12_given_45 : decode cX12_given 45 = .ok (.iconst 0, 1) := by decide +kernel
theorem dX12_given_46 : decode cX12_given 46 = .ok (.istore 5, 2) := by decide +kernel
theorem dX12_given_48 : decode cX12_given 48 = .ok (.iload 5, 2) := by decide +kernel
theorem dX12_given_50 : decode cX12_given 50 = .ok (.aload_n 0, 1) := by decide +kernel
theorem dX12_given_51 : decode cX12_given 51 = .ok (.getfield 39, 3) := by decide +kernel
theorem dX12_given_54 : decode cX12_given 54 = .ok (.iconst 5, 1) := by decide +kernel
theorem dX12_given_55 : decode cX12_given 55 = .ok (.iaload, 1) := by decide +kernel
theorem dX12_given_56 : decode cX12_given 56 = .ok (.if_icmp .ge 39, 3) := by decide +kernel
theorem dX12_given_59 : decode cX12_given 59 = .ok (.aload_n 0, 1) := by decide +kernel
theorem dX12_given_60 : decode cX12_given 60 = .ok (.iload 5, 2) := by decide +kernel
theorem dX12_given_62 : decode cX12_given 62 = .ok (.invokevirtual 409, 3) := by decide +kernel
theorem dX12_given_65 : decode cX12_given 65 = .ok (.aload_n 0, 1) := by decide +kernel
theorem dX12_given_66 : decode cX12_given 66 = .ok (.iload_n 1, 1) := by decide +kernel
theorem dX12_given_67 : decode cX12_given 67 = .ok (.invokevirtual 406, 3) := by decide +kernel
theorem dX12_given_70 : decode cX12_given 70 = .ok (.istore 6, 2) := by decide +kernel
theorem dX12_given_72 : decode cX12_given 72 = .ok (.iload 6, 2) := by decide +kernel
theorem dX12_given_74 : decode cX12_given 74 = .ok (.iload 4, 2) := by decide +kernel
theorem dX12_given_76 : decode cX12_given 76 = .ok (.if_icmp .gt 6, 3) := by decide +kernel
theorem dX12_given_79 : decode cX12_given 79 = .ok (.goto 10, 3) := by decide +kernel
theorem dX12_given_82 : decode cX12_given 82 = .ok (.iload 5, 2) := by decide +kernel
theorem dX12_given_84 : decode cX12_given 84 = .ok (.istore_n 3, 1) := by decide +kernel
theorem dX12_given_85 : decode cX12_given 85 = .ok (.iload 6, 2) := by decide +kernel
theorem dX12_given_87 : decode cX12_given 87 = .ok (.istore 4, 2) := by decide +kernel
theorem dX12_given_89 : decode cX12_given 89 = .ok (.iinc 5 1, 3) := by decide +kernel
theorem dX12_given_92 : decode cX12_given 92 = .ok (.goto (-44), 3) := by decide +kernel
theorem dX12_given_95 : decode cX12_given 95 = .ok (.iload_n 2, 1) := by decide +kernel
theorem dX12_given_96 : decode cX12_given 96 = .ok (.ifCond .ne 7, 3) := by decide +kernel
theorem dX12_given_99 : decode cX12_given 99 = .ok (.iload_n 3, 1) := by decide +kernel
theorem dX12_given_100 : decode cX12_given 100 = .ok (.goto 5, 3) := by decide +kernel
theorem dX12_given_103 : decode cX12_given 103 = .ok (.iload 4, 2) := by decide +kernel
theorem dX12_given_105 : decode cX12_given 105 = .ok (.ireturn, 1) := by decide +kernel
theorem dX12_green_0 : decode cX12_green 0 = .ok (.aload_n 0, 1) := by decide +kernel
theorem dX12_green_1 : decode cX12_green 1 = .ok (.bipush 6, 2) := by decide +kernel
theorem dX12_green_3 : decode cX12_green 3 = .ok (.putfield 157, 3) := by decide +kernel
theorem dX12_green_6 : decode cX12_green 6 = .ok (.iconst 0, 1) := by decide +kernel
theorem dX12_green_7 : decode cX12_green 7 = .ok (.istore_n 1, 1) := by decide +kernel
theorem dX12_green_8 : decode cX12_green 8 = .ok (.iload_n 1, 1) := by decide +kernel
theorem dX12_green_9 : decode cX12_green 9 = .ok (.bipush 84, 2) := by decide +kernel
theorem dX12_green_11 : decode cX12_green 11 = .ok (.if_icmp .ge 16, 3) := by decide +kernel
theorem dX12_green_14 : decode cX12_green 14 = .ok (.aload_n 0, 1) := by decide +kernel
theorem dX12_green_15 : decode cX12_green 15 = .ok (.getfield 26, 3) := by decide +kernel
theorem dX12_green_18 : decode cX12_green 18 = .ok (.iload_n 1, 1) := by decide +kernel
theorem dX12_green_19 : decode cX12_green 19 = .ok (.iconst 0, 1) := by decide +kernel
theorem dX12_green_20 : decode cX12_green 20 = .ok (.iastore, 1) := by decide +kernel
theorem dX12_green_21 : decode cX12_green 21 = .ok (.iinc 1 1, 3) := by decide +kernel
theorem dX12_green_24 : decode cX12_green 24 = .ok (.goto (-16), 3) := by decide +kernel
theorem dX12_green_27 : decode cX12_green 27 = .ok (.aload_n 0, 1) := by decide +kernel
theorem dX12_green_28 : decode cX12_green 28 = .ok (.invokevirtual 270, 3) := by decide +kernel
theorem dX12_green_31 : decode cX12_green 31 = .ok (.ifCond .ne 11, 3) := by decide +kernel
theorem dX12_green_34 : decode cX12_green 34 = .ok (.bipush (-2), 2) := by decide +kernel
theorem dX12_green_36 : decode cX12_green 36 = .ok (.aload_n 0, 1) := by decide +kernel
theorem dX12_green_37 : decode cX12_green 37 = .ok (.getfield 96, 3) := by decide +kernel
theorem dX12_green_40 : decode cX12_green 40 = .ok (.isub, 1) := by decide +kernel
theorem dX12_green_41 : decode cX12_green 41 = .ok (.ireturn, 1) := by decide +kernel
theorem dX12_green_42 : decode cX12_green 42 = .ok (.iconst 0, 1) := by decide +kernel
theorem dX12_green_43 : decode cX12_green 43 = .ok (.istore_n 1, 1) := by decide +kernel
theorem dX12_green_44 : decode cX12_green 44 = .ok (.iload_n 1, 1) := by decide +kernel
theorem dX12_green_45 : decode cX12_green 45 = .ok (.bipush 115, 2) := by decide +kernel
theorem dX12_green_47 : decode cX12_green 47 = .ok (.if_icmp .ge 31, 3) := by decide +kernel
theorem dX12_green_50 : decode cX12_green 50 = .ok (.aload_n 0, 1) := by decide +kernel
theorem dX12_green_51 : decode cX12_green 51 = .ok (.getfield 39, 3) := by decide +kernel
theorem dX12_green_54 : decode cX12_green 54 = .ok (.iload_n 1, 1) := by decide +kernel
theorem dX12_green_55 : decode cX12_green 55 = .ok (.iload_n 1, 1) := by decide +kernel
theorem dX12_green_56 : decode cX12_green 56 = .ok (.bipush 84, 2) := by decide +kernel
theorem dX12_green_58 : decode cX12_green 58 = .ok (.if_icmp .ge 12, 3) := by decide +kernel
theorem dX12_green_61 : decode cX12_green 61 = .ok (.aload_n 0, 1) := by decide +kernel
theorem dX12_green_62 : decode cX12_green 62 = .ok (.getfield 26, 3) := by decide +kernel
theorem dX12_green_65 : decode cX12_green 65 = .ok (.iload_n 1, 1) := by decide +kernel
theorem dX12_green_66 : decode cX12_green 66 = .ok (.iaload, 1) := by decide +kernel
theorem dX12_green_67 : decode cX12_green 67 = .ok (.goto 4, 3) := by decide +kernel
theorem dX12_green_70 : decode cX12_green 70 = .ok (.iconst 0, 1) := by decide +kernel
theorem dX12_green_71 : decode cX12_green 71 = .ok (.iastore, 1) := by decide +kernel
theorem dX12_green_72 : decode cX12_green 72 = .ok (.iinc 1 1, 3) := by decide +kernel
theorem dX12_green_75 : decode cX12_green 75 = .ok (.goto (-31), 3) := by decide +kernel
theorem dX12_green_78 : decode cX12_green 78 = .ok (.aload_n 0, 1) := by decide +kernel
theorem dX12_green_79 : decode cX12_green 79 = .ok (.invokevirtual 273, 3) := by decide +kernel
theorem dX12_green_82 : decode cX12_green 82 = .ok (.aload_n 0, 1) := by decide +kernel
theorem dX12_green_83 : decode cX12_green 83 = .ok (.iconst 0, 1) := by decide +kernel
theorem dX12_green_84 : decode cX12_green 84 = .ok (.putfield 276, 3) := by decide +kernel
theorem dX12_green_87 : decode cX12_green 87 = .ok (.aload_n 0, 1) := by decide +kernel
theorem dX12_green_88 : decode cX12_green 88 = .ok (.getfield 39, 3) := by decide +kernel
theorem dX12_green_91 : decode cX12_green 91 = .ok (.iconst 5, 1) := by decide +kernel
theorem dX12_green_92 : decode cX12_green 92 = .ok (.iaload, 1) := by decide +kernel
theorem dX12_green_93 : decode cX12_green 93 = .ok (.ireturn, 1) := by decide +kernel
theorem dX12_gusts_0 : decode cX12_gusts 0 = .ok (.aload_n 0, 1) := by decide +kernel
theorem dX12_gusts_1 : decode cX12_gusts 1 = .ok (.invokevirtual 294, 3) := by decide +kernel
theorem dX12_gusts_4 : decode cX12_gusts 4 = .ok (.ifCond .eq 50, 3) := by decide +kernel
theorem dX12_gusts_7 : decode cX12_gusts 7 = .ok (.iload_n 1, 1) := by decide +kernel
theorem dX12_gusts_8 : decode cX12_gusts 8 = .ok (.i2l, 1) := by decide +kernel
theorem dX12_gusts_9 : decode cX12_gusts 9 = .ok (.lconst 1, 1) := by decide +kernel
theorem dX12_gusts_10 : decode cX12_gusts 10 = .ok (.ldc2_w 457, 3) := by decide +kernel
theorem dX12_gusts_13 : decode cX12_gusts 13 = .ok (.invokestatic 127, 3) := by decide +kernel
theorem dX12_gusts_16 : decode cX12_gusts 16 = .ok (.ifCond .eq 38, 3) := by decide +kernel
theorem dX12_gusts_19 : decode cX12_gusts 19 = .ok (.iload_n 2, 1) := by decide +kernel
theorem dX12_gusts_20 : decode cX12_gusts 20 = .ok (.i2l, 1) := by decide +kernel
theorem dX12_gusts_21 : decode cX12_gusts 21 = .ok (.lconst 1, 1) := by decide +kernel
theorem dX12_gusts_22 : decode cX12_gusts 22 = .ok (.ldc2_w 404, 3) := by decide +kernel
theorem dX12_gusts_25 : decode cX12_gusts 25 = .ok (.invokestatic 127, 3) := by decide +kernel
theorem dX12_gusts_28 : decode cX12_gusts 28 = .ok (.ifCond .eq 26, 3) := by decide +kernel
theorem dX12_gusts_31 : decode cX12_gusts 31 = .ok (.iload_n 3, 1) := by decide +kernel
theorem dX12_gusts_32 : decode cX12_gusts 32 = .ok (.i2l, 1) := by decide +kernel
theorem dX12_gusts_33 : decode cX12_gusts 33 = .ok (.lconst 0, 1) := by decide +kernel
theorem dX12_gusts_34 : decode cX12_gusts 34 = .ok (.ldc2_w 370, 3) := by decide +kernel
theorem dX12_gusts_37 : decode cX12_gusts 37 = .ok (.invokestatic 127, 3) := by decide +kernel
theorem dX12_gusts_40 : decode cX12_gusts 40 = .ok (.ifCond .eq 14, 3) := by decide +kernel
theorem dX12_gusts_43 : decode cX12_gusts 43 = .ok (.iload 4, 2) := by decide +kernel
theorem dX12_gusts_45 : decode cX12_gusts 45 = .ok (.i2l, 1) := by decide +kernel
theorem dX12_gusts_46 : decode cX12_gusts 46 = .ok (.lconst 0, 1) := by decide +kernel
theorem dX12_gusts_47 : decode cX12_gusts 47 = .ok (.lconst 1, 1) := by decide +kernel
theorem dX12_gusts_48 : decode cX12_gusts 48 = .ok (.invokestatic 127, 3) := by decide +kernel
theorem dX12_gusts_51 : decode cX12_gusts 51 = .ok (.ifCond .ne 5, 3) := by decide +kernel
theorem dX12_gusts_54 : decode cX12_gusts 54 = .ok (.iconst (-1), 1) := by decide +kernel
theorem dX12_gusts_55 : decode cX12_gusts 55 = .ok (.ireturn, 1) := by decide +kernel
theorem dX12_gusts_56 : decode cX12_gusts 56 = .ok (.aload_n 0, 1) := by decide +kernel
theorem dX12_gusts_57 : decode cX12_gusts 57 = .ok (.aload_n 0, 1) := by decide +kernel
theorem dX12_gusts_58 : decode cX12_gusts 58 = .ok (.getfield 442, 3) := by decide +kernel
theorem dX12_gusts_61 : decode cX12_gusts 61 = .ok (.i2l, 1) := by decide +kernel
theorem dX12_gusts_62 : decode cX12_gusts 62 = .ok (.putfield 445, 3) := by decide +kernel
theorem dX12_gusts_65 : decode cX12_gusts 65 = .ok (.iconst 0, 1) := by decide +kernel
theorem dX12_gusts_66 : decode cX12_gusts 66 = .ok (.istore 5, 2) := by decide +kernel
theorem dX12_gusts_68 : decode cX12_gusts 68 = .ok (.iconst 0, 1) := by decide +kernel
theorem dX12_gusts_69 : decode cX12_gusts 69 = .ok (.istore 6, 2) := by decide +kernel
theorem dX12_gusts_71 : decode cX12_gusts 71 = .ok (.aload_n 0, 1) := by decide +kernel
theorem dX12_gusts_72 : decode cX12_gusts 72 = .ok (.iconst 1, 1) := by decide +kernel
theorem dX12_gusts_73 : decode cX12_gusts 73 = .ok (.invokevirtual 381, 3) := by decide +kernel
theorem dX12_gusts_76 : decode cX12_gusts 76 = .ok (.istore 7, 2) := by decide +kernel
theorem dX12_gusts_78 : decode cX12_gusts 78 = .ok (.aload_n 0, 1) := by decide +kernel
theorem dX12_gusts_79 : decode cX12_gusts 79 = .ok (.invokevirtual 372, 3) := by decide +kernel
theorem dX12_gusts_82 : decode cX12_gusts 82 = .ok (.iconst 0, 1) := by decide +kernel
theorem dX12_gusts_83 : decode cX12_gusts 83 = .ok (.istore 8, 2) := by decide +kernel
theorem dX12_gusts_85 : decode cX12_gusts 85 = .ok (.iload 8, 2) := by decide +kernel
theorem dX12_gusts_87 : decode cX12_gusts 87 = .ok (.iload_n 1, 1) := by decide +kernel
theorem dX12_gusts_88 : decode cX12_gusts 88 = .ok (.if_icmp .ge 78, 3) := by decide +kernel
theorem dX12_gusts_91 : decode cX12_gusts 91 = .ok (.iconst 0, 1) := by decide +kernel
theorem dX12_gusts_92 : decode cX12_gusts 92 = .ok (.istore 9, 2) := by decide +kernel
theorem dX12_gusts_94 : decode cX12_gusts 94 = .ok (.iload 9, 2) := by decide +kernel
theorem dX12_gusts_96 : decode cX12_gusts 96 = .ok (.iload_n 2, 1) := by decide +kernel
theorem dX12_gusts_97 : decode cX12_gusts 97 = .ok (.if_icmp .ge 34, 3) := by decide +kernel
theorem dX12_gusts_100 : decode cX12_gusts 100 = .ok (.aload_n 0, 1) := by decide +kernel
theorem dX12_gusts_101 : decode cX12_gusts 101 = .ok (.bipush 100, 2) := by decide +kernel
theorem dX12_gusts_103 : decode cX12_gusts 103 = .ok (.invokevirtual 459, 3) := by decide +kernel
theorem dX12_gusts_106 : decode cX12_gusts 106 = .ok (.iload_n 3, 1) := by decide +kernel
theorem dX12_gusts_107 : decode cX12_gusts 107 = .ok (.if_icmp .ge 13, 3) := by decide +kernel
theorem dX12_gusts_110 : decode cX12_gusts 110 = .ok (.aload_n 0, 1) := by decide +kernel
theorem dX12_gusts_111 : decode cX12_gusts 111 = .ok (.aload_n 0, 1) := by decide +kernel
theorem dX12_gusts_112 : decode cX12_gusts 112 = .ok (.bipush 9, 2) := by decide +kernel
theorem dX12_gusts_114 : decode cX12_gusts 114 = .ok (.invokevirtual 459, 3) := by decide +kernel
theorem dX12_gusts_117 : decode cX12_gusts 117 = .ok (.putfield 46, 3) := by decide +kernel
theorem dX12_gusts_120 : decode cX12_gusts 120 = .ok (.aload_n 0, 1) := by decide +kernel
theorem dX12_gusts_121 : decode cX12_gusts 121 = .ok (.invokevirtual 360, 3) := by decide +kernel
theorem dX12_gusts_124 : decode cX12_gusts 124 = .ok (.pop, 1) := by decide +kernel
theorem dX12_gusts_125 : decode cX12_gusts 125 = .ok (.iinc 9 1, 3) := by decide +kernel
theorem dX12_gusts_128 : decode cX12_gusts 128 = .ok (.goto (-34), 3) := by decide +kernel
theorem dX12_gusts_131 : decode cX12_gusts 131 = .ok (.iload 5, 2) := by decide +kernel
theorem dX12_gusts_133 : decode cX12_gusts 133 = .ok (.iload 7, 2) := by decide +kernel
theorem dX12_gusts_135 : decode cX12_gusts 135 = .ok (.aload_n 0, 1) := by decide +kernel
theorem dX12_gusts_136 : decode cX12_gusts 136 = .ok (.iconst 1, 1) := by decide +kernel
theorem dX12_gusts_137 : decode cX12_gusts 137 = .ok (.invokevirtual 381, 3) := by decide +kernel
theorem dX12_gusts_140 : decode cX12_gusts 140 = .ok (.isub, 1) := by decide +kernel
theorem dX12_gusts_141 : decode cX12_gusts 141 = .ok (.iadd, 1) := by decide +kernel
theorem dX12_gusts_142 : decode cX12_gusts 142 = .ok (.istore 5, 2) := by decide +kernel
theorem dX12_gusts_144 : decode cX12_gusts 144 = .ok (.iload 6, 2) := by decide +kernel
theorem dX12_gusts_146 : decode cX12_gusts 146 = .ok (.aload_n 0, 1) := by decide +kernel
theorem dX12_gusts_147 : decode cX12_gusts 147 = .ok (.getfield 39, 3) := by decide +kernel
theorem dX12_gusts_150 : decode cX12_gusts 150 = .ok (.bipush 12, 2) := by decide +kernel
theorem dX12_gusts_152 : decode cX12_gusts 152 = .ok (.iaload, 1) := by decide +kernel
theorem dX12_gusts_153 : decode cX12_gusts 153 = .ok (.iadd, 1) := by decide +kernel
theorem dX12_gusts_154 : decode cX12_gusts 154 = .ok (.istore 6, 2) := by decide +kernel
theorem dX12_gusts_156 : decode cX12_gusts 156 = .ok (.aload_n 0, 1) := by decide +kernel
theorem dX12_gusts_157 : decode cX12_gusts 157 = .ok (.invokevirtual 378, 3) := by decide +kernel
theorem dX12_gusts_160 : decode cX12_gusts 160 = .ok (.iinc 8 1, 3) := by decide +kernel
theorem dX12_gusts_163 : decode cX12_gusts 163 = .ok (.goto (-78), 3) := by decide +kernel
theorem dX12_gusts_166 : decode cX12_gusts 166 = .ok (.iload 4, 2) := by decide +kernel
theorem dX12_gusts_168 : decode cX12_gusts 168 = .ok (.ifCond .ne 8, 3) := by decide +kernel
theorem dX12_gusts_171 : decode cX12_gusts 171 = .ok (.iload 5, 2) := by decide +kernel
theorem dX12_gusts_173 : decode cX12_gusts 173 = .ok (.goto 5, 3) := by decide +kernel
theorem dX12_gusts_176 : decode cX12_gusts 176 = .ok (.iload 6, 2) := by decide +kernel
theorem dX12_gusts_178 : decode cX12_gusts 178 = .ok (.ireturn, 1) := by decide +kernel
theorem dX12_illOf_0 : decode cX12_illOf 0 = .ok (.aload_n 0, 1) := by decide +kernel
theorem dX12_illOf_1 : decode cX12_illOf 1 = .ok (.getfield 39, 3) := by decide +kernel
theorem dX12_illOf_4 : decode cX12_illOf 4 = .ok (.bipush 25, 2) := by decide +kernel
theorem dX12_illOf_6 : decode cX12_illOf 6 = .ok (.iconst 3, 1) := by decide +kernel
theorem dX12_illOf_7 : decode cX12_illOf 7 = .ok (.iload_n 1, 1) := by decide +kernel
theorem dX12_illOf_8 : decode cX12_illOf 8 = .ok (.imul, 1) := by decide +kernel
theorem dX12_illOf_9 : decode cX12_illOf 9 = .ok (.iadd, 1) := by decide +kernel
theorem dX12_illOf_10 : decode cX12_illOf 10 = .ok (.iconst 1, 1) := by decide +kernel
theorem dX12_illOf_11 : decode cX12_illOf 11 = .ok (.iadd, 1) := by decide +kernel
theorem dX12_illOf_12 : decode cX12_illOf 12 = .ok (.iaload, 1) := by decide +kernel
theorem dX12_illOf_13 : decode cX12_illOf 13 = .ok (.ireturn, 1) := by decide +kernel
theorem dX12_image_0 : decode cX12_image 0 = .ok (.iload_n 1, 1) := by decide +kernel
theorem dX12_image_1 : decode cX12_image 1 = .ok (.i2l, 1) := by decide +kernel
theorem dX12_image_2 : decode cX12_image 2 = .ok (.lconst 0, 1) := by decide +kernel
theorem dX12_image_3 : decode cX12_image 3 = .ok (.ldc2_w 462, 3) := by decide +kernel
theorem dX12_image_6 : decode cX12_image 6 = .ok (.invokestatic 127, 3) := by decide +kernel
theorem dX12_image_9 : decode cX12_image 9 = .ok (.ifCond .ne 5, 3) := by decide +kernel
theorem dX12_image_12 : decode cX12_image 12 = .ok (.iconst (-1), 1) := by decide +kernel
theorem dX12_image_13 : decode cX12_image 13 = .ok (.ireturn, 1) := by decide +kernel
theorem dX12_image_14 : decode cX12_image 14 = .ok (.aload_n 0, 1) := by decide +kernel
theorem dX12_image_15 : decode cX12_image 15 = .ok (.getfield 86, 3) := by decide +kernel
theorem dX12_image_18 : decode cX12_image 18 = .ok (.iload_n 1, 1) := by decide +kernel
