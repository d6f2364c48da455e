theorem dX12_four_2 : decode cX12_four 2 = .ok (.istore_n 2, 1) := by decide +kernel
theorem dX12_four_3 : decode cX12_four 3 = .ok (.iload_n 2, 1) := by decide +kernel
theorem dX12_four_4 : decode cX12_four 4 = .ok (.ifCond .lt 32, 3) := by decide +kernel
theorem dX12_four_7 : decode cX12_four 7 = .ok (.aload_n 0, 1) := by decide +kernel
theorem dX12_four_8 : decode cX12_four 8 = .ok (.getfield 7, 3) := by decide +kernel
theorem dX12_four_11 : decode cX12_four 11 = .ok (.aload_n 0, 1) := by decide +kernel
theorem dX12_four_12 : decode cX12_four 12 = .ok (.getfield 89, 3) := by decide +kernel
theorem dX12_four_15 : decode cX12_four 15 = .ok (.iload_n 1, 1) := by decide +kernel
theorem dX12_four_16 : decode cX12_four 16 = .ok (.iload_n 2, 1) := by decide +kernel
theorem dX12_four_17 : decode cX12_four 17 = .ok (.ishr, 1) := by decide +kernel
theorem dX12_four_18 : decode cX12_four 18 = .ok (.i2b, 1) := by decide +kernel
theorem dX12_four_19 : decode cX12_four 19 = .ok (.bastore, 1) := by decide +kernel
theorem dX12_four_20 : decode cX12_four 20 = .ok (.aload_n 0, 1) := by decide +kernel
theorem dX12_four_21 : decode cX12_four 21 = .ok (.dup, 1) := by decide +kernel
theorem dX12_four_22 : decode cX12_four 22 = .ok (.getfield 89, 3) := by decide +kernel
theorem dX12_four_25 : decode cX12_four 25 = .ok (.iconst 1, 1) := by decide +kernel
theorem dX12_four_26 : decode cX12_four 26 = .ok (.iadd, 1) := by decide +kernel
theorem dX12_four_27 : decode cX12_four 27 = .ok (.putfield 89, 3) := by decide +kernel
theorem dX12_four_30 : decode cX12_four 30 = .ok (.iinc 2 (-8), 3) := by decide +kernel
theorem dX12_four_33 : decode cX12_four 33 = .ok (.goto (-30), 3) := by decide +kernel
theorem dX12_four_36 : decode cX12_four 36 = .ok (.return_, 1) := by decide +kernel
theorem dX12_hold_0 : decode cX12_hold 0 = .ok (.aload_n 0, 1) := by decide +kernel
theorem dX12_hold_1 : decode cX12_hold 1 = .ok (.iload_n 1, 1) := by decide +kernel
theorem dX12_hold_2 : decode cX12_hold 2 = .ok (.invokevirtual 314, 3) := by decide +kernel
theorem dX12_hold_5 : decode cX12_hold 5 = .ok (.ifCond .ne 5, 3) := by decide +kernel
theorem dX12_hold_8 : decode cX12_hold 8 = .ok (.iconst (-1), 1) := by decide +kernel
theorem dX12_hold_9 : decode cX12_hold 9 = .ok (.ireturn, 1) := by decide +kernel
theorem dX12_hold_10 : decode cX12_hold 10 = .ok (.bipush (-2), 2) := by decide +kernel
theorem dX12_hold_12 : decode cX12_hold 12 = .ok (.istore_n 2, 1) := by decide +kernel
theorem dX12_hold_13 : decode cX12_hold 13 = .ok (.aload_n 0, 1) := by decide +kernel
theorem dX12_hold_14 : decode cX12_hold 14 = .ok (.invokevirtual 372, 3) := by decide +kernel
theorem dX12_hold_17 : decode cX12_hold 17 = .ok (.iconst 0, 1) := by decide +kernel
theorem dX12_hold_18 : decode cX12_hold 18 = .ok (.istore_n 3, 1) := by decide +kernel
theorem dX12_hold_19 : decode cX12_hold 19 = .ok (.iload_n 3, 1) := by decide +kernel
theorem dX12_hold_20 : decode cX12_hold 20 = .ok (.bipush 60, 2) := by decide +kernel
theorem dX12_hold_22 : decode cX12_hold 22 = .ok (.if_icmp .gt 60, 3) := by decide +kernel
theorem dX12_hold_25 : decode cX12_hold 25 = .ok (.iload_n 2, 1) := by decide +kernel
theorem dX12_hold_26 : decode cX12_hold 26 = .ok (.ifCond .ge 56, 3) := by decide +kernel
theorem dX12_hold_29 : decode cX12_hold 29 = .ok (.aload_n 0, 1) := by decide +kernel
theorem dX12_hold_30 : decode cX12_hold 30 = .ok (.iload_n 1, 1) := by decide +kernel
theorem dX12_hold_31 : decode cX12_hold 31 = .ok (.aload_n 0, 1) := by decide +kernel
theorem dX12_hold_32 : decode cX12_hold 32 = .ok (.getfield 39, 3) := by decide +kernel
theorem dX12_hold_35 : decode cX12_hold 35 = .ok (.bipush 46, 2) := by decide +kernel
theorem dX12_hold_37 : decode cX12_hold 37 = .ok (.iload_n 1, 1) := by decide +kernel
theorem dX12_hold_38 : decode cX12_hold 38 = .ok (.iadd, 1) := by decide +kernel
theorem dX12_hold_39 : decode cX12_hold 39 = .ok (.iaload, 1) := by decide +kernel
theorem dX12_hold_40 : decode cX12_hold 40 = .ok (.invokevirtual 341, 3) := by decide +kernel
theorem dX12_hold_43 : decode cX12_hold 43 = .ok (.aload_n 0, 1) := by decide +kernel
theorem dX12_hold_44 : decode cX12_hold 44 = .ok (.getfield 39, 3) := by decide +kernel
theorem dX12_hold_47 : decode cX12_hold 47 = .ok (.bipush 13, 2) := by decide +kernel
theorem dX12_hold_49 : decode cX12_hold 49 = .ok (.aload_n 0, 1) := by decide +kernel
theorem dX12_hold_50 : decode cX12_hold 50 = .ok (.getfield 39, 3) := by decide +kernel
theorem dX12_hold_53 : decode cX12_hold 53 = .ok (.bipush 46, 2) := by decide +kernel
theorem dX12_hold_55 : decode cX12_hold 55 = .ok (.iload_n 1, 1) := by decide +kernel
theorem dX12_hold_56 : decode cX12_hold 56 = .ok (.iadd, 1) := by decide +kernel
theorem dX12_hold_57 : decode cX12_hold 57 = .ok (.iaload, 1) := by decide +kernel
theorem dX12_hold_58 : decode cX12_hold 58 = .ok (.iadd, 1) := by decide +kernel
theorem dX12_hold_59 : decode cX12_hold 59 = .ok (.iaload, 1) := by decide +kernel
theorem dX12_hold_60 : decode cX12_hold 60 = .ok (.if_icmp .ne 5, 3) := by decide +kernel
theorem dX12_hold_63 : decode cX12_hold 63 = .ok (.iload_n 3, 1) := by decide +kernel
theorem dX12_hold_64 : decode cX12_hold 64 = .ok (.istore_n 2, 1) := by decide +kernel
theorem dX12_hold_65 : decode cX12_hold 65 = .ok (.aload_n 0, 1) := by decide +kernel
theorem dX12_hold_66 : decode cX12_hold 66 = .ok (.getfield 39, 3) := by decide +kernel
theorem dX12_hold_69 : decode cX12_hold 69 = .ok (.bipush 11, 2) := by decide +kernel
theorem dX12_hold_71 : decode cX12_hold 71 = .ok (.dup2, 1) := by decide +kernel
theorem dX12_hold_72 : decode cX12_hold 72 = .ok (.iaload, 1) := by decide +kernel
theorem dX12_hold_73 : decode cX12_hold 73 = .ok (.iconst 1, 1) := by decide +kernel
theorem dX12_hold_74 : decode cX12_hold 74 = .ok (.iadd, 1) := by decide +kernel
theorem dX12_hold_75 : decode cX12_hold 75 = .ok (.iastore, 1) := by decide +kernel
theorem dX12_hold_76 : decode cX12_hold 76 = .ok (.iinc 3 1, 3) := by decide +kernel
theorem dX12_hold_79 : decode cX12_hold 79 = .ok (.goto (-60), 3) := by decide +kernel
theorem dX12_hold_82 : decode cX12_hold 82 = .ok (.aload_n 0, 1) := by decide +kernel
theorem dX12_hold_83 : decode cX12_hold 83 = .ok (.invokevirtual 378, 3) := by decide +kernel
theorem dX12_hold_86 : decode cX12_hold 86 = .ok (.iload_n 2, 1) := by decide +kernel
theorem dX12_hold_87 : decode cX12_hold 87 = .ok (.ireturn, 1) := by decide +kernel
theorem dX12_look_0 : decode cX12_look 0 = .ok (.aload_n 0, 1) := by decide +kernel
theorem dX12_look_1 : decode cX12_look 1 = .ok (.invokevirtual 294, 3) := by decide +kernel
theorem dX12_look_4 : decode cX12_look 4 = .ok (.ifCond .eq 25, 3) := by decide +kernel
theorem dX12_look_7 : decode cX12_look 7 = .ok (.iload_n 1, 1) := by decide +kernel
theorem dX12_look_8 : decode cX12_look 8 = .ok (.i2l, 1) := by decide +kernel
theorem dX12_look_9 : decode cX12_look 9 = .ok (.lconst 0, 1) := by decide +kernel
theorem dX12_look_10 : decode cX12_look 10 = .ok (.ldc2_w 404, 3) := by decide +kernel
theorem dX12_look_13 : decode cX12_look 13 = .ok (.invokestatic 127, 3) := by decide +kernel
theorem dX12_look_16 : decode cX12_look 16 = .ok (.ifCond .eq 13, 3) := by decide +kernel
theorem dX12_look_19 : decode cX12_look 19 = .ok (.iload_n 2, 1) := by decide +kernel
theorem dX12_look_20 : decode cX12_look 20 = .ok (.i2l, 1) := by decide +kernel
theorem dX12_look_21 : decode cX12_look 21 = .ok (.lconst 0, 1) := by decide +kernel
theorem dX12_look_22 : decode cX12_look 22 = .ok (.lconst 1, 1) := by decide +kernel
theorem dX12_look_23 : decode cX12_look 23 = .ok (.invokestatic 127, 3) := by decide +kernel
theorem dX12_look_26 : decode cX12_look 26 = .ok (.ifCond .ne 5, 3) := by decide +kernel
theorem dX12_look_29 : decode cX12_look 29 = .ok (.iconst (-1), 1) := by decide +kernel
theorem dX12_look_30 : decode cX12_look 30 = .ok (.ireturn, 1) := by decide +kernel
theorem dX12_look_31 : decode cX12_look 31 = .ok (.aload_n 0, 1) := by decide +kernel
theorem dX12_look_32 : decode cX12_look 32 = .ok (.iload_n 1, 1) := by decide +kernel
theorem dX12_look_33 : decode cX12_look 33 = .ok (.invokevirtual 432, 3) := by decide +kernel
theorem dX12_look_36 : decode cX12_look 36 = .ok (.bipush (-2), 2) := by decide +kernel
theorem dX12_look_38 : decode cX12_look 38 = .ok (.istore_n 3, 1) := by decide +kernel
theorem dX12_look_39 : decode cX12_look 39 = .ok (.bipush (-2), 2) := by decide +kernel
theorem dX12_look_41 : decode cX12_look 41 = .ok (.istore 4, 2) := by decide +kernel
theorem dX12_look_43 : decode cX12_look 43 = .ok (.iconst 0, 1) := by decide +kernel
theorem dX12_look_44 : decode cX12_look 44 = .ok (.istore 5, 2) := by decide +kernel
theorem dX12_look_46 : decode cX12_look 46 = .ok (.iload 5, 2) := by decide +kernel
theorem dX12_look_48 : decode cX12_look 48 = .ok (.aload_n 0, 1) := by decide +kernel
theorem dX12_look_49 : decode cX12_look 49 = .ok (.getfield 39, 3) := by decide +kernel
theorem dX12_look_52 : decode cX12_look 52 = .ok (.iconst 5, 1) := by decide +kernel
theorem dX12_look_53 : decode cX12_look 53 = .ok (.iaload, 1) := by decide +kernel
theorem dX12_look_54 : decode cX12_look 54 = .ok (.if_icmp .ge 43, 3) := by decide +kernel
theorem dX12_look_57 : decode cX12_look 57 = .ok (.aload_n 0, 1) := by decide +kernel
theorem dX12_look_58 : decode cX12_look 58 = .ok (.iload 5, 2) := by decide +kernel
theorem dX12_look_60 : decode cX12_look 60 = .ok (.invokevirtual 435, 3) := by decide +kernel
theorem dX12_look_63 : decode cX12_look 63 = .ok (.istore 6, 2) := by decide +kernel
theorem dX12_look_65 : decode cX12_look 65 = .ok (.iload 6, 2) := by decide +kernel
theorem dX12_look_67 : decode cX12_look 67 = .ok (.ifCond .eq 24, 3) := by decide +kernel
theorem dX12_look_70 : decode cX12_look 70 = .ok (.iload_n 3, 1) := by decide +kernel
theorem dX12_look_71 : decode cX12_look 71 = .ok (.ifCond .lt 13, 3) := by decide +kernel
theorem dX12_look_74 : decode cX12_look 74 = .ok (.iload 6, 2) := by decide +kernel
theorem dX12_look_76 : decode cX12_look 76 = .ok (.iload 4, 2) := by decide +kernel
theorem dX12_look_78 : decode cX12_look 78 = .ok (.if_icmp .lt 6, 3) := by decide +kernel
theorem dX12_look_81 : decode cX12_look 81 = .ok (.goto 10, 3) := by decide +kernel
theorem dX12_look_84 : decode cX12_look 84 = .ok (.iload 5, 2) := by decide +kernel
theorem dX12_look_86 : decode cX12_look 86 = .ok (.istore_n 3, 1) := by decide +kernel
theorem dX12_look_87 : decode cX12_look 87 = .ok (.iload 6, 2) := by decide +kernel
theorem dX12_look_89 : decode cX12_look 89 = .ok (.istore 4, 2) := by decide +kernel
theorem dX12_look_91 : decode cX12_look 91 = .ok (.iinc 5 1, 3) := by decide +kernel
theorem dX12_look_94 : decode cX12_look 94 = .ok (.goto (-48), 3) := by decide +kernel
theorem dX12_look_97 : decode cX12_look 97 = .ok (.iload_n 2, 1) := by decide +kernel
theorem dX12_look_98 : decode cX12_look 98 = .ok (.ifCond .ne 7, 3) := by decide +kernel
theorem dX12_look_101 : decode cX12_look 101 = .ok (.iload_n 3, 1) := by decide +kernel
theorem dX12_look_102 : decode cX12_look 102 = .ok (.goto 5, 3) := by decide +kernel
theorem dX12_look_105 : decode cX12_look 105 = .ok (.iload 4, 2) := by decide +kernel
theorem dX12_look_107 : decode cX12_look 107 = .ok (.ireturn, 1) := by decide +kernel
theorem dX12_note_0 : decode cX12_note 0 = .ok (.iload_n 1, 1) := by decide +kernel
theorem dX12_note_1 : decode cX12_note 1 = .ok (.iconst (-1), 1) := by decide +kernel
theorem dX12_note_2 : decode cX12_note 2 = .ok (.if_icmp .ne 13, 3) := by decide +kernel
theorem dX12_note_5 : decode cX12_note 5 = .ok (.aload_n 0, 1) := by decide +kernel
theorem dX12_note_6 : decode cX12_note 6 = .ok (.getfield 39, 3) := by decide +kernel
theorem dX12_note_9 : decode cX12_note 9 = .ok (.bipush 114, 2) := by decide +kernel
theorem dX12_note_11 : decode cX12_note 11 = .ok (.iconst 0, 1) := by decide +kernel
theorem dX12_note_12 : decode cX12_note 12 = .ok (.iastore, 1) := by decide +kernel
theorem dX12_note_13 : decode cX12_note 13 = .ok (.iconst 0, 1) := by decide +kernel
theorem dX12_note_14 : decode cX12_note 14 = .ok (.ireturn, 1) := by decide +kernel
theorem dX12_note_15 : decode cX12_note 15 = .ok (.iload_n 1, 1) := by decide +kernel
theorem dX12_note_16 : decode cX12_note 16 = .ok (.i2l, 1) := by decide +kernel
theorem dX12_note_17 : decode cX12_note 17 = .ok (.lconst 0, 1) := by decide +kernel
theorem dX12_note_18 : decode cX12_note 18 = .ok (.ldc2_w 404, 3) := by decide +kernel
theorem dX12_note_21 : decode cX12_note 21 = .ok (.invokestatic 127, 3) := by decide +kernel
theorem dX12_note_24 : decode cX12_note 24 = .ok (.ifCond .eq 49, 3) := by decide +kernel
theorem dX12_note_27 : decode cX12_note 27 = .ok (.aload_n 0, 1) := by decide +kernel
theorem dX12_note_28 : decode cX12_note 28 = .ok (.iload_n 2, 1) := by decide +kernel
theorem dX12_note_29 : decode cX12_note 29 = .ok (.invokevirtual 314, 3) := by decide +kernel
theorem dX12_note_32 : decode cX12_note 32 = .ok (.ifCond .eq 41, 3) := by decide +kernel
theorem dX12_note_35 : decode cX12_note 35 = .ok (.iload_n 3, 1) := by decide +kernel
theorem dX12_note_36 : decode cX12_note 36 = .ok (.i2l, 1) := by decide +kernel
theorem dX12_note_37 : decode cX12_note 37 = .ok (.ldc2_w 424, 3) := by decide +kernel
theorem dX12_note_40 : decode cX12_note 40 = .ok (.aload_n 0, 1) := by decide +kernel
theorem dX12_note_41 : decode cX12_note 41 = .ok (.getfield 39, 3) := by decide +kernel
theorem dX12_note_44 : decode cX12_note 44 = .ok (.iconst 1, 1) := by decide +kernel
theorem dX12_note_45 : decode cX12_note 45 = .ok (.iaload, 1) := by decide +kernel
theorem dX12_note_46 : decode cX12_note 46 = .ok (.iconst 1, 1) := by decide +kernel
theorem dX12_note_47 : decode cX12_note 47 = .ok (.isub, 1) := by decide +kernel
theorem dX12_note_48 : decode cX12_note 48 = .ok (.i2l, 1) := by decide +kernel
theorem dX12_note_49 : decode cX12_note 49 = .ok (.invokestatic 127, 3) := by decide +kernel
theorem dX12_note_52 : decode cX12_note 52 = .ok (.ifCond .ne 9, 3) := by decide +kernel
theorem dX12_note_55 : decode cX12_note 55 = .ok (.iload_n 3, 1) := by decide +kernel
theorem dX12_note_56 : decode cX12_note 56 = .ok (.bipush 99, 2) := by decide +kernel
theorem dX12_note_58 : decode cX12_note 58 = .ok (.if_icmp .ne 15, 3) := by decide +kernel
theorem dX12_note_61 : decode cX12_note 61 = .ok (.aload_n 0, 1) := by decide +kernel
theorem dX12_note_62 : decode cX12_note 62 = .ok (.getfield 39, 3) := by decide +kernel
theorem dX12_note_65 : decode cX12_note 65 = .ok (.bipush 114, 2) := by decide +kernel
theorem dX12_note_67 : decode cX12_note 67 = .ok (.iaload, 1) := by decide +kernel
theorem dX12_note_68 : decode cX12_note 68 = .ok (.bipush 10, 2) := by decide +kernel
theorem dX12_note_70 : decode cX12_note 70 = .ok (.if_icmp .ne 6, 3) := by decide +kernel
theorem dX12_note_73 : decode cX12_note 73 = .ok (.bipush (-2), 2) := by decide +kernel
theorem dX12_note_75 : decode cX12_note 75 = .ok (.ireturn, 1) := by decide +kernel
theorem dX12_note_76 : decode cX12_note 76 = .ok (.bipush 84, 2) := by decide +kernel
theorem dX12_note_78 : decode cX12_note 78 = .ok (.iconst 3, 1) := by decide +kernel
theorem dX12_note_79 : decode cX12_note 79 = .ok (.aload_n 0, 1) := by decide +kernel
theorem dX12_note_80 : decode cX12_note 80 = .ok (.getfield 39, 3) := by decide +kernel
theorem dX12_note_83 : decode cX12_note 83 = .ok (.bipush 114, 2) := by decide +kernel
theorem dX12_note_85 : decode cX12_note 85 = .ok (.iaload, 1) := by decide +kernel
theorem dX12_note_86 : decode cX12_note 86 = .ok (.imul, 1) := by decide +kernel
theorem dX12_note_87 : decode cX12_note 87 = .ok (.iadd, 1) := by decide +kernel
theorem dX12_note_88 : decode cX12_note 88 = .ok (.istore 4, 2) := by decide +kernel
theorem dX12_note_90 : decode cX12_note 90 = .ok (.aload_n 0, 1) := by decide +kernel
theorem dX12_note_91 : decode cX12_note 91 = .ok (.getfield 39, 3) := by decide +kernel
theorem dX12_note_94 : decode cX12_note 94 = .ok (.iload 4, 2) := by decide +kernel
theorem dX12_note_96 : decode cX12_note 96 = .ok (.iload_n 1, 1) := by decide +kernel
theorem dX12_note_97 : decode cX12_note 97 = .ok (.iastore, 1) := by decide +kernel
theorem dX12_note_98 : decode cX12_note 98 = .ok (.aload_n 0, 1) := by decide +kernel
theorem dX12_note_99 : decode cX12_note 99 = .ok (.getfield 39, 3) := by decide +kernel
theorem dX12_note_102 : decode cX12_note 102 = .ok (.iload 4, 2) := by decide +kernel
theorem dX12_note_104 : decode cX12_note 104 = .ok (.iconst 1, 1) := by decide +kernel
theorem dX12_note_105 : decode cX12_note 105 = .ok (.iadd, 1) := by decide +kernel
theorem dX12_note_106 : decode cX12_note 106 = .ok (.iload_n 2, 1) := by decide +kernel
theorem dX12_note_107 : decode cX12_note 107 = .ok (.iastore, 1) := by decide +kernel
theorem dX12_note_108 : decode cX12_note 108 = .ok (.aload_n 0, 1) := by decide +kernel
theorem dX12_note_109 : decode cX12_note 109 = .ok (.getfield 39, 3) := by decide +kernel
theorem dX12_note_112 : decode cX12_note 112 = .ok (.iload 4, 2) := by decide +kernel
theorem dX12_note_114 : decode cX12_note 114 = .ok (.iconst 2, 1) := by decide +kernel
theorem dX12_note_115 : decode cX12_note 115 = .ok (.iadd, 1) := by decide +kernel
theorem dX12_note_116 : decode cX12_note 116 = .ok (.iload_n 3, 1) := by decide +kernel
theorem dX12_note_117 : decode cX12_note 117 = .ok (.iastore, 1) := by decide +kernel
theorem dX12_note_118 : decode cX12_note 118 = .ok (.aload_n 0, 1) := by decide +kernel
theorem dX12_note_119 : decode cX12_note 119 = .ok (.getfield 39, 3) := by decide +kernel
theorem dX12_note_122 : decode cX12_note 122 = .ok (.bipush 114, 2) := by decide +kernel
theorem dX12_note_124 : decode cX12_note 124 = .ok (.dup2, 1) := by decide +kernel
theorem dX12_note_125 : decode cX12_note 125 = .ok (.iaload, 1) := by decide +kernel
theorem dX12_note_126 : decode cX12_note 126 = .ok (.iconst 1, 1) := by decide +kernel
theorem dX12_note_127 : decode cX12_note 127 = .ok (.iadd, 1) := by decide +kernel
theorem dX12_note_128 : decode cX12_note 128 = .ok (.iastore, 1) := by decide +kernel
theorem dX12_note_129 : decode cX12_note 129 = .ok (.aload_n 0, 1) := by decide +kernel
theorem dX12_note_130 : decode cX12_note 130 = .ok (.getfield 39, 3) := by decide +kernel
theorem dX12_note_133 : decode cX12_note 133 = .ok (.bipush 114, 2) := by decide +kernel
theorem dX12_note_135 : decode cX12_note 135 = .ok (.iaload, 1) := by decide +kernel
theorem dX12_note_136 : decode cX12_note 136 = .ok (.ireturn, 1) := by decide +kernel
theorem dX12_pull_0 : decode cX12_pull 0 = .ok (.aload_n 0, 1) := by decide +kernel
theorem dX12_pull_1 : decode cX12_pull 1 = .ok (.iload_n 1, 1) := by decide +kernel
theorem dX12_pull_2 : decode cX12_pull 2 = .ok (.invokevirtual 309, 3) := by decide +kernel
theorem dX12_pull_5 : decode cX12_pull 5 = .ok (.ifCond .eq 23, 3) := by decide +kernel
theorem dX12_pull_8 : decode cX12_pull 8 = .ok (.aload_n 0, 1) := by decide +kernel
theorem dX12_pull_9 : decode cX12_pull 9 = .ok (.iload_n 2, 1) := by decide +kernel
theorem dX12_pull_10 : decode cX12_pull 10 = .ok (.invokevirtual 314, 3) := by decide +kernel
theorem dX12_pull_13 : decode cX12_pull 13 = .ok (.ifCond .eq 15, 3) := by decide +kernel
theorem dX12_pull_16 : decode cX12_pull 16 = .ok (.aload_n 0, 1) := by decide +kernel
theorem dX12_pull_17 : decode cX12_pull 17 = .ok (.getfield 39, 3) := by decide +kernel
theorem dX12_pull_20 : decode cX12_pull 20 = .ok (.bipush 19, 2) := by decide +kernel
theorem dX12_pull_22 : decode cX12_pull 22 = .ok (.iload_n 1, 1) := by decide +kernel
theorem dX12_pull_23 : decode cX12_pull 23 = .ok (.iadd, 1) := by decide +kernel
theorem dX12_pull_24 : decode cX12_pull 24 = .ok (.iaload, 1) := by decide +kernel
theorem dX12_pull_25 : decode cX12_pull 25 = .ok (.ifCond .ne 5, 3) := by decide +kernel
theorem dX12_pull_28 : decode cX12_pull 28 = .ok (.iconst (-1), 1) := by decide +kernel
theorem dX12_pull_29 : decode cX12_pull 29 = .ok (.ireturn, 1) := by decide +kernel
theorem dX12_pull_30 : decode cX12_pull 30 = .ok (.aload_n 0, 1) := by decide +kernel
theorem dX12_pull_31 : decode cX12_pull 31 = .ok (.invokevirtual 363, 3) := by decide +kernel
theorem dX12_pull_34 : decode cX12_pull 34 = .ok (.aload_n 0, 1) := by decide +kernel
theorem dX12_pull_35 : decode cX12_pull 35 = .ok (.iload_n 2, 1) := by decide +kernel
theorem dX12_pull_36 : decode cX12_pull 36 = .ok (.invokevirtual 320, 3) := by decide +kernel
theorem dX12_pull_39 : decode cX12_pull 39 = .ok (.aload_n 0, 1) := by decide +kernel
theorem dX12_pull_40 : decode cX12_pull 40 = .ok (.getfield 39, 3) := by decide +kernel
theorem dX12_pull_43 : decode cX12_pull 43 = .ok (.bipush 19, 2) := by decide +kernel
theorem dX12_pull_45 : decode cX12_pull 45 = .ok (.iload_n 1, 1) := by decide +kernel
theorem dX12_pull_46 : decode cX12_pull 46 = .ok (.iadd, 1) := by decide +kernel
theorem dX12_pull_47 : decode cX12_pull 47 = .ok (.iaload, 1) := by decide +kernel
theorem dX12_pull_48 : decode cX12_pull 48 = .ok (.iadd, 1) := by decide +kernel
theorem dX12_pull_49 : decode cX12_pull 49 = .ok (.istore_n 3, 1) := by decide +kernel
theorem dX12_pull_50 : decode cX12_pull 50 = .ok (.aload_n 0, 1) := by decide +kernel
theorem dX12_pull_51 : decode cX12_pull 51 = .ok (.getfield 39, 3) := by decide +kernel
theorem dX12_pull_54 : decode cX12_pull 54 = .ok (.bipush 25, 2) := by decide +kernel
theorem dX12_pull_56 : decode cX12_pull 56 = .ok (.iconst 3, 1) := by decide +kernel
theorem dX12_pull_57 : decode cX12_pull 57 = .ok (.iload_n 2, 1) := by decide +kernel
theorem dX12_pull_58 : decode cX12_pull 58 = .ok (.imul, 1) := by decide +kernel
theorem dX12_pull_59 : decode cX12_pull 59 = .ok (.iadd, 1) := by decide +kernel
theorem dX12_pull_60 : decode cX12_pull 60 = .ok (.iconst 2, 1) := by decide +kernel
theorem dX12_pull_61 : decode cX12_pull 61 = .ok (.iadd, 1) := by decide +kernel
theorem dX12_pull_62 : decode cX12_pull 62 = .ok (.iload_n 3, 1) := by decide +kernel
theorem dX12_pull_63 : decode cX12_pull 63 = .ok (.bipush 99, 2) := by decide +kernel
theorem dX12_pull_65 : decode cX12_pull 65 = .ok (.if_icmp .le 8, 3) := by decide +kernel
theorem dX12_pull_68 : decode cX12_pull 68 = .ok (.bipush 99, 2) := by decide +kernel
theorem dX12_pull_70 : decode cX12_pull 70 = .ok (.goto 4, 3) := by decide +kernel
theorem dX12_pull_73 : decode cX12_pull 73 = .ok (.iload_n 3, 1) := by decide +kernel
theorem dX12_pull_74 : decode cX12_pull 74 = .ok (.iastore, 1) := by decide +kernel
theorem dX12_pull_75 : decode cX12_pull 75 = .ok (.aload_n 0, 1) := by decide +kernel
theorem dX12_pull_76 : decode cX12_pull 76 = .ok (.getfield 39, 3) := by decide +kernel
theorem dX12_pull_79 : decode cX12_pull 79 = .ok (.bipush 19, 2) := by decide +kernel
theorem dX12_pull_81 : decode cX12_pull 81 = .ok (.iload_n 1, 1) := by decide +kernel
theorem dX12_pull_82 : decode cX12_pull 82 = .ok (.iadd, 1) := by decide +kernel
theorem dX12_pull_83 : decode cX12_pull 83 = .ok (.iconst 0, 1) := by decide +kernel
theorem dX12_pull_84 : decode cX12_pull 84 = .ok (.iastore, 1) := by decide +kernel
theorem dX12_pull_85 : decode cX12_pull 85 = .ok (.aload_n 0, 1) := by decide +kernel
theorem dX12_pull_86 : decode cX12_pull 86 = .ok (.iload_n 2, 1) := by decide +kernel
theorem dX12_pull_87 : decode cX12_pull 87 = .ok (.invokevirtual 320, 3) := by decide +kernel
theorem dX12_pull_90 : decode cX12_pull 90 = .ok (.ireturn, 1) := by decide +kernel
theorem dX12_ring_0 : decode cX12_ring 0 = .ok (.aload_n 0, 1) := by decide +kernel
theorem dX12_ring_1 : decode cX12_ring 1 = .ok (.iload_n 1, 1) := by decide +kernel
theorem dX12_ring_2 : decode cX12_ring 2 = .ok (.invokevirtual 309, 3) := by decide +kernel
theorem dX12_ring_5 : decode cX12_ring 5 = .ok (.ifCond .eq 15, 3) := by decide +kernel
theorem dX12_ring_8 : decode cX12_ring 8 = .ok (.iload_n 2, 1) := by decide +kernel
theorem dX12_ring_9 : decode cX12_ring 9 = .ok (.i2l, 1) := by decide +kernel
theorem dX12_ring_10 : decode cX12_ring 10 = .ok (.lconst 0, 1) := by decide +kernel
theorem dX12_ring_11 : decode cX12_ring 11 = .ok (.ldc2_w 312, 3) := by decide +kernel
theorem dX12_ring_14 : decode cX12_ring 14 = .ok (.invokestatic 127, 3) := by decide +kernel
theorem dX12_ring_17 : decode cX12_ring 17 = .ok (.ifCond .ne 5, 3) := by decide +kernel
theorem dX12_ring_20 : decode cX12_ring 20 = .ok (.iconst (-1), 1) := by decide +kernel
theorem dX12_ring_21 : decode cX12_ring 21 = .ok (.ireturn, 1) := by decide +kernel
theorem dX12_ring_22 : decode cX12_ring 22 = .ok (.iload_n 2, 1) := by decide +kernel
theorem dX12_ring_23 : decode cX12_ring 23 = .ok (.ifCond .ne 15, 3) := by decide +kernel
theorem dX12_ring_26 : decode cX12_ring 26 = .ok (.aload_n 0, 1) := by decide +kernel
theorem dX12_ring_27 : decode cX12_ring 27 = .ok (.getfield 39, 3) := by decide +kernel
theorem dX12_ring_30 : decode cX12_ring 30 = .ok (.bipush 13, 2) := by decide +kernel
theorem dX12_ring_32 : decode cX12_ring 32 = .ok (.iload_n 1, 1) := by decide +kernel
theorem dX12_ring_33 : decode cX12_ring 33 = .ok (.iadd, 1) := by decide +kernel
theorem dX12_ring_34 : decode cX12_ring 34 = .ok (.iaload, 1) := by decide +kernel
theorem dX12_ring_35 : decode cX12_ring 35 = .ok (.goto 29, 3) := by decide +kernel
theorem dX12_ring_38 : decode cX12_ring 38 = .ok (.iload_n 2, 1) := by decide +kernel
theorem dX12_ring_39 : decode cX12_ring 39 = .ok (.iconst 1, 1) := by decide +kernel
theorem dX12_ring_40 : decode cX12_ring 40 = .ok (.if_icmp .ne 15, 3) := by decide +kernel
theorem dX12_ring_43 : decode cX12_ring 43 = .ok (.aload_n 0, 1) := by decide +kernel
theorem dX12_ring_44 : decode cX12_ring 44 = .ok (.getfield 39, 3) := by decide +kernel
theorem dX12_ring_47 : decode cX12_ring 47 = .ok (.bipush 40, 2) := by decide +kernel
theorem dX12_ring_49 : decode cX12_ring 49 = .ok (.iload_n 1, 1) := by decide +kernel
theorem dX12_ring_50 : decode cX12_ring 50 = .ok (.iadd, 1) := by decide +kernel
theorem dX12_ring_51 : decode cX12_ring 51 = .ok (.iaload, 1) := by decide +kernel
theorem dX12_ring_52 : decode cX12_ring 52 = .ok (.goto 12, 3) := by decide +kernel
theorem dX12_ring_55 : decode cX12_ring 55 = .ok (.aload_n 0, 1) := by decide +kernel
theorem dX12_ring_56 : decode cX12_ring 56 = .ok (.getfield 39, 3) := by decide +kernel
theorem dX12_ring_59 : decode cX12_ring 59 = .ok (.bipush 19, 2) := by decide +kernel
theorem dX12_ring_61 : decode cX12_ring 61 = .ok (.iload_n 1, 1) := by decide +kernel
theorem dX12_ring_62 : decode cX12_ring 62 = .ok (.iadd, 1) := by decide +kernel
theorem dX12_ring_63 : decode cX12_ring 63 = .ok (.iaload, 1) := by decide +kernel
theorem dX12_ring_64 : decode cX12_ring 64 = .ok (.ireturn, 1) := by decide +kernel
theorem dX12_rule_0 : decode cX12_rule 0 = .ok (.aload_n 0, 1) := by decide +kernel
theorem dX12_rule_1 : decode cX12_rule 1 = .ok (.getfield 267, 3) := by decide +kernel
theorem dX12_rule_4 : decode cX12_rule 4 = .ok (.bipush 6, 2) := by decide +kernel
theorem dX12_rule_6 : decode cX12_rule 6 = .ok (.if_icmp .ne 5, 3) := by decide +kernel
theorem dX12_rule_9 : decode cX12_rule 9 = .ok (.iconst (-1), 1) := by decide +kernel
theorem dX12_rule_10 : decode cX12_rule 10 = .ok (.ireturn, 1) := by decide +kernel
theorem dX12_rule_11 : decode cX12_rule 11 = .ok (.aload_n 0, 1) := by decide +kernel
theorem dX12_rule_12 : decode cX12_rule 12 = .ok (.aload_n 0, 1) := by decide +kernel
theorem dX12_rule_13 : decode cX12_rule 13 = .ok (.getfield 267, 3) := by decide +kernel
theorem dX12_rule_16 : decode cX12_rule 16 = .ok (.putfield 157, 3) := by decide +kernel
theorem dX12_rule_19 : decode cX12_rule 19 = .ok (.aload_n 0, 1) := by decide +kernel
theorem dX12_rule_20 : decode cX12_rule 20 = .ok (.getfield 23, 3) := by decide +kernel
theorem dX12_rule_23 : decode cX12_rule 23 = .ok (.aload_n 0, 1) := by decide +kernel
theorem dX12_rule_24 : decode cX12_rule 24 = .ok (.getfield 157, 3) := by decide +kernel
theorem dX12_rule_27 : decode cX12_rule 27 = .ok (.iconst 0, 1) := by decide +kernel
theorem dX12_rule_28 : decode cX12_rule 28 = .ok (.iastore, 1) := by decide +kernel
theorem dX12_rule_29 : decode cX12_rule 29 = .ok (.aload_n 0, 1) := by decide +kernel
theorem dX12_rule_30 : decode cX12_rule 30 = .ok (.invokevirtual 270, 3) := by decide +kernel
theorem dX12_rule_33 : decode cX12_rule 33 = .ok (.ifCond .ne 11, 3) := by decide +kernel
theorem dX12_rule_36 : decode cX12_rule 36 = .ok (.bipush (-2), 2) := by decide +kernel
theorem dX12_rule_38 : decode cX12_rule 38 = .ok (.aload_n 0, 1) := by decide +kernel
theorem dX12_rule_39 : decode cX12_rule 39 = .ok (.getfield 96, 3) := by decide +kernel
theorem dX12_rule_42 : decode cX12_rule 42 = .ok (.isub, 1) := by decide +kernel
theorem dX12_rule_43 : decode cX12_rule 43 = .ok (.ireturn, 1) := by decide +kernel
theorem dX12_rule_44 : decode cX12_rule 44 = .ok (.aload_n 0, 1) := by decide +kernel
theorem dX12_rule_45 : decode cX12_rule 45 = .ok (.dup, 1) := by decide +kernel
theorem dX12_rule_46 : decode cX12_rule 46 = .ok (.getfield 267, 3) := by decide +kernel
theorem dX12_rule_49 : decode cX12_rule 49 = .ok (.iconst 1, 1) := by decide +kernel
theorem dX12_rule_50 : decode cX12_rule 50 = .ok (.iadd, 1) := by decide +kernel
theorem dX12_rule_51 : decode cX12_rule 51 = .ok (.putfield 267, 3) := by decide +kernel
theorem dX12_rule_54 : decode cX12_rule 54 = .ok (.aload_n 0, 1) := by decide +kernel
theorem dX12_rule_55 : decode cX12_rule 55 = .ok (.getfield 267, 3) := by decide +kernel
theorem dX12_rule_58 : decode cX12_rule 58 = .ok (.iconst 1, 1) := by decide +kernel
theorem dX12_rule_59 : decode cX12_rule 59 = .ok (.isub, 1) := by decide +kernel
theorem dX12_rule_60 : decode cX12_rule 60 = .ok (.ireturn, 1) := by decide +kernel
theorem dX12_seed_0 : decode cX12_seed 0 = .ok (.iload_n 1, 1) := by decide +kernel
theorem dX12_seed_1 : decode cX12_seed 1 = .ok (.ifCond .ge 5, 3) := by decide +kernel
theorem dX12_seed_4 : decode cX12_seed 4 = .ok (.iconst (-1), 1) := by decide +kernel
theorem dX12_seed_5 : decode cX12_seed 5 = .ok (.ireturn, 1) := by decide +kernel
theorem dX12_seed_6 : decode cX12_seed 6 = .ok (.aload_n 0, 1) := by decide +kernel
theorem dX12_seed_7 : decode cX12_seed 7 = .ok (.getfield 442, 3) := by decide +kernel
theorem dX12_seed_10 : decode cX12_seed 10 = .ok (.istore_n 2, 1) := by decide +kernel
theorem dX12_seed_11 : decode cX12_seed 11 = .ok (.aload_n 0, 1) := by decide +kernel
theorem dX12_seed_12 : decode cX12_seed 12 = .ok (.iload_n 1, 1) := by decide +kernel
theorem dX12_seed_13 : decode cX12_seed 13 = .ok (.putfield 442, 3) := by decide +kernel
theorem dX12_seed_16 : decode cX12_seed 16 = .ok (.iload_n 2, 1) := by decide +kernel
theorem dX12_seed_17 : decode cX12_seed 17 = .ok (.ireturn, 1) := by decide +kernel
theorem dX12_undo_0 : decode cX12_undo 0 = .ok (.aload_n 0, 1) := by decide +kernel
theorem dX12_undo_1 : decode cX12_undo 1 = .ok (.getfield 276, 3) := by decide +kernel
theorem dX12_undo_4 : decode cX12_undo 4 = .ok (.ifCond .ne 5, 3) := by decide +kernel
theorem dX12_undo_7 : decode cX12_undo 7 = .ok (.iconst (-1), 1) := by decide +kernel
theorem dX12_undo_8 : decode cX12_undo 8 = .ok (.ireturn, 1) := by decide +kernel
theorem dX12_undo_9 : decode cX12_undo 9 = .ok (.aload_n 0, 1) := by decide +kernel
theorem dX12_undo_10 : decode cX12_undo 10 = .ok (.dup, 1) := by decide +kernel
theorem dX12_undo_11 : decode cX12_undo 11 = .ok (.getfield 276, 3) := by decide +kernel
theorem dX12_undo_14 : decode cX12_undo 14 = .ok (.iconst 1, 1) := by decide +kernel
theorem dX12_undo_15 : decode cX12_undo 15 = .ok (.isub, 1) := by decide +kernel
theorem dX12_undo_16 : decode cX12_undo 16 = .ok (.putfield 276, 3) := by decide +kernel
theorem dX12_undo_19 : decode cX12_undo 19 = .ok (.iconst 0, 1) := by decide +kernel
theorem dX12_undo_20 : decode cX12_undo 20 = .ok (.istore_n 1, 1) := by decide +kernel
theorem dX12_undo_21 : decode cX12_undo 21 = .ok (.iload_n 1, 1) := by decide +kernel
theorem dX12_undo_22 : decode cX12_undo 22 = .ok (.bipush 30, 2) := by decide +kernel
theorem dX12_undo_24 : decode cX12_undo 24 = .ok (.if_icmp .ge 32, 3) := by decide +kernel
theorem dX12_undo_27 : decode cX12_undo 27 = .ok (.aload_n 0, 1) := by decide +kernel
theorem dX12_undo_28 : decode cX12_undo 28 = .ok (.getfield 39, 3) := by decide +kernel
theorem dX12_undo_31 : decode cX12_undo 31 = .ok (.bipush 10, 2) := by decide +kernel
theorem dX12_undo_33 : decode cX12_undo 33 = .ok (.iload_n 1, 1) := by decide +kernel
theorem dX12_undo_34 : decode cX12_undo 34 = .ok (.iadd, 1) := by decide +kernel
theorem dX12_undo_35 : decode cX12_undo 35 = .ok (.aload_n 0, 1) := by decide +kernel
theorem dX12_undo_36 : decode cX12_undo 36 = .ok (.getfield 55, 3) := by decide +kernel
theorem dX12_undo_39 : decode cX12_undo 39 = .ok (.bipush 30, 2) := by decide +kernel
theorem dX12_undo_41 : decode cX12_undo 41 = .ok (.aload_n 0, 1) := by decide +kernel
theorem dX12_undo_42 : decode cX12_undo 42 = .ok (.getfield 276, 3) := by decide +kernel
theorem dX12_undo_45 : decode cX12_undo 45 = .ok (.imul, 1) := by decide +kernel
theorem dX12_undo_46 : decode cX12_undo 46 = .ok (.iload_n 1, 1) := by decide +kernel
theorem dX12_undo_47 : decode cX12_undo 47 = .ok (.iadd, 1) := by decide +kernel
theorem dX12_undo_48 : decode cX12_undo 48 = .ok (.iaload, 1) := by decide +kernel
theorem dX12_undo_49 : decode cX12_undo 49 = .ok (.iastore, 1) := by decide +kernel
theorem dX12_undo_50 : decode cX12_undo 50 = .ok (.iinc 1 1, 3) := by decide +kernel
theorem dX12_undo_53 : decode cX12_undo 53 = .ok (.goto (-32), 3) := by decide +kernel
theorem dX12_undo_56 : decode cX12_undo 56 = .ok (.aload_n 0, 1) := by decide +kernel
theorem dX12_undo_57 : decode cX12_undo 57 = .ok (.getfield 276, 3) := by decide +kernel
theorem dX12_undo_60 : decode cX12_undo 60 = .ok (.ireturn, 1) := by decide +kernel
theorem dX12_wind_0 : decode cX12_wind 0 = .ok (.iload_n 1, 1) := by decide +kernel
theorem dX12_wind_1 : decode cX12_wind 1 = .ok (.ifCond .lt 19, 3) := by decide +kernel
theorem dX12_wind_4 : decode cX12_wind 4 = .ok (.iload_n 1, 1) := by decide +kernel
theorem dX12_wind_5 : decode cX12_wind 5 = .ok (.aload_n 0, 1) := by decide +kernel
theorem dX12_wind_6 : decode cX12_wind 6 = .ok (.invokevirtual 323, 3) := by decide +kernel
theorem dX12_wind_9 : decode cX12_wind 9 = .ok (.if_icmp .ge 11, 3) := by decide +kernel
theorem dX12_wind_12 : decode cX12_wind 12 = .ok (.aload_n 0, 1) := by decide +kernel
theorem dX12_wind_13 : decode cX12_wind 13 = .ok (.iload_n 1, 1) := by decide +kernel
theorem dX12_wind_14 : decode cX12_wind 14 = .ok (.invokevirtual 297, 3) := by decide +kernel
theorem dX12_wind_17 : decode cX12_wind 17 = .ok (.goto 4, 3) := by decide +kernel
theorem dX12_wind_20 : decode cX12_wind 20 = .ok (.iconst (-1), 1) := by decide +kernel
theorem dX12_wind_21 : decode cX12_wind 21 = .ok (.ireturn, 1) := by decide +kernel
theorem dX1_clear_0 : decode cX1_clear 0 = .ok (.aload_n 0, 1) := by decide +kernel
theorem dX1_clear_1 : decode cX1_clear 1 = .ok (.getfield 11, 3) := by decide +kernel
theorem dX1_clear_4 : decode cX1_clear 4 = .ok (.iconst 0, 1) := by decide +kernel
theorem dX1_clear_5 : decode cX1_clear 5 = .ok (.invokestatic 21, 3) := by decide +kernel
theorem dX1_clear_8 : decode cX1_clear 8 = .ok (.return_, 1) := by decide +kernel
theorem dX11_ahead_0 : decode cX11_ahead 0 = .ok (.iload_n 3, 1) := by decide +kernel
theorem dX11_ahead_1 : decode cX11_ahead 1 = .ok (.iconst 2, 1) := by decide +kernel
theorem dX11_ahead_2 : decode cX11_ahead 2 = .ok (.if_icmp .ne 7, 3) := by decide +kernel
theorem dX11_ahead_5 : decode cX11_ahead 5 = .ok (.iconst 1, 1) := by decide +kernel
theorem dX11_ahead_6 : decode cX11_ahead 6 = .ok (.goto 4, 3) := by decide +kernel
theorem dX11_ahead_9 : decode cX11_ahead 9 = .ok (.iconst 0, 1) := by decide +kernel
theorem dX11_ahead_10 : decode cX11_ahead 10 = .ok (.istore 4, 2) := by decide +kernel
theorem dX11_ahead_12 : decode cX11_ahead 12 = .ok (.aload_n 0, 1) := by decide +kernel
theorem dX11_ahead_13 : decode cX11_ahead 13 = .ok (.getfield 43, 3) := by decide +kernel
theorem dX11_ahead_16 : decode cX11_ahead 16 = .ok (.getfield 111, 3) := by decide +kernel
theorem dX11_ahead_19 : decode cX11_ahead 19 = .ok (.invokevirtual 152, 3) := by decide +kernel
theorem dX11_ahead_22 : decode cX11_ahead 22 = .ok (.ifCond .eq 22, 3) := by decide +kernel
theorem dX11_ahead_25 : decode cX11_ahead 25 = .ok (.iload_n 2, 1) := by decide +kernel
theorem dX11_ahead_26 : decode cX11_ahead 26 = .ok (.iconst 0, 1) := by decide +kernel
theorem dX11_ahead_27 : decode cX11_ahead 27 = .ok (.bipush 100, 2) := by decide +kernel
theorem dX11_ahead_29 : decode cX11_ahead 29 = .ok (.invokestatic 90, 3) := by decide +kernel
theorem dX11_ahead_32 : decode cX11_ahead 32 = .ok (.ifCond .eq 12, 3) := by decide +kernel
theorem dX11_ahead_35 : decode cX11_ahead 35 = .ok (.iload_n 3, 1) := by decide +kernel
theorem dX11_ahead_36 : decode cX11_ahead 36 = .ok (.iconst 0, 1) := by decide +kernel
theorem dX11_ahead_37 : decode cX11_ahead 37 = .ok (.iconst 2, 1) := by decide +kernel
theorem dX11_ahead_38 : decode cX11_ahead 38 = .ok (.invokestatic 90, 3) := by decide +kernel
theorem dX11_ahead_41 : decode cX11_ahead 41 = .ok (.ifCond .ne 5, 3) := by decide +kernel
theorem dX11_ahead_44 : decode cX11_ahead 44 = .ok (.iconst (-1), 1) := by decide +kernel
theorem dX11_ahead_45 : decode cX11_ahead 45 = .ok (.ireturn, 1) := by decide +kernel
theorem dX11_ahead_46 : decode cX11_ahead 46 = .ok (.iload 4, 2) := by decide +kernel
theorem dX11_ahead_48 : decode cX11_ahead 48 = .ok (.ifCond .ne 19, 3) := by decide +kernel
theorem dX11_ahead_51 : decode cX11_ahead 51 = .ok (.aload_n 0, 1) := by decide +kernel
theorem dX11_ahead_52 : decode cX11_ahead 52 = .ok (.getfield 43, 3) := by decide +kernel
theorem dX11_ahead_55 : decode cX11_ahead 55 = .ok (.getfield 111, 3) := by decide +kernel
theorem dX11_ahead_58 : decode cX11_ahead 58 = .ok (.iload_n 1, 1) := by decide +kernel
theorem dX11_ahead_59 : decode cX11_ahead 59 = .ok (.invokevirtual 139, 3) := by decide +kernel
theorem dX11_ahead_62 : decode cX11_ahead 62 = .ok (.ifCond .ne 5, 3) := by decide +kernel
theorem dX11_ahead_65 : decode cX11_ahead 65 = .ok (.iconst (-1), 1) := by decide +kernel
theorem dX11_ahead_66 : decode cX11_ahead 66 = .ok (.ireturn, 1) := by decide +kernel
theorem dX11_ahead_67 : decode cX11_ahead 67 = .ok (.aload_n 0, 1) := by decide +kernel
theorem dX11_ahead_68 : decode cX11_ahead 68 = .ok (.getfield 61, 3) := by decide +kernel
theorem dX11_ahead_71 : decode cX11_ahead 71 = .ok (.aload_n 0, 1) := by decide +kernel
theorem dX11_ahead_72 : decode cX11_ahead 72 = .ok (.getfield 43, 3) := by decide +kernel
theorem dX11_ahead_75 : decode cX11_ahead 75 = .ok (.getfield 111, 3) := by decide +kernel
theorem dX11_ahead_78 : decode cX11_ahead 78 = .ok (.aload_n 0, 1) := by decide +kernel
theorem dX11_ahead_79 : decode cX11_ahead 79 = .ok (.invokevirtual 159, 3) := by decide +kernel
theorem dX11_ahead_82 : decode cX11_ahead 82 = .ok (.invokevirtual 162, 3) := by decide +kernel
theorem dX11_ahead_85 : decode cX11_ahead 85 = .ok (.aload_n 0, 1) := by decide +kernel
theorem dX11_ahead_86 : decode cX11_ahead 86 = .ok (.getfield 61, 3) := by decide +kernel
theorem dX11_ahead_89 : decode cX11_ahead 89 = .ok (.iload_n 2, 1) := by decide +kernel
theorem dX11_ahead_90 : decode cX11_ahead 90 = .ok (.invokevirtual 187, 3) := by decide +kernel
theorem dX11_ahead_93 : decode cX11_ahead 93 = .ok (.iload 4, 2) := by decide +kernel
theorem dX11_ahead_95 : decode cX11_ahead 95 = .ok (.ifCond .eq 17, 3) := by decide +kernel
theorem dX11_ahead_98 : decode cX11_ahead 98 = .ok (.aload_n 0, 1) := by decide +kernel
theorem dX11_ahead_99 : decode cX11_ahead 99 = .ok (.getfield 61, 3) := by decide +kernel
theorem dX11_ahead_102 : decode cX11_ahead 102 = .ok (.getfield 170, 3) := by decide +kernel
theorem dX11_ahead_105 : decode cX11_ahead 105 = .ok (.getfield 124, 3) := by decide +kernel
theorem dX11_ahead_108 : decode cX11_ahead 108 = .ok (.bipush 7, 2) := by decide +kernel
theorem dX11_ahead_110 : decode cX11_ahead 110 = .ok (.iaload, 1) := by decide +kernel
theorem dX11_ahead_111 : decode cX11_ahead 111 = .ok (.ireturn, 1) := by decide +kernel
theorem dX11_ahead_112 : decode cX11_ahead 112 = .ok (.aload_n 0, 1) := by decide +kernel
theorem dX11_ahead_113 : decode cX11_ahead 113 = .ok (.getfield 61, 3) := by decide +kernel
theorem dX11_ahead_116 : decode cX11_ahead 116 = .ok (.getfield 170, 3) := by decide +kernel
theorem dX11_ahead_119 : decode cX11_ahead 119 = .ok (.getfield 124, 3) := by decide +kernel
theorem dX11_ahead_122 : decode cX11_ahead 122 = .ok (.iload_n 3, 1) := by decide +kernel
theorem dX11_ahead_123 : decode cX11_ahead 123 = .ok (.ifCond .ne 8, 3) := by decide +kernel
theorem dX11_ahead_126 : decode cX11_ahead 126 = .ok (.bipush 53, 2) := by decide +kernel
theorem dX11_ahead_128 : decode cX11_ahead 128 = .ok (.goto 5, 3) := by decide +kernel
theorem dX11_ahead_131 : decode cX11_ahead 131 = .ok (.bipush 58, 2) := by decide +kernel
theorem dX11_ahead_133 : decode cX11_ahead 133 = .ok (.iload_n 1, 1) := by decide +kernel
theorem dX11_ahead_134 : decode cX11_ahead 134 = .ok (.iadd, 1) := by decide +kernel
theorem dX11_ahead_135 : decode cX11_ahead 135 = .ok (.iaload, 1) := by decide +kernel
theorem dX11_ahead_136 : decode cX11_ahead 136 = .ok (.ireturn, 1) := by decide +kernel
theorem dX11_count_0 : decode cX11_count 0 = .ok (.iload_n 1, 1) := by decide +kernel
theorem dX11_count_1 : decode cX11_count 1 = .ok (.tableswitch 259 0 15 #[79, 92, 105, 118, 131, 144, 149, 157, 170, 184, 197, 210, 224, 235, 243, 251], 79) := by decide +kernel
theorem dX11_count_80 : decode cX11_count 80 = .ok (.aload_n 0, 1) := by decide +kernel
theorem dX11_count_81 : decode cX11_count 81 = .ok (.getfield 43, 3) := by decide +kernel
theorem dX11_count_84 : decode cX11_count 84 = .ok (.getfield 111, 3) := by decide +kernel
theorem dX11_count_87 : decode cX11_count 87 = .ok (.getfield 124, 3) := by decide +kernel
theorem dX11_count_90 : decode cX11_count 90 = .ok (.iconst 0, 1) := by decide +kernel
theorem dX11_count_91 : decode cX11_count 91 = .ok (.iaload, 1) := by decide +kernel
theorem dX11_count_92 : decode cX11_count 92 = .ok (.ireturn, 1) := by decide +kernel
theorem dX11_count_93 : decode cX11_count 93 = .ok (.aload_n 0, 1) := by decide +kernel
theorem dX11_count_94 : decode cX11_count 94 = .ok (.getfield 43, 3) := by decide +kernel
theorem dX11_count_97 : decode cX11_count 97 = .ok (.getfield 111, 3) := by decide +kernel
theorem dX11_count_100 : decode cX11_count 100 = .ok (.getfield 124, 3) := by decide +kernel
theorem dX11_count_103 : decode cX11_count 103 = .ok (.iconst 1, 1) := by decide +kernel
theorem dX11_count_104 : decode cX11_count 104 = .ok (.iaload, 1) := by decide +kernel
theorem dX11_count_105 : decode cX11_count 105 = .ok (.ireturn, 1) := by decide +kernel
theorem dX11_count_106 : decode cX11_count 106 = .ok (.aload_n 0, 1) := by decide +kernel
theorem dX11_count_107 : decode cX11_count 107 = .ok (.getfield 43, 3) := by decide +kernel
theorem dX11_count_110 : decode cX11_count 110 = .ok (.getfield 111, 3) := by decide +kernel
theorem dX11_count_113 : decode cX11_count 113 = .ok (.getfield 124, 3) := by decide +kernel
theorem dX11_count_116 : decode cX11_count 116 = .ok (.iconst 2, 1) := by decide +kernel
theorem dX11_count_117 : decode cX11_count 117 = .ok (.iaload, 1) := by decide +kernel
theorem dX11_count_118 : decode cX11_count 118 = .ok (.ireturn, 1) := by decide +kernel
theorem dX11_count_119 : decode cX11_count 119 = .ok (.aload_n 0, 1) := by decide +kernel
theorem dX11_count_120 : decode cX11_count 120 = .ok (.getfield 43, 3) := by decide +kernel
theorem dX11_count_123 : decode cX11_count 123 = .ok (.getfield 111, 3) := by decide +kernel
theorem dX11_count_126 : decode cX11_count 126 = .ok (.getfield 124, 3) := by decide +kernel
theorem dX11_count_129 : decode cX11_count 129 = .ok (.iconst 3, 1) := by decide +kernel
theorem dX11_count_130 : decode cX11_count 130 = .ok (.iaload, 1) := by decide +kernel
theorem dX11_count_131 : decode cX11_count 131 = .ok (.ireturn, 1) := by decide +kernel
theorem dX11_count_132 : decode cX11_count 132 = .ok (.aload_n 0, 1) := by decide +kernel
theorem dX11_count_133 : decode cX11_count 133 = .ok (.getfield 43, 3) := by decide +kernel
theorem dX11_count_136 : decode cX11_count 136 = .ok (.getfield 111, 3) := by decide +kernel
theorem dX11_count_139 : decode cX11_count 139 = .ok (.getfield 124, 3) := by decide +kernel
theorem dX11_count_142 : decode cX11_count 142 = .ok (.iconst 4, 1) := by decide +kernel
theorem dX11_count_143 : decode cX11_count 143 = .ok (.iaload, 1) := by decide +kernel
theorem dX11_count_144 : decode cX11_count 144 = .ok (.ireturn, 1) := by decide +kernel
theorem dX11_count_145 : decode cX11_count 145 = .ok (.aload_n 0, 1) := by decide +kernel
theorem dX11_count_146 : decode cX11_count 146 = .ok (.getfield 36, 3) := by decide +kernel
theorem dX11_count_149 : decode cX11_count 149 = .ok (.ireturn, 1) := by decide +kernel
theorem dX11_count_150 : decode cX11_count 150 = .ok (.aload_n 0, 1) := by decide +kernel
theorem dX11_count_151 : decode cX11_count 151 = .ok (.getfield 43, 3) := by decide +kernel
theorem dX11_count_154 : decode cX11_count 154 = .ok (.getfield 133, 3) := by decide +kernel
theorem dX11_count_157 : decode cX11_count 157 = .ok (.ireturn, 1) := by decide +kernel
theorem dX11_count_158 : decode cX11_count 158 = .ok (.aload_n 0, 1) := by decide +kernel
theorem dX11_count_159 : decode cX11_count 159 = .ok (.getfield 43, 3) := by decide +kernel
theorem dX11_count_162 : decode cX11_count 162 = .ok (.getfield 111, 3) := by decide +kernel
theorem dX11_count_165 : decode cX11_count 165 = .ok (.getfield 124, 3) := by decide +kernel
theorem dX11_count_168 : decode cX11_count 168 = .ok (.iconst 5, 1) := by decide +kernel
theorem dX11_count_169 : decode cX11_count 169 = .ok (.iaload, 1) := by decide +kernel
theorem dX11_count_170 : decode cX11_count 170 = .ok (.ireturn, 1) := by decide +kernel
theorem dX11_count_171 : decode cX11_count 171 = .ok (.aload_n 0, 1) := by decide +kernel
theorem dX11_count_172 : decode cX11_count 172 = .ok (.getfield 43, 3) := by decide +kernel
theorem dX11_count_175 : decode cX11_count 175 = .ok (.getfield 111, 3) := by decide +kernel
theorem dX11_count_178 : decode cX11_count 178 = .ok (.getfield 124, 3) := by decide +kernel
theorem dX11_count_181 : decode cX11_count 181 = .ok (.bipush 6, 2) := by decide +kernel
theorem dX11_count_183 : decode cX11_count 183 = .ok (.iaload, 1) := by decide +kernel
theorem dX11_count_184 : decode cX11_count 184 = .ok (.ireturn, 1) := by decide +kernel
theorem dX11_count_185 : decode cX11_count 185 = .ok (.aload_n 0, 1) := by decide +kernel
theorem dX11_count_186 : decode cX11_count 186 = .ok (.getfield 43, 3) := by decide +kernel
theorem dX11_count_189 : decode cX11_count 189 = .ok (.getfield 111, 3) := by decide +kernel
theorem dX11_count_192 : decode cX11_count 192 = .ok (.bipush 53, 2) := by decide +kernel
theorem dX11_count_194 : decode cX11_count 194 = .ok (.invokevirtual 146, 3) := by decide +kernel
theorem dX11_count_197 : decode cX11_count 197 = .ok (.ireturn, 1) := by decide +kernel
theorem dX11_count_198 : decode cX11_count 198 = .ok (.aload_n 0, 1) := by decide +kernel
theorem dX11_count_199 : decode cX11_count 199 = .ok (.getfield 43, 3) := by decide +kernel
theorem dX11_count_202 : decode cX11_count 202 = .ok (.getfield 111, 3) := by decide +kernel
theorem dX11_count_205 : decode cX11_count 205 = .ok (.bipush 58, 2) := by decide +kernel
theorem dX11_count_207 : decode cX11_count 207 = .ok (.invokevirtual 146, 3) := by decide +kernel
theorem dX11_count_210 : decode cX11_count 210 = .ok (.ireturn, 1) := by decide +kernel
theorem dX11_count_211 : decode cX11_count 211 = .ok (.aload_n 0, 1) := by decide +kernel
theorem dX11_count_212 : decode cX11_count 212 = .ok (.getfield 43, 3) := by decide +kernel
theorem dX11_count_215 : decode cX11_count 215 = .ok (.getfield 111, 3) := by decide +kernel
theorem dX11_count_218 : decode cX11_count 218 = .ok (.getfield 124, 3) := by decide +kernel
theorem dX11_count_221 : decode cX11_count 221 = .ok (.bipush 7, 2) := by decide +kernel
theorem dX11_count_223 : decode cX11_count 223 = .ok (.iaload, 1) := by decide +kernel
theorem dX11_count_224 : decode cX11_count 224 = .ok (.ireturn, 1) := by decide +kernel
theorem dX11_count_225 : decode cX11_count 225 = .ok (.aload_n 0, 1) := by decide +kernel
theorem dX11_count_226 : decode cX11_count 226 = .ok (.getfield 43, 3) := by decide +kernel
theorem dX11_count_229 : decode cX11_count 229 = .ok (.getfield 114, 3) := by decide +kernel
theorem dX11_count_232 : decode cX11_count 232 = .ok (.getfield 118, 3) := by decide +kernel
theorem dX11_count_235 : decode cX11_count 235 = .ok (.ireturn, 1) := by decide +kernel
theorem dX11_count_236 : decode cX11_count 236 = .ok (.aload_n 0, 1) := by decide +kernel
theorem dX11_count_237 : decode cX11_count 237 = .ok (.getfield 54, 3) := by decide +kernel
theorem dX11_count_240 : decode cX11_count 240 = .ok (.getfield 123, 3) := by decide +kernel
theorem dX11_count_243 : decode cX11_count 243 = .ok (.ireturn, 1) := by decide +kernel
theorem dX11_count_244 : decode cX11_count 244 = .ok (.aload_n 0, 1) := by decide +kernel
theorem dX11_count_245 : decode cX11_count 245 = .ok (.getfield 43, 3) := by decide +kernel
theorem dX11_count_248 : decode cX11_count 248 = .ok (.getfield 149, 3) := by decide +kernel
theorem dX11_count_251 : decode cX11_count 251 = .ok (.ireturn, 1) := by decide +kernel
theorem dX11_count_252 : decode cX11_count 252 = .ok (.aload_n 0, 1) := by decide +kernel
theorem dX11_count_253 : decode cX11_count 253 = .ok (.getfield 10, 3) := by decide +kernel
theorem dX11_count_256 : decode cX11_count 256 = .ok (.getfield 87, 3) := by decide +kernel
theorem dX11_count_259 : decode cX11_count 259 = .ok (.ireturn, 1) := by decide +kernel
theorem dX11_count_260 : decode cX11_count 260 = .ok (.iconst (-1), 1) := by decide +kernel
theorem dX11_count_261 : decode cX11_count 261 = .ok (.ireturn, 1) := by decide +kernel
theorem dX11_eased_0 : decode cX11_eased 0 = .ok (.aload_n 0, 1) := by decide +kernel
theorem dX11_eased_1 : decode cX11_eased 1 = .ok (.getfield 43, 3) := by decide +kernel
theorem dX11_eased_4 : decode cX11_eased 4 = .ok (.getfield 111, 3) := by decide +kernel
theorem dX11_eased_7 : decode cX11_eased 7 = .ok (.iload_n 1, 1) := by decide +kernel
theorem dX11_eased_8 : decode cX11_eased 8 = .ok (.invokevirtual 139, 3) := by decide +kernel
theorem dX11_eased_11 : decode cX11_eased 11 = .ok (.ifCond .ne 5, 3) := by decide +kernel
theorem dX11_eased_14 : decode cX11_eased 14 = .ok (.iconst (-1), 1) := by decide +kernel
theorem dX11_eased_15 : decode cX11_eased 15 = .ok (.ireturn, 1) := by decide +kernel
theorem dX11_eased_16 : decode cX11_eased 16 = .ok (.aload_n 0, 1) := by decide +kernel
theorem dX11_eased_17 : decode cX11_eased 17 = .ok (.getfield 61, 3) := by decide +kernel
theorem dX11_eased_20 : decode cX11_eased 20 = .ok (.aload_n 0, 1) := by decide +kernel
theorem dX11_eased_21 : decode cX11_eased 21 = .ok (.getfield 43, 3) := by decide +kernel
theorem dX11_eased_24 : decode cX11_eased 24 = .ok (.getfield 111, 3) := by decide +kernel
theorem dX11_eased_27 : decode cX11_eased 27 = .ok (.aload_n 0, 1) := by decide +kernel
theorem dX11_eased_28 : decode cX11_eased 28 = .ok (.invokevirtual 159, 3) := by decide +kernel
theorem dX11_eased_31 : decode cX11_eased 31 = .ok (.invokevirtual 162, 3) := by decide +kernel
theorem dX11_eased_34 : decode cX11_eased 34 = .ok (.aload_n 0, 1) := by decide +kernel
theorem dX11_eased_35 : decode cX11_eased 35 = .ok (.getfield 68, 3) := by decide +kernel
theorem dX11_eased_38 : decode cX11_eased 38 = .ok (.aload_n 0, 1) := by decide +kernel
theorem dX11_eased_39 : decode cX11_eased 39 = .ok (.getfield 61, 3) := by decide +kernel
theorem dX11_eased_42 : decode cX11_eased 42 = .ok (.iload_n 1, 1) := by decide +kernel
theorem dX11_eased_43 : decode cX11_eased 43 = .ok (.iload_n 1, 1) := by decide +kernel
theorem dX11_eased_44 : decode cX11_eased 44 = .ok (.invokevirtual 190, 3) := by decide +kernel
theorem dX11_eased_47 : decode cX11_eased 47 = .ok (.ireturn, 1) := by decide +kernel
theorem dX11_force_0 : decode cX11_force 0 = .ok (.iload_n 1, 1) := by decide +kernel
theorem dX11_force_1 : decode cX11_force 1 = .ok (.iconst (-1), 1) := by decide +kernel
theorem dX11_force_2 : decode cX11_force 2 = .ok (.aload_n 0, 1) := by decide +kernel
theorem dX11_force_3 : decode cX11_force 3 = .ok (.getfield 36, 3) := by decide +kernel
theorem dX11_force_6 : decode cX11_force 6 = .ok (.iconst 1, 1) := by decide +kernel
theorem dX11_force_7 : decode cX11_force 7 = .ok (.isub, 1) := by decide +kernel
theorem dX11_force_8 : decode cX11_force 8 = .ok (.invokestatic 90, 3) := by decide +kernel
theorem dX11_force_11 : decode cX11_force 11 = .ok (.ifCond .ne 6, 3) := by decide +kernel
theorem dX11_force_14 : decode cX11_force 14 = .ok (.bipush (-2), 2) := by decide +kernel
theorem dX11_force_16 : decode cX11_force 16 = .ok (.ireturn, 1) := by decide +kernel
theorem dX11_force_17 : decode cX11_force 17 = .ok (.aload_n 0, 1) := by decide +kernel
theorem dX11_force_18 : decode cX11_force 18 = .ok (.getfield 43, 3) := by decide +kernel
theorem dX11_force_21 : decode cX11_force 21 = .ok (.getfield 133, 3) := by decide +kernel
theorem dX11_force_24 : decode cX11_force 24 = .ok (.istore_n 2, 1) := by decide +kernel
theorem dX11_force_25 : decode cX11_force 25 = .ok (.aload_n 0, 1) := by decide +kernel
theorem dX11_force_26 : decode cX11_force 26 = .ok (.getfield 43, 3) := by decide +kernel
theorem dX11_force_29 : decode cX11_force 29 = .ok (.iload_n 1, 1) := by decide +kernel
theorem dX11_force_30 : decode cX11_force 30 = .ok (.putfield 133, 3) := by decide +kernel
theorem dX11_force_33 : decode cX11_force 33 = .ok (.iload_n 2, 1) := by decide +kernel
theorem dX11_force_34 : decode cX11_force 34 = .ok (.ireturn, 1) := by decide +kernel
theorem dX11_given_0 : decode cX11_given 0 = .ok (.aload_n 0, 1) := by decide +kernel
theorem dX11_given_1 : decode cX11_given 1 = .ok (.getfield 43, 3) := by decide +kernel
theorem dX11_given_4 : decode cX11_given 4 = .ok (.getfield 111, 3) := by decide +kernel
theorem dX11_given_7 : decode cX11_given 7 = .ok (.invokevirtual 152, 3) := by decide +kernel
theorem dX11_given_10 : decode cX11_given 10 = .ok (.ifCond .eq 22, 3) := by decide +kernel
theorem dX11_given_13 : decode cX11_given 13 = .ok (.iload_n 1, 1) := by decide +kernel
theorem dX11_given_14 : decode cX11_given 14 = .ok (.iconst 1, 1) := by decide +kernel
theorem dX11_given_15 : decode cX11_given 15 = .ok (.bipush 40, 2) := by decide +kernel
theorem dX11_given_17 : decode cX11_given 17 = .ok (.invokestatic 90, 3) := by decide +kernel
theorem dX11_given_20 : decode cX11_given 20 = .ok (.ifCond .eq 12, 3) := by decide +kernel
theorem dX11_given_23 : decode cX11_given 23 = .ok (.iload_n 2, 1) := by decide +kernel
theorem dX11_given_24 : decode cX11_given 24 = .ok (.iconst 0, 1) := by decide +kernel
theorem dX11_given_25 : decode cX11_given 25 = .ok (.iconst 1, 1) := by decide +kernel
theorem dX11_given_26 : decode cX11_given 26 = .ok (.invokestatic 90, 3) := by decide +kernel
theorem dX11_given_29 : decode cX11_given 29 = .ok (.ifCond .ne 6, 3) := by decide +kernel
theorem dX11_given_32 : decode cX11_given 32 = .ok (.bipush (-2), 2) := by decide +kernel
theorem dX11_given_34 : decode cX11_given 34 = .ok (.ireturn, 1) := by decide +kernel
theorem dX11_given_35 : decode cX11_given 35 = .ok (.aload_n 0, 1) := by decide +kernel
theorem dX11_given_36 : decode cX11_given 36 = .ok (.getfield 68, 3) := by decide +kernel
theorem dX11_given_39 : decode cX11_given 39 = .ok (.aload_n 0, 1) := by decide +kernel
theorem dX11_given_40 : decode cX11_given 40 = .ok (.getfield 61, 3) := by decide +kernel
theorem dX11_given_43 : decode cX11_given 43 = .ok (.aload_n 0, 1) := by decide +kernel
theorem dX11_given_44 : decode cX11_given 44 = .ok (.getfield 43, 3) := by decide +kernel
theorem dX11_given_47 : decode cX11_given 47 = .ok (.getfield 111, 3) := by decide +kernel
theorem dX11_given_50 : decode cX11_given 50 = .ok (.aload_n 0, 1) := by decide +kernel
theorem dX11_given_51 : decode cX11_given 51 = .ok (.invokevirtual 159, 3) := by decide +kernel
theorem dX11_given_54 : decode cX11_given 54 = .ok (.iload_n 1, 1) := by decide +kernel
theorem dX11_given_55 : decode cX11_given 55 = .ok (.invokevirtual 217, 3) := by decide +kernel
theorem dX11_given_58 : decode cX11_given 58 = .ok (.iload_n 2, 1) := by decide +kernel
theorem dX11_given_59 : decode cX11_given 59 = .ok (.ifCond .ne 13, 3) := by decide +kernel
theorem dX11_given_62 : decode cX11_given 62 = .ok (.aload_n 0, 1) := by decide +kernel
theorem dX11_given_63 : decode cX11_given 63 = .ok (.getfield 68, 3) := by decide +kernel
theorem dX11_given_66 : decode cX11_given 66 = .ok (.getfield 211, 3) := by decide +kernel
theorem dX11_given_69 : decode cX11_given 69 = .ok (.goto 10, 3) := by decide +kernel
theorem dX11_given_72 : decode cX11_given 72 = .ok (.aload_n 0, 1) := by decide +kernel
theorem dX11_given_73 : decode cX11_given 73 = .ok (.getfield 68, 3) := by decide +kernel
theorem dX11_given_76 : decode cX11_given 76 = .ok (.getfield 214, 3) := by decide +kernel
theorem dX11_given_79 : decode cX11_given 79 = .ok (.ireturn, 1) := by decide +kernel
theorem dX11_green_0 : decode cX11_green 0 = .ok (.aload_n 0, 1) := by decide +kernel
theorem dX11_green_1 : decode cX11_green 1 = .ok (.getfield 19, 3) := by decide +kernel
theorem dX11_green_4 : decode cX11_green 4 = .ok (.aload_n 0, 1) := by decide +kernel
theorem dX11_green_5 : decode cX11_green 5 = .ok (.getfield 10, 3) := by decide +kernel
theorem dX11_green_8 : decode cX11_green 8 = .ok (.invokevirtual 94, 3) := by decide +kernel
theorem dX11_green_11 : decode cX11_green 11 = .ok (.istore_n 1, 1) := by decide +kernel
theorem dX11_green_12 : decode cX11_green 12 = .ok (.iload_n 1, 1) := by decide +kernel
theorem dX11_green_13 : decode cX11_green 13 = .ok (.ifCond .eq 8, 3) := by decide +kernel
theorem dX11_green_16 : decode cX11_green 16 = .ok (.bipush (-2), 2) := by decide +kernel
theorem dX11_green_18 : decode cX11_green 18 = .ok (.iload_n 1, 1) := by decide +kernel
theorem dX11_green_19 : decode cX11_green 19 = .ok (.isub, 1) := by decide +kernel
theorem dX11_green_20 : decode cX11_green 20 = .ok (.ireturn, 1) := by decide +kernel
theorem dX11_green_21 : decode cX11_green 21 = .ok (.aload_n 0, 1) := by decide +kernel
theorem dX11_green_22 : decode cX11_green 22 = .ok (.getfield 43, 3) := by decide +kernel
theorem dX11_green_25 : decode cX11_green 25 = .ok (.getfield 98, 3) := by decide +kernel
theorem dX11_green_28 : decode cX11_green 28 = .ok (.aload_n 0, 1) := by decide +kernel
theorem dX11_green_29 : decode cX11_green 29 = .ok (.getfield 19, 3) := by decide +kernel
theorem dX11_green_32 : decode cX11_green 32 = .ok (.getfield 102, 3) := by decide +kernel
theorem dX11_green_35 : decode cX11_green 35 = .ok (.invokevirtual 105, 3) := by decide +kernel
theorem dX11_green_38 : decode cX11_green 38 = .ok (.aload_n 0, 1) := by decide +kernel
theorem dX11_green_39 : decode cX11_green 39 = .ok (.getfield 43, 3) := by decide +kernel
theorem dX11_green_42 : decode cX11_green 42 = .ok (.getfield 111, 3) := by decide +kernel
theorem dX11_green_45 : decode cX11_green 45 = .ok (.aload_n 0, 1) := by decide +kernel
theorem dX11_green_46 : decode cX11_green 46 = .ok (.getfield 19, 3) := by decide +kernel
theorem dX11_green_49 : decode cX11_green 49 = .ok (.getfield 102, 3) := by decide +kernel
theorem dX11_green_52 : decode cX11_green 52 = .ok (.invokevirtual 105, 3) := by decide +kernel
theorem dX11_green_55 : decode cX11_green 55 = .ok (.aload_n 0, 1) := by decide +kernel
theorem dX11_green_56 : decode cX11_green 56 = .ok (.getfield 43, 3) := by decide +kernel
theorem dX11_green_59 : decode cX11_green 59 = .ok (.getfield 114, 3) := by decide +kernel
theorem dX11_green_62 : decode cX11_green 62 = .ok (.iconst 0, 1) := by decide +kernel
theorem dX11_green_63 : decode cX11_green 63 = .ok (.putfield 118, 3) := by decide +kernel
theorem dX11_green_66 : decode cX11_green 66 = .ok (.aload_n 0, 1) := by decide +kernel
theorem dX11_green_67 : decode cX11_green 67 = .ok (.getfield 54, 3) := by decide +kernel
theorem dX11_green_70 : decode cX11_green 70 = .ok (.iconst 0, 1) := by decide +kernel
theorem dX11_green_71 : decode cX11_green 71 = .ok (.putfield 123, 3) := by decide +kernel
theorem dX11_green_74 : decode cX11_green 74 = .ok (.aload_n 0, 1) := by decide +kernel
theorem dX11_green_75 : decode cX11_green 75 = .ok (.getfield 10, 3) := by decide +kernel
theorem dX11_green_78 : decode cX11_green 78 = .ok (.iconst 0, 1) := by decide +kernel
theorem dX11_green_79 : decode cX11_green 79 = .ok (.putfield 87, 3) := by decide +kernel
theorem dX11_green_82 : decode cX11_green 82 = .ok (.aload_n 0, 1) := by decide +kernel
theorem dX11_green_83 : decode cX11_green 83 = .ok (.getfield 43, 3) := by decide +kernel
theorem dX11_green_86 : decode cX11_green 86 = .ok (.getfield 111, 3) := by decide +kernel
theorem dX11_green_89 : decode cX11_green 89 = .ok (.getfield 124, 3) := by decide +kernel
theorem dX11_green_92 : decode cX11_green 92 = .ok (.iconst 4, 1) := by decide +kernel
theorem dX11_green_93 : decode cX11_green 93 = .ok (.iaload, 1) := by decide +kernel
theorem dX11_green_94 : decode cX11_green 94 = .ok (.ireturn, 1) := by decide +kernel
theorem dX11_gusts_0 : decode cX11_gusts 0 = .ok (.aload_n 0, 1) := by decide +kernel
theorem dX11_gusts_1 : decode cX11_gusts 1 = .ok (.getfield 43, 3) := by decide +kernel
theorem dX11_gusts_4 : decode cX11_gusts 4 = .ok (.getfield 111, 3) := by decide +kernel
theorem dX11_gusts_7 : decode cX11_gusts 7 = .ok (.invokevirtual 152, 3) := by decide +kernel
theorem dX11_gusts_10 : decode cX11_gusts 10 = .ok (.ifCond .eq 23, 3) := by decide +kernel
theorem dX11_gusts_13 : decode cX11_gusts 13 = .ok (.iload_n 1, 1) := by decide +kernel
theorem dX11_gusts_14 : decode cX11_gusts 14 = .ok (.iconst 1, 1) := by decide +kernel
theorem dX11_gusts_15 : decode cX11_gusts 15 = .ok (.bipush 10, 2) := by decide +kernel
theorem dX11_gusts_17 : decode cX11_gusts 17 = .ok (.invokestatic 90, 3) := by decide +kernel
theorem dX11_gusts_20 : decode cX11_gusts 20 = .ok (.ifCond .eq 13, 3) := by decide +kernel
theorem dX11_gusts_23 : decode cX11_gusts 23 = .ok (.iload_n 2, 1) := by decide +kernel
theorem dX11_gusts_24 : decode cX11_gusts 24 = .ok (.iconst 1, 1) := by decide +kernel
theorem dX11_gusts_25 : decode cX11_gusts 25 = .ok (.bipush 40, 2) := by decide +kernel
theorem dX11_gusts_27 : decode cX11_gusts 27 = .ok (.invokestatic 90, 3) := by decide +kernel
theorem dX11_gusts_30 : decode cX11_gusts 30 = .ok (.ifCond .ne 5, 3) := by decide +kernel
theorem dX11_gusts_33 : decode cX11_gusts 33 = .ok (.iconst (-1), 1) := by decide +kernel
theorem dX11_gusts_34 : decode cX11_gusts 34 = .ok (.ireturn, 1) := by decide +kernel
theorem dX11_gusts_35 : decode cX11_gusts 35 = .ok (.iload_n 3, 1) := by decide +kernel
theorem dX11_gusts_36 : decode cX11_gusts 36 = .ok (.iconst 0, 1) := by decide +kernel
theorem dX11_gusts_37 : decode cX11_gusts 37 = .ok (.bipush 100, 2) := by decide +kernel
theorem dX11_gusts_39 : decode cX11_gusts 39 = .ok (.invokestatic 90, 3) := by decide +kernel
theorem dX11_gusts_42 : decode cX11_gusts 42 = .ok (.ifCond .eq 13, 3) := by decide +kernel
theorem dX11_gusts_45 : decode cX11_gusts 45 = .ok (.iload 4, 2) := by decide +kernel
theorem dX11_gusts_47 : decode cX11_gusts 47 = .ok (.iconst 0, 1) := by decide +kernel
theorem dX11_gusts_48 : decode cX11_gusts 48 = .ok (.iconst 1, 1) := by decide +kernel
theorem dX11_gusts_49 : decode cX11_gusts 49 = .ok (.invokestatic 90, 3) := by decide +kernel
theorem dX11_gusts_52 : decode cX11_gusts 52 = .ok (.ifCond .ne 5, 3) := by decide +kernel
theorem dX11_gusts_55 : decode cX11_gusts 55 = .ok (.iconst (-1), 1) := by decide +kernel
theorem dX11_gusts_56 : decode cX11_gusts 56 = .ok (.ireturn, 1) := by decide +kernel
theorem dX11_gusts_57 : decode cX11_gusts 57 = .ok (.aload_n 0, 1) := by decide +kernel
theorem dX11_gusts_58 : decode cX11_gusts 58 = .ok (.getfield 68, 3) := by decide +kernel
theorem dX11_gusts_61 : decode cX11_gusts 61 = .ok (.aload_n 0, 1) := by decide +kernel
theorem dX11_gusts_62 : decode cX11_gusts 62 = .ok (.getfield 43, 3) := by decide +kernel
theorem dX11_gusts_65 : decode cX11_gusts 65 = .ok (.getfield 149, 3) := by decide +kernel
theorem dX11_gusts_68 : decode cX11_gusts 68 = .ok (.putfield 259, 3) := by decide +kernel
theorem dX11_gusts_71 : decode cX11_gusts 71 = .ok (.iconst 0, 1) := by decide +kernel
theorem dX11_gusts_72 : decode cX11_gusts 72 = .ok (.istore 5, 2) := by decide +kernel
theorem dX11_gusts_74 : decode cX11_gusts 74 = .ok (.iconst 0, 1) := by decide +kernel
theorem dX11_gusts_75 : decode cX11_gusts 75 = .ok (.istore 6, 2) := by decide +kernel
theorem dX11_gusts_77 : decode cX11_gusts 77 = .ok (.iconst 0, 1) := by decide +kernel
theorem dX11_gusts_78 : decode cX11_gusts 78 = .ok (.istore 7, 2) := by decide +kernel
theorem dX11_gusts_80 : decode cX11_gusts 80 = .ok (.iload 7, 2) := by decide +kernel
theorem dX11_gusts_82 : decode cX11_gusts 82 = .ok (.iload_n 1, 1) := by decide +kernel
theorem dX11_gusts_83 : decode cX11_gusts 83 = .ok (.if_icmp .ge 84, 3) := by decide +kernel
theorem dX11_gusts_86 : decode cX11_gusts 86 = .ok (.aload_n 0, 1) := by decide +kernel
theorem dX11_gusts_87 : decode cX11_gusts 87 = .ok (.getfield 61, 3) := by decide +kernel
theorem dX11_gusts_90 : decode cX11_gusts 90 = .ok (.aload_n 0, 1) := by decide +kernel
theorem dX11_gusts_91 : decode cX11_gusts 91 = .ok (.getfield 43, 3) := by decide +kernel
theorem dX11_gusts_94 : decode cX11_gusts 94 = .ok (.getfield 111, 3) := by decide +kernel
theorem dX11_gusts_97 : decode cX11_gusts 97 = .ok (.aload_n 0, 1) := by decide +kernel
theorem dX11_gusts_98 : decode cX11_gusts 98 = .ok (.invokevirtual 159, 3) := by decide +kernel
theorem dX11_gusts_101 : decode cX11_gusts 101 = .ok (.invokevirtual 162, 3) := by decide +kernel
theorem dX11_gusts_104 : decode cX11_gusts 104 = .ok (.aload_n 0, 1) := by decide +kernel
theorem dX11_gusts_105 : decode cX11_gusts 105 = .ok (.getfield 68, 3) := by decide +kernel
theorem dX11_gusts_108 : decode cX11_gusts 108 = .ok (.aload_n 0, 1) := by decide +kernel
theorem dX11_gusts_109 : decode cX11_gusts 109 = .ok (.getfield 61, 3) := by decide +kernel
theorem dX11_gusts_112 : decode cX11_gusts 112 = .ok (.iload_n 2, 1) := by decide +kernel
theorem dX11_gusts_113 : decode cX11_gusts 113 = .ok (.iload_n 3, 1) := by decide +kernel
theorem dX11_gusts_114 : decode cX11_gusts 114 = .ok (.invokevirtual 262, 3) := by decide +kernel
theorem dX11_gusts_117 : decode cX11_gusts 117 = .ok (.iload 5, 2) := by decide +kernel
theorem dX11_gusts_119 : decode cX11_gusts 119 = .ok (.aload_n 0, 1) := by decide +kernel
theorem dX11_gusts_120 : decode cX11_gusts 120 = .ok (.getfield 68, 3) := by decide +kernel
theorem dX11_gusts_123 : decode cX11_gusts 123 = .ok (.aload_n 0, 1) := by decide +kernel
theorem dX11_gusts_124 : decode cX11_gusts 124 = .ok (.getfield 43, 3) := by decide +kernel
theorem dX11_gusts_127 : decode cX11_gusts 127 = .ok (.getfield 111, 3) := by decide +kernel
theorem dX11_gusts_130 : decode cX11_gusts 130 = .ok (.aload_n 0, 1) := by decide +kernel
theorem dX11_gusts_131 : decode cX11_gusts 131 = .ok (.getfield 61, 3) := by decide +kernel
theorem dX11_gusts_134 : decode cX11_gusts 134 = .ok (.getfield 170, 3) := by decide +kernel
theorem dX11_gusts_137 : decode cX11_gusts 137 = .ok (.invokevirtual 266, 3) := by decide +kernel
theorem dX11_gusts_140 : decode cX11_gusts 140 = .ok (.iadd, 1) := by decide +kernel
theorem dX11_gusts_141 : decode cX11_gusts 141 = .ok (.istore 5, 2) := by decide +kernel
theorem dX11_gusts_143 : decode cX11_gusts 143 = .ok (.iload 6, 2) := by decide +kernel
theorem dX11_gusts_145 : decode cX11_gusts 145 = .ok (.aload_n 0, 1) := by decide +kernel
theorem dX11_gusts_146 : decode cX11_gusts 146 = .ok (.getfield 61, 3) := by decide +kernel
theorem dX11_gusts_149 : decode cX11_gusts 149 = .ok (.getfield 170, 3) := by decide +kernel
theorem dX11_gusts_152 : decode cX11_gusts 152 = .ok (.getfield 124, 3) := by decide +kernel
theorem dX11_gusts_155 : decode cX11_gusts 155 = .ok (.bipush 7, 2) := by decide +kernel
theorem dX11_gusts_157 : decode cX11_gusts 157 = .ok (.iaload, 1) := by decide +kernel
theorem dX11_gusts_158 : decode cX11_gusts 158 = .ok (.iadd, 1) := by decide +kernel
theorem dX11_gusts_159 : decode cX11_gusts 159 = .ok (.istore 6, 2) := by decide +kernel
theorem dX11_gusts_161 : decode cX11_gusts 161 = .ok (.iinc 7 1, 3) := by decide +kernel
theorem dX11_gusts_164 : decode cX11_gusts 164 = .ok (.goto (-84), 3) := by decide +kernel
theorem dX11_gusts_167 : decode cX11_gusts 167 = .ok (.iload 4, 2) := by decide +kernel
theorem dX11_gusts_169 : decode cX11_gusts 169 = .ok (.ifCond .ne 8, 3) := by decide +kernel
theorem dX11_gusts_172 : decode cX11_gusts 172 = .ok (.iload 5, 2) := by decide +kernel
theorem dX11_gusts_174 : decode cX11_gusts 174 = .ok (.goto 5, 3) := by decide +kernel
theorem dX11_gusts_177 : decode cX11_gusts 177 = .ok (.iload 6, 2) := by decide +kernel
theorem dX11_gusts_179 : decode cX11_gusts 179 = .ok (.ireturn, 1) := by decide +kernel
theorem dX11_image_0 : decode cX11_image 0 = .ok (.iload_n 1, 1) := by decide +kernel
theorem dX11_image_1 : decode cX11_image 1 = .ok (.iconst 0, 1) := by decide +kernel
theorem dX11_image_2 : decode cX11_image 2 = .ok (.iconst 3, 1) := by decide +kernel
theorem dX11_image_3 : decode cX11_image 3 = .ok (.invokestatic 90, 3) := by decide +kernel
theorem dX11_image_6 : decode cX11_image 6 = .ok (.ifCond .ne 5, 3) := by decide +kernel
theorem dX11_image_9 : decode cX11_image 9 = .ok (.iconst (-1), 1) := by decide +kernel
theorem dX11_image_10 : decode cX11_image 10 = .ok (.ireturn, 1) := by decide +kernel
theorem dX11_image_11 : decode cX11_image 11 = .ok (.aload_n 0, 1) := by decide +kernel
theorem dX11_image_12 : decode cX11_image 12 = .ok (.getfield 47, 3) := by decide +kernel
theorem dX11_image_15 : decode cX11_image 15 = .ok (.iload_n 1, 1) := by decide +kernel
theorem dX11_image_16 : decode cX11_image 16 = .ok (.aaload, 1) := by decide +kernel
theorem dX11_image_17 : decode cX11_image 17 = .ok (.aload_n 0, 1) := by decide +kernel
theorem dX11_image_18 : decode cX11_image 18 = .ok (.getfield 43, 3) := by decide +kernel
theorem dX11_image_21 : decode cX11_image 21 = .ok (.invokevirtual 270, 3) := by decide +kernel
theorem dX11_image_24 : decode cX11_image 24 = .ok (.aload_n 0, 1) := by decide +kernel
theorem dX11_image_25 : decode cX11_image 25 = .ok (.getfield 47, 3) := by decide +kernel
theorem dX11_image_28 : decode cX11_image 28 = .ok (.iload_n 1, 1) := by decide +kernel
theorem dX11_image_29 : decode cX11_image 29 = .ok (.aaload, 1) := by decide +kernel
theorem dX11_image_30 : decode cX11_image 30 = .ok (.iconst 1, 1) := by decide +kernel
theorem dX11_image_31 : decode cX11_image 31 = .ok (.putfield 273, 3) := by decide +kernel
theorem dX11_image_34 : decode cX11_image 34 = .ok (.aload_n 0, 1) := by decide +kernel
theorem dX11_image_35 : decode cX11_image 35 = .ok (.getfield 43, 3) := by decide +kernel
theorem dX11_image_38 : decode cX11_image 38 = .ok (.getfield 111, 3) := by decide +kernel
theorem dX11_image_41 : decode cX11_image 41 = .ok (.getfield 124, 3) := by decide +kernel
theorem dX11_image_44 : decode cX11_image 44 = .ok (.iconst 5, 1) := by decide +kernel
theorem dX11_image_45 : decode cX11_image 45 = .ok (.iaload, 1) := by decide +kernel
theorem dX11_image_46 : decode cX11_image 46 = .ok (.ireturn, 1) := by decide +kernel
theorem dX11_pence_0 : decode cX11_pence 0 = .ok (.iload_n 1, 1) := by decide +kernel
theorem dX11_pence_1 : decode cX11_pence 1 = .ok (.iconst 0, 1) := by decide +kernel
theorem dX11_pence_2 : decode cX11_pence 2 = .ok (.sipush 9999, 3) := by decide +kernel
theorem dX11_pence_5 : decode cX11_pence 5 = .ok (.invokestatic 90, 3) := by decide +kernel
theorem dX11_pence_8 : decode cX11_pence 8 = .ok (.ifCond .eq 17, 3) := by decide +kernel
theorem dX11_pence_11 : decode cX11_pence 11 = .ok (.aload_n 0, 1) := by decide +kernel
theorem dX11_pence_12 : decode cX11_pence 12 = .ok (.getfield 43, 3) := by decide +kernel
theorem dX11_pence_15 : decode cX11_pence 15 = .ok (.getfield 111, 3) := by decide +kernel
theorem dX11_pence_18 : decode cX11_pence 18 = .ok (.iload_n 2, 1) := by decide +kernel
theorem dX11_pence_19 : decode cX11_pence 19 = .ok (.invokevirtual 136, 3) := by decide +kernel
theorem dX11_pence_22 : decode cX11_pence 22 = .ok (.ifCond .ne 5, 3) := by decide +kernel
theorem dX11_pence_25 : decode cX11_pence 25 = .ok (.iconst (-1), 1) := by decide +kernel
theorem dX11_pence_26 : decode cX11_pence 26 = .ok (.ireturn, 1) := by decide +kernel
theorem dX11_pence_27 : decode cX11_pence 27 = .ok (.aload_n 0, 1) := by decide +kernel
theorem dX11_pence_28 : decode cX11_pence 28 = .ok (.getfield 68, 3) := by decide +kernel
theorem dX11_pence_31 : decode cX11_pence 31 = .ok (.aload_n 0, 1) := by decide +kernel
theorem dX11_pence_32 : decode cX11_pence 32 = .ok (.getfield 43, 3) := by decide +kernel
theorem dX11_pence_35 : decode cX11_pence 35 = .ok (.getfield 111, 3) := by decide +kernel
theorem dX11_pence_38 : decode cX11_pence 38 = .ok (.iload_n 1, 1) := by decide +kernel
theorem dX11_pence_39 : decode cX11_pence 39 = .ok (.iload_n 2, 1) := by decide +kernel
theorem dX11_pence_40 : decode cX11_pence 40 = .ok (.invokevirtual 228, 3) := by decide +kernel
theorem dX11_pence_43 : decode cX11_pence 43 = .ok (.ireturn, 1) := by decide +kernel
theorem dX11_rests_0 : decode cX11_rests 0 = .ok (.aload_n 0, 1) := by decide +kernel
theorem dX11_rests_1 : decode cX11_rests 1 = .ok (.getfield 43, 3) := by decide +kernel
theorem dX11_rests_4 : decode cX11_rests 4 = .ok (.getfield 111, 3) := by decide +kernel
theorem dX11_rests_7 : decode cX11_rests 7 = .ok (.iload_n 1, 1) := by decide +kernel
theorem dX11_rests_8 : decode cX11_rests 8 = .ok (.invokevirtual 139, 3) := by decide +kernel
theorem dX11_rests_11 : decode cX11_rests 11 = .ok (.ifCond .eq 22, 3) := by decide +kernel
theorem dX11_rests_14 : decode cX11_rests 14 = .ok (.aload_n 0, 1) := by decide +kernel
theorem dX11_rests_15 : decode cX11_rests 15 = .ok (.getfield 43, 3) := by decide +kernel
theorem dX11_rests_18 : decode cX11_rests 18 = .ok (.getfield 111, 3) := by decide +kernel
theorem dX11_rests_21 : decode cX11_rests 21 = .ok (.iload_n 2, 1) := by decide +kernel
theorem dX11_rests_22 : decode cX11_rests 22 = .ok (.invokevirtual 139, 3) := by decide +kernel
theorem dX11_rests_25 : decode cX11_rests 25 = .ok (.ifCond .eq 8, 3) := by decide +kernel
theorem dX11_rests_28 : decode cX11_rests 28 = .ok (.iload_n 1, 1) := by decide +kernel
theorem dX11_rests_29 : decode cX11_rests 29 = .ok (.iload_n 2, 1) := by decide +kernel
theorem dX11_rests_30 : decode cX11_rests 30 = .ok (.if_icmp .ne 5, 3) := by decide +kernel
theorem dX11_rests_33 : decode cX11_rests 33 = .ok (.iconst (-1), 1) := by decide +kernel
theorem dX11_rests_34 : decode cX11_rests 34 = .ok (.ireturn, 1) := by decide +kernel
theorem dX11_rests_35 : decode cX11_rests 35 = .ok (.iload_n 3, 1) := by decide +kernel
theorem dX11_rests_36 : decode cX11_rests 36 = .ok (.iconst 1, 1) := by decide +kernel
theorem dX11_rests_37 : decode cX11_rests 37 = .ok (.bipush 20, 2) := by decide +kernel
theorem dX11_rests_39 : decode cX11_rests 39 = .ok (.invokestatic 90, 3) := by decide +kernel
theorem dX11_rests_42 : decode cX11_rests 42 = .ok (.ifCond .eq 13, 3) := by decide +kernel
theorem dX11_rests_45 : decode cX11_rests 45 = .ok (.iload 4, 2) := by decide +kernel
theorem dX11_rests_47 : decode cX11_rests 47 = .ok (.iconst 0, 1) := by decide +kernel
theorem dX11_rests_48 : decode cX11_rests 48 = .ok (.iconst 2, 1) := by decide +kernel
theorem dX11_rests_49 : decode cX11_rests 49 = .ok (.invokestatic 90, 3) := by decide +kernel
theorem dX11_rests_52 : decode cX11_rests 52 = .ok (.ifCond .ne 5, 3) := by decide +kernel
theorem dX11_rests_55 : decode cX11_rests 55 = .ok (.iconst (-1), 1) := by decide +kernel
theorem dX11_rests_56 : decode cX11_rests 56 = .ok (.ireturn, 1) := by decide +kernel
theorem dX11_rests_57 : decode cX11_rests 57 = .ok (.aload_n 0, 1) := by decide +kernel
theorem dX11_rests_58 : decode cX11_rests 58 = .ok (.getfield 68, 3) := by decide +kernel
theorem dX11_rests_61 : decode cX11_rests 61 = .ok (.aload_n 0, 1) := by decide +kernel
theorem dX11_rests_62 : decode cX11_rests 62 = .ok (.getfield 61, 3) := by decide +kernel
theorem dX11_rests_65 : decode cX11_rests 65 = .ok (.aload_n 0, 1) := by decide +kernel
theorem dX11_rests_66 : decode cX11_rests 66 = .ok (.getfield 43, 3) := by decide +kernel
theorem dX11_rests_69 : decode cX11_rests 69 = .ok (.getfield 111, 3) := by decide +kernel
theorem dX11_rests_72 : decode cX11_rests 72 = .ok (.aload_n 0, 1) := by decide +kernel
theorem dX11_rests_73 : decode cX11_rests 73 = .ok (.invokevirtual 159, 3) := by decide +kernel
theorem dX11_rests_76 : decode cX11_rests 76 = .ok (.iload_n 1, 1) := by decide +kernel
theorem dX11_rests_77 : decode cX11_rests 77 = .ok (.iload_n 2, 1) := by decide +kernel
theorem dX11_rests_78 : decode cX11_rests 78 = .ok (.iload_n 3, 1) := by decide +kernel
theorem dX11_rests_79 : decode cX11_rests 79 = .ok (.invokevirtual 221, 3) := by decide +kernel
theorem dX11_rests_82 : decode cX11_rests 82 = .ok (.aload_n 0, 1) := by decide +kernel
theorem dX11_rests_83 : decode cX11_rests 83 = .ok (.getfield 68, 3) := by decide +kernel
theorem dX11_rests_86 : decode cX11_rests 86 = .ok (.aload_n 0, 1) := by decide +kernel
theorem dX11_rests_87 : decode cX11_rests 87 = .ok (.getfield 43, 3) := by decide +kernel
theorem dX11_rests_90 : decode cX11_rests 90 = .ok (.getfield 111, 3) := by decide +kernel
theorem dX11_rests_93 : decode cX11_rests 93 = .ok (.getfield 124, 3) := by decide +kernel
theorem dX11_rests_96 : decode cX11_rests 96 = .ok (.iconst 3, 1) := by decide +kernel
theorem dX11_rests_97 : decode cX11_rests 97 = .ok (.iaload, 1) := by decide +kernel
theorem dX11_rests_98 : decode cX11_rests 98 = .ok (.iload 4, 2) := by decide +kernel
theorem dX11_rests_100 : decode cX11_rests 100 = .ok (.invokevirtual 225, 3) := by decide +kernel
theorem dX11_rests_103 : decode cX11_rests 103 = .ok (.ireturn, 1) := by decide +kernel
theorem dX11_round_0 : decode cX11_round 0 = .ok (.aload_n 0, 1) := by decide +kernel
theorem dX11_round_1 : decode cX11_round 1 = .ok (.getfield 43, 3) := by decide +kernel
theorem dX11_round_4 : decode cX11_round 4 = .ok (.getfield 111, 3) := by decide +kernel
theorem dX11_round_7 : decode cX11_round 7 = .ok (.invokevirtual 152, 3) := by decide +kernel
theorem dX11_round_10 : decode cX11_round 10 = .ok (.ifCond .eq 21, 3) := by decide +kernel
theorem dX11_round_13 : decode cX11_round 13 = .ok (.aload_n 0, 1) := by decide +kernel
theorem dX11_round_14 : decode cX11_round 14 = .ok (.getfield 43, 3) := by decide +kernel
theorem dX11_round_17 : decode cX11_round 17 = .ok (.getfield 111, 3) := by decide +kernel
