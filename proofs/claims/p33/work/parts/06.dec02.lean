theorem dX11_hold_37 : decode cX11_hold 37 = .ok (.iload_n 1, 1) := by decide +kernel
theorem dX11_hold_38 : decode cX11_hold 38 = .ok (.aload_n 2, 1) := by decide +kernel
theorem dX11_hold_39 : decode cX11_hold 39 = .ok (.iload_n 3, 1) := by decide +kernel
theorem dX11_hold_40 : decode cX11_hold 40 = .ok (.iload 4, 2) := by decide +kernel
theorem dX11_hold_42 : decode cX11_hold 42 = .ok (.iadd, 1) := by decide +kernel
theorem dX11_hold_43 : decode cX11_hold 43 = .ok (.invokevirtual 142, 3) := by decide +kernel
theorem dX11_hold_46 : decode cX11_hold 46 = .ok (.invokevirtual 204, 3) := by decide +kernel
theorem dX11_hold_49 : decode cX11_hold 49 = .ok (.ifCond .ne 6, 3) := by decide +kernel
theorem dX11_hold_52 : decode cX11_hold 52 = .ok (.iload 4, 2) := by decide +kernel
theorem dX11_hold_54 : decode cX11_hold 54 = .ok (.ireturn, 1) := by decide +kernel
theorem dX11_hold_55 : decode cX11_hold 55 = .ok (.iinc 4 1, 3) := by decide +kernel
theorem dX11_hold_58 : decode cX11_hold 58 = .ok (.goto (-29), 3) := by decide +kernel
theorem dX11_hold_61 : decode cX11_hold 61 = .ok (.bipush (-2), 2) := by decide +kernel
theorem dX11_hold_63 : decode cX11_hold 63 = .ok (.ireturn, 1) := by decide +kernel
theorem dX11_init_0 : decode cX11_init 0 = .ok (.aload_n 0, 1) := by decide +kernel
theorem dX11_init_1 : decode cX11_init 1 = .ok (.invokespecial 1, 3) := by decide +kernel
theorem dX11_init_4 : decode cX11_init 4 = .ok (.aload_n 0, 1) := by decide +kernel
theorem dX11_init_5 : decode cX11_init 5 = .ok (.new 7, 3) := by decide +kernel
theorem dX11_init_8 : decode cX11_init 8 = .ok (.dup, 1) := by decide +kernel
theorem dX11_init_9 : decode cX11_init 9 = .ok (.invokespecial 9, 3) := by decide +kernel
theorem dX11_init_12 : decode cX11_init 12 = .ok (.putfield 10, 3) := by decide +kernel
theorem dX11_init_15 : decode cX11_init 15 = .ok (.aload_n 0, 1) := by decide +kernel
theorem dX11_init_16 : decode cX11_init 16 = .ok (.new 16, 3) := by decide +kernel
theorem dX11_init_19 : decode cX11_init 19 = .ok (.dup, 1) := by decide +kernel
theorem dX11_init_20 : decode cX11_init 20 = .ok (.invokespecial 18, 3) := by decide +kernel
theorem dX11_init_23 : decode cX11_init 23 = .ok (.putfield 19, 3) := by decide +kernel
theorem dX11_init_26 : decode cX11_init 26 = .ok (.aload_n 0, 1) := by decide +kernel
theorem dX11_init_27 : decode cX11_init 27 = .ok (.new 23, 3) := by decide +kernel
theorem dX11_init_30 : decode cX11_init 30 = .ok (.dup, 1) := by decide +kernel
theorem dX11_init_31 : decode cX11_init 31 = .ok (.invokespecial 25, 3) := by decide +kernel
theorem dX11_init_34 : decode cX11_init 34 = .ok (.putfield 26, 3) := by decide +kernel
theorem dX11_init_37 : decode cX11_init 37 = .ok (.aload_n 0, 1) := by decide +kernel
theorem dX11_init_38 : decode cX11_init 38 = .ok (.bipush 6, 2) := by decide +kernel
theorem dX11_init_40 : decode cX11_init 40 = .ok (.anewarray 30, 3) := by decide +kernel
theorem dX11_init_43 : decode cX11_init 43 = .ok (.putfield 32, 3) := by decide +kernel
theorem dX11_init_46 : decode cX11_init 46 = .ok (.aload_n 0, 1) := by decide +kernel
theorem dX11_init_47 : decode cX11_init 47 = .ok (.iconst 0, 1) := by decide +kernel
theorem dX11_init_48 : decode cX11_init 48 = .ok (.putfield 36, 3) := by decide +kernel
theorem dX11_init_51 : decode cX11_init 51 = .ok (.aload_n 0, 1) := by decide +kernel
theorem dX11_init_52 : decode cX11_init 52 = .ok (.new 40, 3) := by decide +kernel
theorem dX11_init_55 : decode cX11_init 55 = .ok (.dup, 1) := by decide +kernel
theorem dX11_init_56 : decode cX11_init 56 = .ok (.invokespecial 42, 3) := by decide +kernel
theorem dX11_init_59 : decode cX11_init 59 = .ok (.putfield 43, 3) := by decide +kernel
theorem dX11_init_62 : decode cX11_init 62 = .ok (.aload_n 0, 1) := by decide +kernel
theorem dX11_init_63 : decode cX11_init 63 = .ok (.iconst 4, 1) := by decide +kernel
theorem dX11_init_64 : decode cX11_init 64 = .ok (.anewarray 40, 3) := by decide +kernel
theorem dX11_init_67 : decode cX11_init 67 = .ok (.putfield 47, 3) := by decide +kernel
theorem dX11_init_70 : decode cX11_init 70 = .ok (.aload_n 0, 1) := by decide +kernel
theorem dX11_init_71 : decode cX11_init 71 = .ok (.new 51, 3) := by decide +kernel
theorem dX11_init_74 : decode cX11_init 74 = .ok (.dup, 1) := by decide +kernel
theorem dX11_init_75 : decode cX11_init 75 = .ok (.invokespecial 53, 3) := by decide +kernel
theorem dX11_init_78 : decode cX11_init 78 = .ok (.putfield 54, 3) := by decide +kernel
theorem dX11_init_81 : decode cX11_init 81 = .ok (.aload_n 0, 1) := by decide +kernel
theorem dX11_init_82 : decode cX11_init 82 = .ok (.new 58, 3) := by decide +kernel
theorem dX11_init_85 : decode cX11_init 85 = .ok (.dup, 1) := by decide +kernel
theorem dX11_init_86 : decode cX11_init 86 = .ok (.invokespecial 60, 3) := by decide +kernel
theorem dX11_init_89 : decode cX11_init 89 = .ok (.putfield 61, 3) := by decide +kernel
theorem dX11_init_92 : decode cX11_init 92 = .ok (.aload_n 0, 1) := by decide +kernel
theorem dX11_init_93 : decode cX11_init 93 = .ok (.new 65, 3) := by decide +kernel
theorem dX11_init_96 : decode cX11_init 96 = .ok (.dup, 1) := by decide +kernel
theorem dX11_init_97 : decode cX11_init 97 = .ok (.invokespecial 67, 3) := by decide +kernel
theorem dX11_init_100 : decode cX11_init 100 = .ok (.putfield 68, 3) := by decide +kernel
theorem dX11_init_103 : decode cX11_init 103 = .ok (.aload_n 0, 1) := by decide +kernel
theorem dX11_init_104 : decode cX11_init 104 = .ok (.new 72, 3) := by decide +kernel
theorem dX11_init_107 : decode cX11_init 107 = .ok (.dup, 1) := by decide +kernel
theorem dX11_init_108 : decode cX11_init 108 = .ok (.invokespecial 74, 3) := by decide +kernel
theorem dX11_init_111 : decode cX11_init 111 = .ok (.putfield 75, 3) := by decide +kernel
theorem dX11_init_114 : decode cX11_init 114 = .ok (.iconst 0, 1) := by decide +kernel
theorem dX11_init_115 : decode cX11_init 115 = .ok (.istore_n 1, 1) := by decide +kernel
theorem dX11_init_116 : decode cX11_init 116 = .ok (.iload_n 1, 1) := by decide +kernel
theorem dX11_init_117 : decode cX11_init 117 = .ok (.iconst 4, 1) := by decide +kernel
theorem dX11_init_118 : decode cX11_init 118 = .ok (.if_icmp .ge 22, 3) := by decide +kernel
theorem dX11_init_121 : decode cX11_init 121 = .ok (.aload_n 0, 1) := by decide +kernel
theorem dX11_init_122 : decode cX11_init 122 = .ok (.getfield 47, 3) := by decide +kernel
theorem dX11_init_125 : decode cX11_init 125 = .ok (.iload_n 1, 1) := by decide +kernel
theorem dX11_init_126 : decode cX11_init 126 = .ok (.new 40, 3) := by decide +kernel
theorem dX11_init_129 : decode cX11_init 129 = .ok (.dup, 1) := by decide +kernel
theorem dX11_init_130 : decode cX11_init 130 = .ok (.invokespecial 42, 3) := by decide +kernel
theorem dX11_init_133 : decode cX11_init 133 = .ok (.aastore, 1) := by decide +kernel
theorem dX11_init_134 : decode cX11_init 134 = .ok (.iinc 1 1, 3) := by decide +kernel
theorem dX11_init_137 : decode cX11_init 137 = .ok (.goto (-21), 3) := by decide +kernel
theorem dX11_init_140 : decode cX11_init 140 = .ok (.return_, 1) := by decide +kernel
theorem dX11_look_0 : decode cX11_look 0 = .ok (.aload_n 0, 1) := by decide +kernel
theorem dX11_look_1 : decode cX11_look 1 = .ok (.getfield 43, 3) := by decide +kernel
theorem dX11_look_4 : decode cX11_look 4 = .ok (.getfield 111, 3) := by decide +kernel
theorem dX11_look_7 : decode cX11_look 7 = .ok (.invokevirtual 152, 3) := by decide +kernel
theorem dX11_look_10 : decode cX11_look 10 = .ok (.ifCond .eq 22, 3) := by decide +kernel
theorem dX11_look_13 : decode cX11_look 13 = .ok (.iload_n 1, 1) := by decide +kernel
theorem dX11_look_14 : decode cX11_look 14 = .ok (.iconst 0, 1) := by decide +kernel
theorem dX11_look_15 : decode cX11_look 15 = .ok (.bipush 40, 2) := by decide +kernel
theorem dX11_look_17 : decode cX11_look 17 = .ok (.invokestatic 90, 3) := by decide +kernel
theorem dX11_look_20 : decode cX11_look 20 = .ok (.ifCond .eq 12, 3) := by decide +kernel
theorem dX11_look_23 : decode cX11_look 23 = .ok (.iload_n 2, 1) := by decide +kernel
theorem dX11_look_24 : decode cX11_look 24 = .ok (.iconst 0, 1) := by decide +kernel
theorem dX11_look_25 : decode cX11_look 25 = .ok (.iconst 1, 1) := by decide +kernel
theorem dX11_look_26 : decode cX11_look 26 = .ok (.invokestatic 90, 3) := by decide +kernel
theorem dX11_look_29 : decode cX11_look 29 = .ok (.ifCond .ne 5, 3) := by decide +kernel
theorem dX11_look_32 : decode cX11_look 32 = .ok (.iconst (-1), 1) := by decide +kernel
theorem dX11_look_33 : decode cX11_look 33 = .ok (.ireturn, 1) := by decide +kernel
theorem dX11_look_34 : decode cX11_look 34 = .ok (.aload_n 0, 1) := by decide +kernel
theorem dX11_look_35 : decode cX11_look 35 = .ok (.getfield 75, 3) := by decide +kernel
theorem dX11_look_38 : decode cX11_look 38 = .ok (.aload_n 0, 1) := by decide +kernel
theorem dX11_look_39 : decode cX11_look 39 = .ok (.getfield 61, 3) := by decide +kernel
theorem dX11_look_42 : decode cX11_look 42 = .ok (.aload_n 0, 1) := by decide +kernel
theorem dX11_look_43 : decode cX11_look 43 = .ok (.getfield 43, 3) := by decide +kernel
theorem dX11_look_46 : decode cX11_look 46 = .ok (.aload_n 0, 1) := by decide +kernel
theorem dX11_look_47 : decode cX11_look 47 = .ok (.getfield 32, 3) := by decide +kernel
theorem dX11_look_50 : decode cX11_look 50 = .ok (.aload_n 0, 1) := by decide +kernel
theorem dX11_look_51 : decode cX11_look 51 = .ok (.getfield 36, 3) := by decide +kernel
theorem dX11_look_54 : decode cX11_look 54 = .ok (.iload_n 1, 1) := by decide +kernel
theorem dX11_look_55 : decode cX11_look 55 = .ok (.invokevirtual 243, 3) := by decide +kernel
theorem dX11_look_58 : decode cX11_look 58 = .ok (.aload_n 0, 1) := by decide +kernel
theorem dX11_look_59 : decode cX11_look 59 = .ok (.getfield 43, 3) := by decide +kernel
theorem dX11_look_62 : decode cX11_look 62 = .ok (.getfield 111, 3) := by decide +kernel
theorem dX11_look_65 : decode cX11_look 65 = .ok (.getfield 124, 3) := by decide +kernel
theorem dX11_look_68 : decode cX11_look 68 = .ok (.iconst 4, 1) := by decide +kernel
theorem dX11_look_69 : decode cX11_look 69 = .ok (.iaload, 1) := by decide +kernel
theorem dX11_look_70 : decode cX11_look 70 = .ok (.istore_n 3, 1) := by decide +kernel
theorem dX11_look_71 : decode cX11_look 71 = .ok (.aload_n 0, 1) := by decide +kernel
theorem dX11_look_72 : decode cX11_look 72 = .ok (.getfield 75, 3) := by decide +kernel
theorem dX11_look_75 : decode cX11_look 75 = .ok (.getfield 247, 3) := by decide +kernel
theorem dX11_look_78 : decode cX11_look 78 = .ok (.ifCond .eq 7, 3) := by decide +kernel
theorem dX11_look_81 : decode cX11_look 81 = .ok (.iload_n 3, 1) := by decide +kernel
theorem dX11_look_82 : decode cX11_look 82 = .ok (.ifCond .ne 6, 3) := by decide +kernel
theorem dX11_look_85 : decode cX11_look 85 = .ok (.bipush (-2), 2) := by decide +kernel
theorem dX11_look_87 : decode cX11_look 87 = .ok (.ireturn, 1) := by decide +kernel
theorem dX11_look_88 : decode cX11_look 88 = .ok (.aload_n 0, 1) := by decide +kernel
theorem dX11_look_89 : decode cX11_look 89 = .ok (.getfield 75, 3) := by decide +kernel
theorem dX11_look_92 : decode cX11_look 92 = .ok (.iload_n 3, 1) := by decide +kernel
theorem dX11_look_93 : decode cX11_look 93 = .ok (.invokevirtual 253, 3) := by decide +kernel
theorem dX11_look_96 : decode cX11_look 96 = .ok (.istore 4, 2) := by decide +kernel
theorem dX11_look_98 : decode cX11_look 98 = .ok (.iload_n 2, 1) := by decide +kernel
theorem dX11_look_99 : decode cX11_look 99 = .ok (.ifCond .ne 8, 3) := by decide +kernel
theorem dX11_look_102 : decode cX11_look 102 = .ok (.iload 4, 2) := by decide +kernel
theorem dX11_look_104 : decode cX11_look 104 = .ok (.goto 12, 3) := by decide +kernel
theorem dX11_look_107 : decode cX11_look 107 = .ok (.aload_n 0, 1) := by decide +kernel
theorem dX11_look_108 : decode cX11_look 108 = .ok (.getfield 75, 3) := by decide +kernel
theorem dX11_look_111 : decode cX11_look 111 = .ok (.iload 4, 2) := by decide +kernel
theorem dX11_look_113 : decode cX11_look 113 = .ok (.invokevirtual 256, 3) := by decide +kernel
theorem dX11_look_116 : decode cX11_look 116 = .ok (.ireturn, 1) := by decide +kernel
theorem dX11_note_0 : decode cX11_note 0 = .ok (.iload_n 1, 1) := by decide +kernel
theorem dX11_note_1 : decode cX11_note 1 = .ok (.iconst (-1), 1) := by decide +kernel
theorem dX11_note_2 : decode cX11_note 2 = .ok (.if_icmp .ne 16, 3) := by decide +kernel
theorem dX11_note_5 : decode cX11_note 5 = .ok (.aload_n 0, 1) := by decide +kernel
theorem dX11_note_6 : decode cX11_note 6 = .ok (.getfield 43, 3) := by decide +kernel
theorem dX11_note_9 : decode cX11_note 9 = .ok (.getfield 114, 3) := by decide +kernel
theorem dX11_note_12 : decode cX11_note 12 = .ok (.iconst 0, 1) := by decide +kernel
theorem dX11_note_13 : decode cX11_note 13 = .ok (.putfield 118, 3) := by decide +kernel
theorem dX11_note_16 : decode cX11_note 16 = .ok (.iconst 0, 1) := by decide +kernel
theorem dX11_note_17 : decode cX11_note 17 = .ok (.ireturn, 1) := by decide +kernel
theorem dX11_note_18 : decode cX11_note 18 = .ok (.iload_n 3, 1) := by decide +kernel
theorem dX11_note_19 : decode cX11_note 19 = .ok (.iconst (-1), 1) := by decide +kernel
theorem dX11_note_20 : decode cX11_note 20 = .ok (.aload_n 0, 1) := by decide +kernel
theorem dX11_note_21 : decode cX11_note 21 = .ok (.getfield 43, 3) := by decide +kernel
theorem dX11_note_24 : decode cX11_note 24 = .ok (.getfield 111, 3) := by decide +kernel
theorem dX11_note_27 : decode cX11_note 27 = .ok (.getfield 124, 3) := by decide +kernel
theorem dX11_note_30 : decode cX11_note 30 = .ok (.iconst 0, 1) := by decide +kernel
theorem dX11_note_31 : decode cX11_note 31 = .ok (.iaload, 1) := by decide +kernel
theorem dX11_note_32 : decode cX11_note 32 = .ok (.iconst 1, 1) := by decide +kernel
theorem dX11_note_33 : decode cX11_note 33 = .ok (.isub, 1) := by decide +kernel
theorem dX11_note_34 : decode cX11_note 34 = .ok (.invokestatic 90, 3) := by decide +kernel
theorem dX11_note_37 : decode cX11_note 37 = .ok (.ifCond .ne 9, 3) := by decide +kernel
theorem dX11_note_40 : decode cX11_note 40 = .ok (.iload_n 3, 1) := by decide +kernel
theorem dX11_note_41 : decode cX11_note 41 = .ok (.bipush 99, 2) := by decide +kernel
theorem dX11_note_43 : decode cX11_note 43 = .ok (.if_icmp .ne 7, 3) := by decide +kernel
theorem dX11_note_46 : decode cX11_note 46 = .ok (.iconst 1, 1) := by decide +kernel
theorem dX11_note_47 : decode cX11_note 47 = .ok (.goto 4, 3) := by decide +kernel
theorem dX11_note_50 : decode cX11_note 50 = .ok (.iconst 0, 1) := by decide +kernel
theorem dX11_note_51 : decode cX11_note 51 = .ok (.istore 4, 2) := by decide +kernel
theorem dX11_note_53 : decode cX11_note 53 = .ok (.iload_n 1, 1) := by decide +kernel
theorem dX11_note_54 : decode cX11_note 54 = .ok (.iconst 0, 1) := by decide +kernel
theorem dX11_note_55 : decode cX11_note 55 = .ok (.bipush 40, 2) := by decide +kernel
theorem dX11_note_57 : decode cX11_note 57 = .ok (.invokestatic 90, 3) := by decide +kernel
theorem dX11_note_60 : decode cX11_note 60 = .ok (.ifCond .eq 35, 3) := by decide +kernel
theorem dX11_note_63 : decode cX11_note 63 = .ok (.aload_n 0, 1) := by decide +kernel
theorem dX11_note_64 : decode cX11_note 64 = .ok (.getfield 43, 3) := by decide +kernel
theorem dX11_note_67 : decode cX11_note 67 = .ok (.getfield 111, 3) := by decide +kernel
theorem dX11_note_70 : decode cX11_note 70 = .ok (.iload_n 2, 1) := by decide +kernel
theorem dX11_note_71 : decode cX11_note 71 = .ok (.invokevirtual 139, 3) := by decide +kernel
theorem dX11_note_74 : decode cX11_note 74 = .ok (.ifCond .eq 21, 3) := by decide +kernel
theorem dX11_note_77 : decode cX11_note 77 = .ok (.iload 4, 2) := by decide +kernel
theorem dX11_note_79 : decode cX11_note 79 = .ok (.ifCond .eq 16, 3) := by decide +kernel
theorem dX11_note_82 : decode cX11_note 82 = .ok (.aload_n 0, 1) := by decide +kernel
theorem dX11_note_83 : decode cX11_note 83 = .ok (.getfield 43, 3) := by decide +kernel
theorem dX11_note_86 : decode cX11_note 86 = .ok (.getfield 114, 3) := by decide +kernel
theorem dX11_note_89 : decode cX11_note 89 = .ok (.invokevirtual 232, 3) := by decide +kernel
theorem dX11_note_92 : decode cX11_note 92 = .ok (.ifCond .eq 6, 3) := by decide +kernel
theorem dX11_note_95 : decode cX11_note 95 = .ok (.bipush (-2), 2) := by decide +kernel
theorem dX11_note_97 : decode cX11_note 97 = .ok (.ireturn, 1) := by decide +kernel
theorem dX11_note_98 : decode cX11_note 98 = .ok (.aload_n 0, 1) := by decide +kernel
theorem dX11_note_99 : decode cX11_note 99 = .ok (.getfield 43, 3) := by decide +kernel
theorem dX11_note_102 : decode cX11_note 102 = .ok (.getfield 114, 3) := by decide +kernel
theorem dX11_note_105 : decode cX11_note 105 = .ok (.iload_n 1, 1) := by decide +kernel
theorem dX11_note_106 : decode cX11_note 106 = .ok (.iload_n 2, 1) := by decide +kernel
theorem dX11_note_107 : decode cX11_note 107 = .ok (.iload_n 3, 1) := by decide +kernel
theorem dX11_note_108 : decode cX11_note 108 = .ok (.invokevirtual 235, 3) := by decide +kernel
theorem dX11_note_111 : decode cX11_note 111 = .ok (.aload_n 0, 1) := by decide +kernel
theorem dX11_note_112 : decode cX11_note 112 = .ok (.getfield 43, 3) := by decide +kernel
theorem dX11_note_115 : decode cX11_note 115 = .ok (.getfield 114, 3) := by decide +kernel
theorem dX11_note_118 : decode cX11_note 118 = .ok (.getfield 118, 3) := by decide +kernel
theorem dX11_note_121 : decode cX11_note 121 = .ok (.ireturn, 1) := by decide +kernel
theorem dX11_pull_0 : decode cX11_pull 0 = .ok (.aload_n 0, 1) := by decide +kernel
theorem dX11_pull_1 : decode cX11_pull 1 = .ok (.getfield 43, 3) := by decide +kernel
theorem dX11_pull_4 : decode cX11_pull 4 = .ok (.getfield 111, 3) := by decide +kernel
theorem dX11_pull_7 : decode cX11_pull 7 = .ok (.astore_n 3, 1) := by decide +kernel
theorem dX11_pull_8 : decode cX11_pull 8 = .ok (.aload_n 3, 1) := by decide +kernel
theorem dX11_pull_9 : decode cX11_pull 9 = .ok (.iload_n 1, 1) := by decide +kernel
theorem dX11_pull_10 : decode cX11_pull 10 = .ok (.invokevirtual 136, 3) := by decide +kernel
theorem dX11_pull_13 : decode cX11_pull 13 = .ok (.ifCond .eq 24, 3) := by decide +kernel
theorem dX11_pull_16 : decode cX11_pull 16 = .ok (.aload_n 3, 1) := by decide +kernel
theorem dX11_pull_17 : decode cX11_pull 17 = .ok (.iload_n 2, 1) := by decide +kernel
theorem dX11_pull_18 : decode cX11_pull 18 = .ok (.invokevirtual 139, 3) := by decide +kernel
theorem dX11_pull_21 : decode cX11_pull 21 = .ok (.ifCond .eq 16, 3) := by decide +kernel
theorem dX11_pull_24 : decode cX11_pull 24 = .ok (.aload_n 3, 1) := by decide +kernel
theorem dX11_pull_25 : decode cX11_pull 25 = .ok (.getfield 124, 3) := by decide +kernel
theorem dX11_pull_28 : decode cX11_pull 28 = .ok (.bipush 32, 2) := by decide +kernel
theorem dX11_pull_30 : decode cX11_pull 30 = .ok (.iload_n 1, 1) := by decide +kernel
theorem dX11_pull_31 : decode cX11_pull 31 = .ok (.iadd, 1) := by decide +kernel
theorem dX11_pull_32 : decode cX11_pull 32 = .ok (.iaload, 1) := by decide +kernel
theorem dX11_pull_33 : decode cX11_pull 33 = .ok (.iconst 1, 1) := by decide +kernel
theorem dX11_pull_34 : decode cX11_pull 34 = .ok (.if_icmp .ge 5, 3) := by decide +kernel
theorem dX11_pull_37 : decode cX11_pull 37 = .ok (.iconst (-1), 1) := by decide +kernel
theorem dX11_pull_38 : decode cX11_pull 38 = .ok (.ireturn, 1) := by decide +kernel
theorem dX11_pull_39 : decode cX11_pull 39 = .ok (.aload_n 0, 1) := by decide +kernel
theorem dX11_pull_40 : decode cX11_pull 40 = .ok (.getfield 54, 3) := by decide +kernel
theorem dX11_pull_43 : decode cX11_pull 43 = .ok (.aload_n 3, 1) := by decide +kernel
theorem dX11_pull_44 : decode cX11_pull 44 = .ok (.invokevirtual 156, 3) := by decide +kernel
theorem dX11_pull_47 : decode cX11_pull 47 = .ok (.bipush 99, 2) := by decide +kernel
theorem dX11_pull_49 : decode cX11_pull 49 = .ok (.aload_n 3, 1) := by decide +kernel
theorem dX11_pull_50 : decode cX11_pull 50 = .ok (.getfield 124, 3) := by decide +kernel
theorem dX11_pull_53 : decode cX11_pull 53 = .ok (.bipush 58, 2) := by decide +kernel
theorem dX11_pull_55 : decode cX11_pull 55 = .ok (.iload_n 2, 1) := by decide +kernel
theorem dX11_pull_56 : decode cX11_pull 56 = .ok (.iadd, 1) := by decide +kernel
theorem dX11_pull_57 : decode cX11_pull 57 = .ok (.iaload, 1) := by decide +kernel
theorem dX11_pull_58 : decode cX11_pull 58 = .ok (.aload_n 3, 1) := by decide +kernel
theorem dX11_pull_59 : decode cX11_pull 59 = .ok (.getfield 124, 3) := by decide +kernel
theorem dX11_pull_62 : decode cX11_pull 62 = .ok (.bipush 32, 2) := by decide +kernel
theorem dX11_pull_64 : decode cX11_pull 64 = .ok (.iload_n 1, 1) := by decide +kernel
theorem dX11_pull_65 : decode cX11_pull 65 = .ok (.iadd, 1) := by decide +kernel
theorem dX11_pull_66 : decode cX11_pull 66 = .ok (.iaload, 1) := by decide +kernel
theorem dX11_pull_67 : decode cX11_pull 67 = .ok (.iadd, 1) := by decide +kernel
theorem dX11_pull_68 : decode cX11_pull 68 = .ok (.invokestatic 178, 3) := by decide +kernel
theorem dX11_pull_71 : decode cX11_pull 71 = .ok (.istore 4, 2) := by decide +kernel
theorem dX11_pull_73 : decode cX11_pull 73 = .ok (.aload_n 3, 1) := by decide +kernel
theorem dX11_pull_74 : decode cX11_pull 74 = .ok (.getfield 124, 3) := by decide +kernel
theorem dX11_pull_77 : decode cX11_pull 77 = .ok (.bipush 32, 2) := by decide +kernel
theorem dX11_pull_79 : decode cX11_pull 79 = .ok (.iload_n 1, 1) := by decide +kernel
theorem dX11_pull_80 : decode cX11_pull 80 = .ok (.iadd, 1) := by decide +kernel
theorem dX11_pull_81 : decode cX11_pull 81 = .ok (.iconst 0, 1) := by decide +kernel
theorem dX11_pull_82 : decode cX11_pull 82 = .ok (.iastore, 1) := by decide +kernel
theorem dX11_pull_83 : decode cX11_pull 83 = .ok (.aload_n 3, 1) := by decide +kernel
theorem dX11_pull_84 : decode cX11_pull 84 = .ok (.getfield 124, 3) := by decide +kernel
theorem dX11_pull_87 : decode cX11_pull 87 = .ok (.bipush 58, 2) := by decide +kernel
theorem dX11_pull_89 : decode cX11_pull 89 = .ok (.iload_n 2, 1) := by decide +kernel
theorem dX11_pull_90 : decode cX11_pull 90 = .ok (.iadd, 1) := by decide +kernel
theorem dX11_pull_91 : decode cX11_pull 91 = .ok (.iload 4, 2) := by decide +kernel
theorem dX11_pull_93 : decode cX11_pull 93 = .ok (.iastore, 1) := by decide +kernel
theorem dX11_pull_94 : decode cX11_pull 94 = .ok (.iload 4, 2) := by decide +kernel
theorem dX11_pull_96 : decode cX11_pull 96 = .ok (.ireturn, 1) := by decide +kernel
theorem dX11_ring_0 : decode cX11_ring 0 = .ok (.aload_n 0, 1) := by decide +kernel
theorem dX11_ring_1 : decode cX11_ring 1 = .ok (.getfield 43, 3) := by decide +kernel
theorem dX11_ring_4 : decode cX11_ring 4 = .ok (.getfield 111, 3) := by decide +kernel
theorem dX11_ring_7 : decode cX11_ring 7 = .ok (.iload_n 1, 1) := by decide +kernel
theorem dX11_ring_8 : decode cX11_ring 8 = .ok (.invokevirtual 136, 3) := by decide +kernel
theorem dX11_ring_11 : decode cX11_ring 11 = .ok (.ifCond .ne 5, 3) := by decide +kernel
theorem dX11_ring_14 : decode cX11_ring 14 = .ok (.iconst (-1), 1) := by decide +kernel
theorem dX11_ring_15 : decode cX11_ring 15 = .ok (.ireturn, 1) := by decide +kernel
theorem dX11_ring_16 : decode cX11_ring 16 = .ok (.iload_n 2, 1) := by decide +kernel
theorem dX11_ring_17 : decode cX11_ring 17 = .ok (.tableswitch 75 0 2 #[27, 43, 59], 27) := by decide +kernel
theorem dX11_ring_44 : decode cX11_ring 44 = .ok (.aload_n 0, 1) := by decide +kernel
theorem dX11_ring_45 : decode cX11_ring 45 = .ok (.getfield 43, 3) := by decide +kernel
theorem dX11_ring_48 : decode cX11_ring 48 = .ok (.getfield 111, 3) := by decide +kernel
theorem dX11_ring_51 : decode cX11_ring 51 = .ok (.getfield 124, 3) := by decide +kernel
theorem dX11_ring_54 : decode cX11_ring 54 = .ok (.bipush 20, 2) := by decide +kernel
theorem dX11_ring_56 : decode cX11_ring 56 = .ok (.iload_n 1, 1) := by decide +kernel
theorem dX11_ring_57 : decode cX11_ring 57 = .ok (.iadd, 1) := by decide +kernel
theorem dX11_ring_58 : decode cX11_ring 58 = .ok (.iaload, 1) := by decide +kernel
theorem dX11_ring_59 : decode cX11_ring 59 = .ok (.ireturn, 1) := by decide +kernel
theorem dX11_ring_60 : decode cX11_ring 60 = .ok (.aload_n 0, 1) := by decide +kernel
theorem dX11_ring_61 : decode cX11_ring 61 = .ok (.getfield 43, 3) := by decide +kernel
theorem dX11_ring_64 : decode cX11_ring 64 = .ok (.getfield 111, 3) := by decide +kernel
theorem dX11_ring_67 : decode cX11_ring 67 = .ok (.getfield 124, 3) := by decide +kernel
theorem dX11_ring_70 : decode cX11_ring 70 = .ok (.bipush 26, 2) := by decide +kernel
theorem dX11_ring_72 : decode cX11_ring 72 = .ok (.iload_n 1, 1) := by decide +kernel
theorem dX11_ring_73 : decode cX11_ring 73 = .ok (.iadd, 1) := by decide +kernel
theorem dX11_ring_74 : decode cX11_ring 74 = .ok (.iaload, 1) := by decide +kernel
theorem dX11_ring_75 : decode cX11_ring 75 = .ok (.ireturn, 1) := by decide +kernel
theorem dX11_ring_76 : decode cX11_ring 76 = .ok (.aload_n 0, 1) := by decide +kernel
theorem dX11_ring_77 : decode cX11_ring 77 = .ok (.getfield 43, 3) := by decide +kernel
theorem dX11_ring_80 : decode cX11_ring 80 = .ok (.getfield 111, 3) := by decide +kernel
theorem dX11_ring_83 : decode cX11_ring 83 = .ok (.getfield 124, 3) := by decide +kernel
theorem dX11_ring_86 : decode cX11_ring 86 = .ok (.bipush 32, 2) := by decide +kernel
theorem dX11_ring_88 : decode cX11_ring 88 = .ok (.iload_n 1, 1) := by decide +kernel
theorem dX11_ring_89 : decode cX11_ring 89 = .ok (.iadd, 1) := by decide +kernel
theorem dX11_ring_90 : decode cX11_ring 90 = .ok (.iaload, 1) := by decide +kernel
theorem dX11_ring_91 : decode cX11_ring 91 = .ok (.ireturn, 1) := by decide +kernel
theorem dX11_ring_92 : decode cX11_ring 92 = .ok (.iconst (-1), 1) := by decide +kernel
theorem dX11_ring_93 : decode cX11_ring 93 = .ok (.ireturn, 1) := by decide +kernel
theorem dX11_rule_0 : decode cX11_rule 0 = .ok (.aload_n 0, 1) := by decide +kernel
theorem dX11_rule_1 : decode cX11_rule 1 = .ok (.getfield 36, 3) := by decide +kernel
theorem dX11_rule_4 : decode cX11_rule 4 = .ok (.bipush 6, 2) := by decide +kernel
theorem dX11_rule_6 : decode cX11_rule 6 = .ok (.if_icmp .lt 5, 3) := by decide +kernel
theorem dX11_rule_9 : decode cX11_rule 9 = .ok (.iconst (-1), 1) := by decide +kernel
theorem dX11_rule_10 : decode cX11_rule 10 = .ok (.ireturn, 1) := by decide +kernel
theorem dX11_rule_11 : decode cX11_rule 11 = .ok (.aload_n 0, 1) := by decide +kernel
theorem dX11_rule_12 : decode cX11_rule 12 = .ok (.getfield 26, 3) := by decide +kernel
theorem dX11_rule_15 : decode cX11_rule 15 = .ok (.aload_n 0, 1) := by decide +kernel
theorem dX11_rule_16 : decode cX11_rule 16 = .ok (.getfield 10, 3) := by decide +kernel
theorem dX11_rule_19 : decode cX11_rule 19 = .ok (.invokevirtual 128, 3) := by decide +kernel
theorem dX11_rule_22 : decode cX11_rule 22 = .ok (.istore_n 1, 1) := by decide +kernel
theorem dX11_rule_23 : decode cX11_rule 23 = .ok (.aload_n 0, 1) := by decide +kernel
theorem dX11_rule_24 : decode cX11_rule 24 = .ok (.getfield 10, 3) := by decide +kernel
theorem dX11_rule_27 : decode cX11_rule 27 = .ok (.iconst 0, 1) := by decide +kernel
theorem dX11_rule_28 : decode cX11_rule 28 = .ok (.putfield 87, 3) := by decide +kernel
theorem dX11_rule_31 : decode cX11_rule 31 = .ok (.iload_n 1, 1) := by decide +kernel
theorem dX11_rule_32 : decode cX11_rule 32 = .ok (.ifCond .eq 8, 3) := by decide +kernel
theorem dX11_rule_35 : decode cX11_rule 35 = .ok (.bipush (-2), 2) := by decide +kernel
theorem dX11_rule_37 : decode cX11_rule 37 = .ok (.iload_n 1, 1) := by decide +kernel
theorem dX11_rule_38 : decode cX11_rule 38 = .ok (.isub, 1) := by decide +kernel
theorem dX11_rule_39 : decode cX11_rule 39 = .ok (.ireturn, 1) := by decide +kernel
theorem dX11_rule_40 : decode cX11_rule 40 = .ok (.aload_n 0, 1) := by decide +kernel
theorem dX11_rule_41 : decode cX11_rule 41 = .ok (.getfield 32, 3) := by decide +kernel
theorem dX11_rule_44 : decode cX11_rule 44 = .ok (.aload_n 0, 1) := by decide +kernel
theorem dX11_rule_45 : decode cX11_rule 45 = .ok (.getfield 36, 3) := by decide +kernel
theorem dX11_rule_48 : decode cX11_rule 48 = .ok (.aload_n 0, 1) := by decide +kernel
theorem dX11_rule_49 : decode cX11_rule 49 = .ok (.getfield 26, 3) := by decide +kernel
theorem dX11_rule_52 : decode cX11_rule 52 = .ok (.invokevirtual 129, 3) := by decide +kernel
theorem dX11_rule_55 : decode cX11_rule 55 = .ok (.aastore, 1) := by decide +kernel
theorem dX11_rule_56 : decode cX11_rule 56 = .ok (.aload_n 0, 1) := by decide +kernel
theorem dX11_rule_57 : decode cX11_rule 57 = .ok (.dup, 1) := by decide +kernel
theorem dX11_rule_58 : decode cX11_rule 58 = .ok (.getfield 36, 3) := by decide +kernel
theorem dX11_rule_61 : decode cX11_rule 61 = .ok (.iconst 1, 1) := by decide +kernel
theorem dX11_rule_62 : decode cX11_rule 62 = .ok (.iadd, 1) := by decide +kernel
theorem dX11_rule_63 : decode cX11_rule 63 = .ok (.putfield 36, 3) := by decide +kernel
theorem dX11_rule_66 : decode cX11_rule 66 = .ok (.aload_n 0, 1) := by decide +kernel
theorem dX11_rule_67 : decode cX11_rule 67 = .ok (.getfield 36, 3) := by decide +kernel
theorem dX11_rule_70 : decode cX11_rule 70 = .ok (.iconst 1, 1) := by decide +kernel
theorem dX11_rule_71 : decode cX11_rule 71 = .ok (.isub, 1) := by decide +kernel
theorem dX11_rule_72 : decode cX11_rule 72 = .ok (.ireturn, 1) := by decide +kernel
theorem dX11_seed_0 : decode cX11_seed 0 = .ok (.iload_n 1, 1) := by decide +kernel
theorem dX11_seed_1 : decode cX11_seed 1 = .ok (.ifCond .ge 5, 3) := by decide +kernel
theorem dX11_seed_4 : decode cX11_seed 4 = .ok (.iconst (-1), 1) := by decide +kernel
theorem dX11_seed_5 : decode cX11_seed 5 = .ok (.ireturn, 1) := by decide +kernel
theorem dX11_seed_6 : decode cX11_seed 6 = .ok (.aload_n 0, 1) := by decide +kernel
theorem dX11_seed_7 : decode cX11_seed 7 = .ok (.getfield 43, 3) := by decide +kernel
theorem dX11_seed_10 : decode cX11_seed 10 = .ok (.getfield 149, 3) := by decide +kernel
theorem dX11_seed_13 : decode cX11_seed 13 = .ok (.istore_n 2, 1) := by decide +kernel
theorem dX11_seed_14 : decode cX11_seed 14 = .ok (.aload_n 0, 1) := by decide +kernel
theorem dX11_seed_15 : decode cX11_seed 15 = .ok (.getfield 43, 3) := by decide +kernel
theorem dX11_seed_18 : decode cX11_seed 18 = .ok (.iload_n 1, 1) := by decide +kernel
theorem dX11_seed_19 : decode cX11_seed 19 = .ok (.putfield 149, 3) := by decide +kernel
theorem dX11_seed_22 : decode cX11_seed 22 = .ok (.iload_n 2, 1) := by decide +kernel
theorem dX11_seed_23 : decode cX11_seed 23 = .ok (.ireturn, 1) := by decide +kernel
theorem dX11_undo_0 : decode cX11_undo 0 = .ok (.aload_n 0, 1) := by decide +kernel
theorem dX11_undo_1 : decode cX11_undo 1 = .ok (.getfield 54, 3) := by decide +kernel
theorem dX11_undo_4 : decode cX11_undo 4 = .ok (.getfield 123, 3) := by decide +kernel
theorem dX11_undo_7 : decode cX11_undo 7 = .ok (.iconst 1, 1) := by decide +kernel
theorem dX11_undo_8 : decode cX11_undo 8 = .ok (.if_icmp .ge 5, 3) := by decide +kernel
theorem dX11_undo_11 : decode cX11_undo 11 = .ok (.iconst (-1), 1) := by decide +kernel
theorem dX11_undo_12 : decode cX11_undo 12 = .ok (.ireturn, 1) := by decide +kernel
theorem dX11_undo_13 : decode cX11_undo 13 = .ok (.aload_n 0, 1) := by decide +kernel
theorem dX11_undo_14 : decode cX11_undo 14 = .ok (.getfield 54, 3) := by decide +kernel
theorem dX11_undo_17 : decode cX11_undo 17 = .ok (.aload_n 0, 1) := by decide +kernel
theorem dX11_undo_18 : decode cX11_undo 18 = .ok (.getfield 43, 3) := by decide +kernel
theorem dX11_undo_21 : decode cX11_undo 21 = .ok (.getfield 111, 3) := by decide +kernel
theorem dX11_undo_24 : decode cX11_undo 24 = .ok (.invokevirtual 184, 3) := by decide +kernel
theorem dX11_undo_27 : decode cX11_undo 27 = .ok (.aload_n 0, 1) := by decide +kernel
theorem dX11_undo_28 : decode cX11_undo 28 = .ok (.getfield 54, 3) := by decide +kernel
theorem dX11_undo_31 : decode cX11_undo 31 = .ok (.getfield 123, 3) := by decide +kernel
theorem dX11_undo_34 : decode cX11_undo 34 = .ok (.ireturn, 1) := by decide +kernel
theorem dX11_wind_0 : decode cX11_wind 0 = .ok (.iload_n 1, 1) := by decide +kernel
theorem dX11_wind_1 : decode cX11_wind 1 = .ok (.iconst 0, 1) := by decide +kernel
theorem dX11_wind_2 : decode cX11_wind 2 = .ok (.aload_n 0, 1) := by decide +kernel
theorem dX11_wind_3 : decode cX11_wind 3 = .ok (.getfield 43, 3) := by decide +kernel
theorem dX11_wind_6 : decode cX11_wind 6 = .ok (.getfield 111, 3) := by decide +kernel
theorem dX11_wind_9 : decode cX11_wind 9 = .ok (.getfield 124, 3) := by decide +kernel
theorem dX11_wind_12 : decode cX11_wind 12 = .ok (.iconst 2, 1) := by decide +kernel
theorem dX11_wind_13 : decode cX11_wind 13 = .ok (.iaload, 1) := by decide +kernel
theorem dX11_wind_14 : decode cX11_wind 14 = .ok (.iconst 1, 1) := by decide +kernel
theorem dX11_wind_15 : decode cX11_wind 15 = .ok (.isub, 1) := by decide +kernel
theorem dX11_wind_16 : decode cX11_wind 16 = .ok (.invokestatic 90, 3) := by decide +kernel
theorem dX11_wind_19 : decode cX11_wind 19 = .ok (.ifCond .eq 17, 3) := by decide +kernel
theorem dX11_wind_22 : decode cX11_wind 22 = .ok (.aload_n 0, 1) := by decide +kernel
theorem dX11_wind_23 : decode cX11_wind 23 = .ok (.getfield 43, 3) := by decide +kernel
theorem dX11_wind_26 : decode cX11_wind 26 = .ok (.getfield 111, 3) := by decide +kernel
theorem dX11_wind_29 : decode cX11_wind 29 = .ok (.iload_n 1, 1) := by decide +kernel
theorem dX11_wind_30 : decode cX11_wind 30 = .ok (.invokevirtual 142, 3) := by decide +kernel
theorem dX11_wind_33 : decode cX11_wind 33 = .ok (.goto 4, 3) := by decide +kernel
theorem dX11_wind_36 : decode cX11_wind 36 = .ok (.iconst (-1), 1) := by decide +kernel
theorem dX11_wind_37 : decode cX11_wind 37 = .ok (.ireturn, 1) := by decide +kernel
theorem dX12_ails_0 : decode cX12_ails 0 = .ok (.aload_n 0, 1) := by decide +kernel
theorem dX12_ails_1 : decode cX12_ails 1 = .ok (.iload_n 1, 1) := by decide +kernel
theorem dX12_ails_2 : decode cX12_ails 2 = .ok (.invokevirtual 314, 3) := by decide +kernel
theorem dX12_ails_5 : decode cX12_ails 5 = .ok (.ifCond .eq 23, 3) := by decide +kernel
theorem dX12_ails_8 : decode cX12_ails 8 = .ok (.aload_n 0, 1) := by decide +kernel
theorem dX12_ails_9 : decode cX12_ails 9 = .ok (.bipush 46, 2) := by decide +kernel
theorem dX12_ails_11 : decode cX12_ails 11 = .ok (.iload_n 1, 1) := by decide +kernel
theorem dX12_ails_12 : decode cX12_ails 12 = .ok (.iadd, 1) := by decide +kernel
theorem dX12_ails_13 : decode cX12_ails 13 = .ok (.iconst 0, 1) := by decide +kernel
theorem dX12_ails_14 : decode cX12_ails 14 = .ok (.aload_n 0, 1) := by decide +kernel
theorem dX12_ails_15 : decode cX12_ails 15 = .ok (.getfield 39, 3) := by decide +kernel
theorem dX12_ails_18 : decode cX12_ails 18 = .ok (.iconst 4, 1) := by decide +kernel
theorem dX12_ails_19 : decode cX12_ails 19 = .ok (.iaload, 1) := by decide +kernel
theorem dX12_ails_20 : decode cX12_ails 20 = .ok (.iconst 1, 1) := by decide +kernel
theorem dX12_ails_21 : decode cX12_ails 21 = .ok (.isub, 1) := by decide +kernel
theorem dX12_ails_22 : decode cX12_ails 22 = .ok (.invokevirtual 438, 3) := by decide +kernel
theorem dX12_ails_25 : decode cX12_ails 25 = .ok (.goto 4, 3) := by decide +kernel
theorem dX12_ails_28 : decode cX12_ails 28 = .ok (.iconst (-1), 1) := by decide +kernel
theorem dX12_ails_29 : decode cX12_ails 29 = .ok (.ireturn, 1) := by decide +kernel
theorem dX12_back_0 : decode cX12_back 0 = .ok (.iload_n 1, 1) := by decide +kernel
theorem dX12_back_1 : decode cX12_back 1 = .ok (.i2l, 1) := by decide +kernel
theorem dX12_back_2 : decode cX12_back 2 = .ok (.lconst 0, 1) := by decide +kernel
theorem dX12_back_3 : decode cX12_back 3 = .ok (.ldc2_w 462, 3) := by decide +kernel
theorem dX12_back_6 : decode cX12_back 6 = .ok (.invokestatic 127, 3) := by decide +kernel
theorem dX12_back_9 : decode cX12_back 9 = .ok (.ifCond .eq 12, 3) := by decide +kernel
theorem dX12_back_12 : decode cX12_back 12 = .ok (.aload_n 0, 1) := by decide +kernel
theorem dX12_back_13 : decode cX12_back 13 = .ok (.getfield 86, 3) := by decide +kernel
theorem dX12_back_16 : decode cX12_back 16 = .ok (.iload_n 1, 1) := by decide +kernel
theorem dX12_back_17 : decode cX12_back 17 = .ok (.baload, 1) := by decide +kernel
theorem dX12_back_18 : decode cX12_back 18 = .ok (.ifCond .ne 5, 3) := by decide +kernel
theorem dX12_back_21 : decode cX12_back 21 = .ok (.iconst (-1), 1) := by decide +kernel
theorem dX12_back_22 : decode cX12_back 22 = .ok (.ireturn, 1) := by decide +kernel
theorem dX12_back_23 : decode cX12_back 23 = .ok (.aload_n 0, 1) := by decide +kernel
theorem dX12_back_24 : decode cX12_back 24 = .ok (.aload_n 0, 1) := by decide +kernel
theorem dX12_back_25 : decode cX12_back 25 = .ok (.getfield 80, 3) := by decide +kernel
theorem dX12_back_28 : decode cX12_back 28 = .ok (.iload_n 1, 1) := by decide +kernel
theorem dX12_back_29 : decode cX12_back 29 = .ok (.iaload, 1) := by decide +kernel
theorem dX12_back_30 : decode cX12_back 30 = .ok (.putfield 42, 3) := by decide +kernel
theorem dX12_back_33 : decode cX12_back 33 = .ok (.aload_n 0, 1) := by decide +kernel
theorem dX12_back_34 : decode cX12_back 34 = .ok (.aload_n 0, 1) := by decide +kernel
theorem dX12_back_35 : decode cX12_back 35 = .ok (.getfield 83, 3) := by decide +kernel
theorem dX12_back_38 : decode cX12_back 38 = .ok (.iload_n 1, 1) := by decide +kernel
theorem dX12_back_39 : decode cX12_back 39 = .ok (.iaload, 1) := by decide +kernel
theorem dX12_back_40 : decode cX12_back 40 = .ok (.putfield 442, 3) := by decide +kernel
theorem dX12_back_43 : decode cX12_back 43 = .ok (.aload_n 0, 1) := by decide +kernel
theorem dX12_back_44 : decode cX12_back 44 = .ok (.iconst 0, 1) := by decide +kernel
theorem dX12_back_45 : decode cX12_back 45 = .ok (.putfield 276, 3) := by decide +kernel
theorem dX12_back_48 : decode cX12_back 48 = .ok (.iconst 0, 1) := by decide +kernel
theorem dX12_back_49 : decode cX12_back 49 = .ok (.istore_n 2, 1) := by decide +kernel
theorem dX12_back_50 : decode cX12_back 50 = .ok (.iload_n 2, 1) := by decide +kernel
theorem dX12_back_51 : decode cX12_back 51 = .ok (.bipush 115, 2) := by decide +kernel
theorem dX12_back_53 : decode cX12_back 53 = .ok (.if_icmp .ge 26, 3) := by decide +kernel
theorem dX12_back_56 : decode cX12_back 56 = .ok (.aload_n 0, 1) := by decide +kernel
theorem dX12_back_57 : decode cX12_back 57 = .ok (.getfield 39, 3) := by decide +kernel
theorem dX12_back_60 : decode cX12_back 60 = .ok (.iload_n 2, 1) := by decide +kernel
theorem dX12_back_61 : decode cX12_back 61 = .ok (.aload_n 0, 1) := by decide +kernel
theorem dX12_back_62 : decode cX12_back 62 = .ok (.getfield 77, 3) := by decide +kernel
theorem dX12_back_65 : decode cX12_back 65 = .ok (.bipush 115, 2) := by decide +kernel
theorem dX12_back_67 : decode cX12_back 67 = .ok (.iload_n 1, 1) := by decide +kernel
theorem dX12_back_68 : decode cX12_back 68 = .ok (.imul, 1) := by decide +kernel
theorem dX12_back_69 : decode cX12_back 69 = .ok (.iload_n 2, 1) := by decide +kernel
theorem dX12_back_70 : decode cX12_back 70 = .ok (.iadd, 1) := by decide +kernel
theorem dX12_back_71 : decode cX12_back 71 = .ok (.iaload, 1) := by decide +kernel
theorem dX12_back_72 : decode cX12_back 72 = .ok (.iastore, 1) := by decide +kernel
theorem dX12_back_73 : decode cX12_back 73 = .ok (.iinc 2 1, 3) := by decide +kernel
theorem dX12_back_76 : decode cX12_back 76 = .ok (.goto (-26), 3) := by decide +kernel
theorem dX12_back_79 : decode cX12_back 79 = .ok (.aload_n 0, 1) := by decide +kernel
theorem dX12_back_80 : decode cX12_back 80 = .ok (.getfield 39, 3) := by decide +kernel
theorem dX12_back_83 : decode cX12_back 83 = .ok (.bipush 10, 2) := by decide +kernel
theorem dX12_back_85 : decode cX12_back 85 = .ok (.iaload, 1) := by decide +kernel
theorem dX12_back_86 : decode cX12_back 86 = .ok (.ireturn, 1) := by decide +kernel
theorem dX12_down_0 : decode cX12_down 0 = .ok (.aload_n 0, 1) := by decide +kernel
theorem dX12_down_1 : decode cX12_down 1 = .ok (.iload_n 1, 1) := by decide +kernel
theorem dX12_down_2 : decode cX12_down 2 = .ok (.invokevirtual 314, 3) := by decide +kernel
theorem dX12_down_5 : decode cX12_down 5 = .ok (.ifCond .eq 11, 3) := by decide +kernel
theorem dX12_down_8 : decode cX12_down 8 = .ok (.aload_n 0, 1) := by decide +kernel
theorem dX12_down_9 : decode cX12_down 9 = .ok (.iload_n 2, 1) := by decide +kernel
theorem dX12_down_10 : decode cX12_down 10 = .ok (.invokevirtual 309, 3) := by decide +kernel
theorem dX12_down_13 : decode cX12_down 13 = .ok (.ifCond .ne 5, 3) := by decide +kernel
theorem dX12_down_16 : decode cX12_down 16 = .ok (.iconst (-1), 1) := by decide +kernel
theorem dX12_down_17 : decode cX12_down 17 = .ok (.ireturn, 1) := by decide +kernel
theorem dX12_down_18 : decode cX12_down 18 = .ok (.aload_n 0, 1) := by decide +kernel
theorem dX12_down_19 : decode cX12_down 19 = .ok (.iload_n 1, 1) := by decide +kernel
theorem dX12_down_20 : decode cX12_down 20 = .ok (.iload_n 2, 1) := by decide +kernel
theorem dX12_down_21 : decode cX12_down 21 = .ok (.invokevirtual 341, 3) := by decide +kernel
theorem dX12_down_24 : decode cX12_down 24 = .ok (.istore_n 3, 1) := by decide +kernel
theorem dX12_down_25 : decode cX12_down 25 = .ok (.iload_n 3, 1) := by decide +kernel
theorem dX12_down_26 : decode cX12_down 26 = .ok (.ifCond .ge 8, 3) := by decide +kernel
theorem dX12_down_29 : decode cX12_down 29 = .ok (.bipush (-2), 2) := by decide +kernel
theorem dX12_down_31 : decode cX12_down 31 = .ok (.goto 4, 3) := by decide +kernel
theorem dX12_down_34 : decode cX12_down 34 = .ok (.iload_n 3, 1) := by decide +kernel
theorem dX12_down_35 : decode cX12_down 35 = .ok (.ireturn, 1) := by decide +kernel
theorem dX12_draw_0 : decode cX12_draw 0 = .ok (.aload_n 0, 1) := by decide +kernel
theorem dX12_draw_1 : decode cX12_draw 1 = .ok (.aload_n 0, 1) := by decide +kernel
theorem dX12_draw_2 : decode cX12_draw 2 = .ok (.getfield 445, 3) := by decide +kernel
theorem dX12_draw_5 : decode cX12_draw 5 = .ok (.ldc2_w 449, 3) := by decide +kernel
theorem dX12_draw_8 : decode cX12_draw 8 = .ok (.lmul, 1) := by decide +kernel
theorem dX12_draw_9 : decode cX12_draw 9 = .ok (.ldc2_w 451, 3) := by decide +kernel
theorem dX12_draw_12 : decode cX12_draw 12 = .ok (.ladd, 1) := by decide +kernel
theorem dX12_draw_13 : decode cX12_draw 13 = .ok (.ldc2_w 453, 3) := by decide +kernel
theorem dX12_draw_16 : decode cX12_draw 16 = .ok (.lrem, 1) := by decide +kernel
theorem dX12_draw_17 : decode cX12_draw 17 = .ok (.putfield 445, 3) := by decide +kernel
theorem dX12_draw_20 : decode cX12_draw 20 = .ok (.aload_n 0, 1) := by decide +kernel
theorem dX12_draw_21 : decode cX12_draw 21 = .ok (.getfield 445, 3) := by decide +kernel
theorem dX12_draw_24 : decode cX12_draw 24 = .ok (.ldc2_w 455, 3) := by decide +kernel
theorem dX12_draw_27 : decode cX12_draw 27 = .ok (.ldiv, 1) := by decide +kernel
theorem dX12_draw_28 : decode cX12_draw 28 = .ok (.iload_n 1, 1) := by decide +kernel
theorem dX12_draw_29 : decode cX12_draw 29 = .ok (.i2l, 1) := by decide +kernel
theorem dX12_draw_30 : decode cX12_draw 30 = .ok (.lrem, 1) := by decide +kernel
theorem dX12_draw_31 : decode cX12_draw 31 = .ok (.l2i, 1) := by decide +kernel
theorem dX12_draw_32 : decode cX12_draw 32 = .ok (.ireturn, 1) := by decide +kernel
theorem dX12_fact_0 : decode cX12_fact 0 = .ok (.iconst 1, 1) := by decide +kernel
theorem dX12_fact_1 : decode cX12_fact 1 = .ok (.istore_n 1, 1) := by decide +kernel
theorem dX12_fact_2 : decode cX12_fact 2 = .ok (.iload_n 1, 1) := by decide +kernel
theorem dX12_fact_3 : decode cX12_fact 3 = .ok (.ifCond .eq 72, 3) := by decide +kernel
theorem dX12_fact_6 : decode cX12_fact 6 = .ok (.iconst 0, 1) := by decide +kernel
theorem dX12_fact_7 : decode cX12_fact 7 = .ok (.istore_n 1, 1) := by decide +kernel
theorem dX12_fact_8 : decode cX12_fact 8 = .ok (.aload_n 0, 1) := by decide +kernel
theorem dX12_fact_9 : decode cX12_fact 9 = .ok (.invokevirtual 102, 3) := by decide +kernel
theorem dX12_fact_12 : decode cX12_fact 12 = .ok (.istore_n 2, 1) := by decide +kernel
theorem dX12_fact_13 : decode cX12_fact 13 = .ok (.aload_n 0, 1) := by decide +kernel
theorem dX12_fact_14 : decode cX12_fact 14 = .ok (.ldc2_w 197, 3) := by decide +kernel
theorem dX12_fact_17 : decode cX12_fact 17 = .ok (.invokevirtual 110, 3) := by decide +kernel
theorem dX12_fact_20 : decode cX12_fact 20 = .ok (.ifCond .eq 23, 3) := by decide +kernel
theorem dX12_fact_23 : decode cX12_fact 23 = .ok (.aload_n 0, 1) := by decide +kernel
theorem dX12_fact_24 : decode cX12_fact 24 = .ok (.bipush 11, 2) := by decide +kernel
theorem dX12_fact_26 : decode cX12_fact 26 = .ok (.invokevirtual 199, 3) := by decide +kernel
theorem dX12_fact_29 : decode cX12_fact 29 = .ok (.ifCond .ne 5, 3) := by decide +kernel
theorem dX12_fact_32 : decode cX12_fact 32 = .ok (.iconst 0, 1) := by decide +kernel
theorem dX12_fact_33 : decode cX12_fact 33 = .ok (.ireturn, 1) := by decide +kernel
theorem dX12_fact_34 : decode cX12_fact 34 = .ok (.aload_n 0, 1) := by decide +kernel
theorem dX12_fact_35 : decode cX12_fact 35 = .ok (.invokevirtual 114, 3) := by decide +kernel
theorem dX12_fact_38 : decode cX12_fact 38 = .ok (.iconst 1, 1) := by decide +kernel
theorem dX12_fact_39 : decode cX12_fact 39 = .ok (.istore_n 1, 1) := by decide +kernel
theorem dX12_fact_40 : decode cX12_fact 40 = .ok (.goto 32, 3) := by decide +kernel
theorem dX12_fact_43 : decode cX12_fact 43 = .ok (.iload_n 2, 1) := by decide +kernel
theorem dX12_fact_44 : decode cX12_fact 44 = .ok (.bipush 91, 2) := by decide +kernel
theorem dX12_fact_46 : decode cX12_fact 46 = .ok (.if_icmp .ne 26, 3) := by decide +kernel
theorem dX12_fact_49 : decode cX12_fact 49 = .ok (.aload_n 0, 1) := by decide +kernel
theorem dX12_fact_50 : decode cX12_fact 50 = .ok (.bipush 91, 2) := by decide +kernel
theorem dX12_fact_52 : decode cX12_fact 52 = .ok (.invokevirtual 199, 3) := by decide +kernel
theorem dX12_fact_55 : decode cX12_fact 55 = .ok (.ifCond .ne 5, 3) := by decide +kernel
theorem dX12_fact_58 : decode cX12_fact 58 = .ok (.iconst 0, 1) := by decide +kernel
theorem dX12_fact_59 : decode cX12_fact 59 = .ok (.ireturn, 1) := by decide +kernel
theorem dX12_fact_60 : decode cX12_fact 60 = .ok (.aload_n 0, 1) := by decide +kernel
theorem dX12_fact_61 : decode cX12_fact 61 = .ok (.dup, 1) := by decide +kernel
theorem dX12_fact_62 : decode cX12_fact 62 = .ok (.getfield 99, 3) := by decide +kernel
theorem dX12_fact_65 : decode cX12_fact 65 = .ok (.iconst 1, 1) := by decide +kernel
theorem dX12_fact_66 : decode cX12_fact 66 = .ok (.iadd, 1) := by decide +kernel
theorem dX12_fact_67 : decode cX12_fact 67 = .ok (.putfield 99, 3) := by decide +kernel
theorem dX12_fact_70 : decode cX12_fact 70 = .ok (.iconst 1, 1) := by decide +kernel
theorem dX12_fact_71 : decode cX12_fact 71 = .ok (.istore_n 1, 1) := by decide +kernel
theorem dX12_fact_72 : decode cX12_fact 72 = .ok (.goto (-70), 3) := by decide +kernel
theorem dX12_fact_75 : decode cX12_fact 75 = .ok (.aload_n 0, 1) := by decide +kernel
theorem dX12_fact_76 : decode cX12_fact 76 = .ok (.invokevirtual 202, 3) := by decide +kernel
theorem dX12_fact_79 : decode cX12_fact 79 = .ok (.ireturn, 1) := by decide +kernel
theorem dX12_feed_0 : decode cX12_feed 0 = .ok (.aload_n 0, 1) := by decide +kernel
theorem dX12_feed_1 : decode cX12_feed 1 = .ok (.getfield 89, 3) := by decide +kernel
theorem dX12_feed_4 : decode cX12_feed 4 = .ok (.bipush 20, 2) := by decide +kernel
theorem dX12_feed_6 : decode cX12_feed 6 = .ok (.iadd, 1) := by decide +kernel
theorem dX12_feed_7 : decode cX12_feed 7 = .ok (.sipush 400, 3) := by decide +kernel
theorem dX12_feed_10 : decode cX12_feed 10 = .ok (.if_icmp .le 5, 3) := by decide +kernel
theorem dX12_feed_13 : decode cX12_feed 13 = .ok (.iconst (-1), 1) := by decide +kernel
theorem dX12_feed_14 : decode cX12_feed 14 = .ok (.ireturn, 1) := by decide +kernel
theorem dX12_feed_15 : decode cX12_feed 15 = .ok (.aload_n 0, 1) := by decide +kernel
theorem dX12_feed_16 : decode cX12_feed 16 = .ok (.iload_n 1, 1) := by decide +kernel
theorem dX12_feed_17 : decode cX12_feed 17 = .ok (.invokevirtual 92, 3) := by decide +kernel
theorem dX12_feed_20 : decode cX12_feed 20 = .ok (.aload_n 0, 1) := by decide +kernel
theorem dX12_feed_21 : decode cX12_feed 21 = .ok (.iload_n 2, 1) := by decide +kernel
theorem dX12_feed_22 : decode cX12_feed 22 = .ok (.invokevirtual 92, 3) := by decide +kernel
theorem dX12_feed_25 : decode cX12_feed 25 = .ok (.aload_n 0, 1) := by decide +kernel
theorem dX12_feed_26 : decode cX12_feed 26 = .ok (.iload_n 3, 1) := by decide +kernel
theorem dX12_feed_27 : decode cX12_feed 27 = .ok (.invokevirtual 92, 3) := by decide +kernel
theorem dX12_feed_30 : decode cX12_feed 30 = .ok (.aload_n 0, 1) := by decide +kernel
theorem dX12_feed_31 : decode cX12_feed 31 = .ok (.iload 4, 2) := by decide +kernel
theorem dX12_feed_33 : decode cX12_feed 33 = .ok (.invokevirtual 92, 3) := by decide +kernel
theorem dX12_feed_36 : decode cX12_feed 36 = .ok (.aload_n 0, 1) := by decide +kernel
theorem dX12_feed_37 : decode cX12_feed 37 = .ok (.iload 5, 2) := by decide +kernel
theorem dX12_feed_39 : decode cX12_feed 39 = .ok (.invokevirtual 92, 3) := by decide +kernel
theorem dX12_feed_42 : decode cX12_feed 42 = .ok (.aload_n 0, 1) := by decide +kernel
theorem dX12_feed_43 : decode cX12_feed 43 = .ok (.getfield 89, 3) := by decide +kernel
theorem dX12_feed_46 : decode cX12_feed 46 = .ok (.ireturn, 1) := by decide +kernel
theorem dX12_four_0 : decode cX12_four 0 = .ok (.bipush 24, 2) := by decide +kernel
theorem dX12_four_2 : decode cX12_four 2 = .ok (.istore_n 2, 1) := by decide +kernel
theorem dX12_four_3 : decode cX12_four 3 = .ok (.iload_n 2, 1) := by decide +kernel
theorem dX12_four_4 : decode cX12_four 4 = .ok (.ifCond .lt 32, 3) := by decide +kernel
theorem dX12_four_7 : decode cX12_four 7 = .ok (.aload_n 0, 1) := by decide +kernel
theorem dX12_four_8 : decode cX12_four 8 = .ok (.getfield 7, 3) := by decide +kernel
theorem dX12_four_11 : decode cX12_four 11 = .ok (.aload_n 0, 1) := by decide +kernel
theorem dX12_four_12 : decode cX12_four 12 = .ok (.getfield 89, 3) := by decide +kernel
theorem dX12_four_15 : decode cX12_four 15 = .ok (.iload_n 1, 1) := by decide +kernel
theorem dX12_four_16 : decode cX12_four 16 = .ok (.iload_n 2, 1) := by decide +kernel
theorem dX12_four_17 : decode cX12_four 17 = .ok (.ishr, 1) := by decide +kernel
theorem dX12_four_18 : decode cX12_four 18 = .ok (.i2b, 1) := by decide +kernel
theorem dX12_four_19 : decode cX12_four 19 = .ok (.bastore, 1) := by decide +kernel
theorem dX12_four_20 : decode cX12_four 20 = .ok (.aload_n 0, 1) := by decide +kernel
theorem dX12_four_21 : decode cX12_four 21 = .ok (.dup, 1) := by decide +kernel
theorem dX12_four_22 : decode cX12_four 22 = .ok (.getfield 89, 3) := by decide +kernel
theorem dX12_four_25 : decode cX12_four 25 = .ok (.iconst 1, 1) := by decide +kernel
theorem dX12_four_26 : decode cX12_four 26 = .ok (.iadd, 1) := by decide +kernel
theorem dX12_four_27 : decode cX12_four 27 = .ok (.putfield 89, 3) := by decide +kernel
theorem dX12_four_30 : decode cX12_four 30 = .ok (.iinc 2 (-8), 3) := by decide +kernel
theorem dX12_four_33 : decode cX12_four 33 = .ok (.goto (-30), 3) := by decide +kernel
theorem dX12_four_36 : decode cX12_four 36 = .ok (.return_, 1) := by decide +kernel
theorem dX12_hold_0 : decode cX12_hold 0 = .ok (.aload_n 0, 1) := by decide +kernel
theorem dX12_hold_1 : decode cX12_hold 1 = .ok (.iload_n 1, 1) := by decide +kernel
theorem dX12_hold_2 : decode cX12_hold 2 = .ok (.invokevirtual 314, 3) := by decide +kernel
theorem dX12_hold_5 : decode cX12_hold 5 = .ok (.ifCond .ne 5, 3) := by decide +kernel
theorem dX12_hold_8 : decode cX12_hold 8 = .ok (.iconst (-1), 1) := by decide +kernel
theorem dX12_hold_9 : decode cX12_hold 9 = .ok (.ireturn, 1) := by decide +kernel
theorem dX12_hold_10 : decode cX12_hold 10 = .ok (.bipush (-2), 2) := by decide +kernel
theorem dX12_hold_12 : decode cX12_hold 12 = .ok (.istore_n 2, 1) := by decide +kernel
theorem dX12_hold_13 : decode cX12_hold 13 = .ok (.aload_n 0, 1) := by decide +kernel
theorem dX12_hold_14 : decode cX12_hold 14 = .ok (.invokevirtual 372, 3) := by decide +kernel
theorem dX12_hold_17 : decode cX12_hold 17 = .ok (.iconst 0, 1) := by decide +kernel
theorem dX12_hold_18 : decode cX12_hold 18 = .ok (.istore_n 3, 1) := by decide +kernel
theorem dX12_hold_19 : decode cX12_hold 19 = .ok (.iload_n 3, 1) := by decide +kernel
theorem dX12_hold_20 : decode cX12_hold 20 = .ok (.bipush 60, 2) := by decide +kernel
theorem dX12_hold_22 : decode cX12_hold 22 = .ok (.if_icmp .gt 60, 3) := by decide +kernel
theorem dX12_hold_25 : decode cX12_hold 25 = .ok (.iload_n 2, 1) := by decide +kernel
theorem dX12_hold_26 : decode cX12_hold 26 = .ok (.ifCond .ge 56, 3) := by decide +kernel
theorem dX12_hold_29 : decode cX12_hold 29 = .ok (.aload_n 0, 1) := by decide +kernel
theorem dX12_hold_30 : decode cX12_hold 30 = .ok (.iload_n 1, 1) := by decide +kernel
theorem dX12_hold_31 : decode cX12_hold 31 = .ok (.aload_n 0, 1) := by decide +kernel
theorem dX12_hold_32 : decode cX12_hold 32 = .ok (.getfield 39, 3) := by decide +kernel
theorem dX12_hold_35 : decode cX12_hold 35 = .ok (.bipush 46, 2) := by decide +kernel
theorem dX12_hold_37 : decode cX12_hold 37 = .ok (.iload_n 1, 1) := by decide +kernel
theorem dX12_hold_38 : decode cX12_hold 38 = .ok (.iadd, 1) := by decide +kernel
theorem dX12_hold_39 : decode cX12_hold 39 = .ok (.iaload, 1) := by decide +kernel
theorem dX12_hold_40 : decode cX12_hold 40 = .ok (.invokevirtual 341, 3) := by decide +kernel
theorem dX12_hold_43 : decode cX12_hold 43 = .ok (.aload_n 0, 1) := by decide +kernel
theorem dX12_hold_44 : decode cX12_hold 44 = .ok (.getfield 39, 3) := by decide +kernel
theorem dX12_hold_47 : decode cX12_hold 47 = .ok (.bipush 13, 2) := by decide +kernel
theorem dX12_hold_49 : decode cX12_hold 49 = .ok (.aload_n 0, 1) := by decide +kernel
theorem dX12_hold_50 : decode cX12_hold 50 = .ok (.getfield 39, 3) := by decide +kernel
theorem dX12_hold_53 : decode cX12_hold 53 = .ok (.bipush 46, 2) := by decide +kernel
theorem dX12_hold_55 : decode cX12_hold 55 = .ok (.iload_n 1, 1) := by decide +kernel
theorem dX12_hold_56 : decode cX12_hold 56 = .ok (.iadd, 1) := by decide +kernel
theorem dX12_hold_57 : decode cX12_hold 57 = .ok (.iaload, 1) := by decide +kernel
theorem dX12_hold_58 : decode cX12_hold 58 = .ok (.iadd, 1) := by decide +kernel
theorem dX12_hold_59 : decode cX12_hold 59 = .ok (.iaload, 1) := by decide +kernel
theorem dX12_hold_60 : decode cX12_hold 60 = .ok (.if_icmp .ne 5, 3) := by decide +kernel
theorem dX12_hold_63 : decode cX12_hold 63 = .ok (.iload_n 3, 1) := by decide +kernel
theorem dX12_hold_64 : decode cX12_hold 64 = .ok (.istore_n 2, 1) := by decide +kernel
theorem dX12_hold_65 : decode cX12_hold 65 = .ok (.aload_n 0, 1) := by decide +kernel
theorem dX12_hold_66 : decode cX12_hold 66 = .ok (.getfield 39, 3) := by decide +kernel
theorem dX12_hold_69 : decode cX12_hold 69 = .ok (.bipush 11, 2) := by decide +kernel
theorem dX12_hold_71 : decode cX12_hold 71 = .ok (.dup2, 1) := by decide +kernel
theorem dX12_hold_72 : decode cX12_hold 72 = .ok (.iaload, 1) := by decide +kernel
theorem dX12_hold_73 : decode cX12_hold 73 = .ok (.iconst 1, 1) := by decide +kernel
theorem dX12_hold_74 : decode cX12_hold 74 = .ok (.iadd, 1) := by decide +kernel
theorem dX12_hold_75 : decode cX12_hold 75 = .ok (.iastore, 1) := by decide +kernel
theorem dX12_hold_76 : decode cX12_hold 76 = .ok (.iinc 3 1, 3) := by decide +kernel
theorem dX12_hold_79 : decode cX12_hold 79 = .ok (.goto (-60), 3) := by decide +kernel
theorem dX12_hold_82 : decode cX12_hold 82 = .ok (.aload_n 0, 1) := by decide +kernel
theorem dX12_hold_83 : decode cX12_hold 83 = .ok (.invokevirtual 378, 3) := by decide +kernel
theorem dX12_hold_86 : decode cX12_hold 86 = .ok (.iload_n 2, 1) := by decide +kernel
theorem dX12_hold_87 : decode cX12_hold 87 = .ok (.ireturn, 1) := by decide +kernel
theorem dX12_init_0 : decode cX12_init 0 = .ok (.aload_n 0, 1) := by decide +kernel
theorem dX12_init_1 : decode cX12_init 1 = .ok (.invokespecial 1, 3) := by decide +kernel
theorem dX12_init_4 : decode cX12_init 4 = .ok (.aload_n 0, 1) := by decide +kernel
theorem dX12_init_5 : decode cX12_init 5 = .ok (.sipush 400, 3) := by decide +kernel
theorem dX12_init_8 : decode cX12_init 8 = .ok (.newarray .byte, 2) := by decide +kernel
theorem dX12_init_10 : decode cX12_init 10 = .ok (.putfield 7, 3) := by decide +kernel
theorem dX12_init_13 : decode cX12_init 13 = .ok (.aload_n 0, 1) := by decide +kernel
theorem dX12_init_14 : decode cX12_init 14 = .ok (.sipush 2400, 3) := by decide +kernel
theorem dX12_init_17 : decode cX12_init 17 = .ok (.newarray .int, 2) := by decide +kernel
theorem dX12_init_19 : decode cX12_init 19 = .ok (.putfield 13, 3) := by decide +kernel
theorem dX12_init_22 : decode cX12_init 22 = .ok (.aload_n 0, 1) := by decide +kernel
theorem dX12_init_23 : decode cX12_init 23 = .ok (.bipush 7, 2) := by decide +kernel
theorem dX12_init_25 : decode cX12_init 25 = .ok (.newarray .int, 2) := by decide +kernel
theorem dX12_init_27 : decode cX12_init 27 = .ok (.putfield 17, 3) := by decide +kernel
theorem dX12_init_30 : decode cX12_init 30 = .ok (.aload_n 0, 1) := by decide +kernel
theorem dX12_init_31 : decode cX12_init 31 = .ok (.sipush 288, 3) := by decide +kernel
theorem dX12_init_34 : decode cX12_init 34 = .ok (.newarray .int, 2) := by decide +kernel
theorem dX12_init_36 : decode cX12_init 36 = .ok (.putfield 20, 3) := by decide +kernel
theorem dX12_init_39 : decode cX12_init 39 = .ok (.aload_n 0, 1) := by decide +kernel
theorem dX12_init_40 : decode cX12_init 40 = .ok (.bipush 6, 2) := by decide +kernel
theorem dX12_init_42 : decode cX12_init 42 = .ok (.newarray .int, 2) := by decide +kernel
theorem dX12_init_44 : decode cX12_init 44 = .ok (.putfield 23, 3) := by decide +kernel
theorem dX12_init_47 : decode cX12_init 47 = .ok (.aload_n 0, 1) := by decide +kernel
theorem dX12_init_48 : decode cX12_init 48 = .ok (.bipush 84, 2) := by decide +kernel
theorem dX12_init_50 : decode cX12_init 50 = .ok (.newarray .int, 2) := by decide +kernel
theorem dX12_init_52 : decode cX12_init 52 = .ok (.putfield 26, 3) := by decide +kernel
theorem dX12_init_55 : decode cX12_init 55 = .ok (.aload_n 0, 1) := by decide +kernel
theorem dX12_init_56 : decode cX12_init 56 = .ok (.sipush 400, 3) := by decide +kernel
theorem dX12_init_59 : decode cX12_init 59 = .ok (.newarray .int, 2) := by decide +kernel
theorem dX12_init_61 : decode cX12_init 61 = .ok (.putfield 29, 3) := by decide +kernel
theorem dX12_init_64 : decode cX12_init 64 = .ok (.aload_n 0, 1) := by decide +kernel
theorem dX12_init_65 : decode cX12_init 65 = .ok (.bipush 64, 2) := by decide +kernel
theorem dX12_init_67 : decode cX12_init 67 = .ok (.newarray .long, 2) := by decide +kernel
theorem dX12_init_69 : decode cX12_init 69 = .ok (.putfield 32, 3) := by decide +kernel
theorem dX12_init_72 : decode cX12_init 72 = .ok (.aload_n 0, 1) := by decide +kernel
theorem dX12_init_73 : decode cX12_init 73 = .ok (.bipush 13, 2) := by decide +kernel
theorem dX12_init_75 : decode cX12_init 75 = .ok (.newarray .long, 2) := by decide +kernel
theorem dX12_init_77 : decode cX12_init 77 = .ok (.putfield 36, 3) := by decide +kernel
theorem dX12_init_80 : decode cX12_init 80 = .ok (.aload_n 0, 1) := by decide +kernel
theorem dX12_init_81 : decode cX12_init 81 = .ok (.bipush 115, 2) := by decide +kernel
theorem dX12_init_83 : decode cX12_init 83 = .ok (.newarray .int, 2) := by decide +kernel
theorem dX12_init_85 : decode cX12_init 85 = .ok (.putfield 39, 3) := by decide +kernel
theorem dX12_init_88 : decode cX12_init 88 = .ok (.aload_n 0, 1) := by decide +kernel
theorem dX12_init_89 : decode cX12_init 89 = .ok (.iconst (-1), 1) := by decide +kernel
theorem dX12_init_90 : decode cX12_init 90 = .ok (.putfield 42, 3) := by decide +kernel
theorem dX12_init_93 : decode cX12_init 93 = .ok (.aload_n 0, 1) := by decide +kernel
theorem dX12_init_94 : decode cX12_init 94 = .ok (.iconst (-1), 1) := by decide +kernel
theorem dX12_init_95 : decode cX12_init 95 = .ok (.putfield 46, 3) := by decide +kernel
theorem dX12_init_98 : decode cX12_init 98 = .ok (.aload_n 0, 1) := by decide +kernel
theorem dX12_init_99 : decode cX12_init 99 = .ok (.iconst 5, 1) := by decide +kernel
theorem dX12_init_100 : decode cX12_init 100 = .ok (.newarray .int, 2) := by decide +kernel
theorem dX12_init_102 : decode cX12_init 102 = .ok (.dup, 1) := by decide +kernel
theorem dX12_init_103 : decode cX12_init 103 = .ok (.iconst 0, 1) := by decide +kernel
theorem dX12_init_104 : decode cX12_init 104 = .ok (.iconst (-1), 1) := by decide +kernel
theorem dX12_init_105 : decode cX12_init 105 = .ok (.iastore, 1) := by decide +kernel
theorem dX12_init_106 : decode cX12_init 106 = .ok (.dup, 1) := by decide +kernel
theorem dX12_init_107 : decode cX12_init 107 = .ok (.iconst 1, 1) := by decide +kernel
theorem dX12_init_108 : decode cX12_init 108 = .ok (.iconst (-1), 1) := by decide +kernel
theorem dX12_init_109 : decode cX12_init 109 = .ok (.iastore, 1) := by decide +kernel
theorem dX12_init_110 : decode cX12_init 110 = .ok (.dup, 1) := by decide +kernel
theorem dX12_init_111 : decode cX12_init 111 = .ok (.iconst 2, 1) := by decide +kernel
theorem dX12_init_112 : decode cX12_init 112 = .ok (.iconst (-1), 1) := by decide +kernel
theorem dX12_init_113 : decode cX12_init 113 = .ok (.iastore, 1) := by decide +kernel
theorem dX12_init_114 : decode cX12_init 114 = .ok (.dup, 1) := by decide +kernel
theorem dX12_init_115 : decode cX12_init 115 = .ok (.iconst 3, 1) := by decide +kernel
theorem dX12_init_116 : decode cX12_init 116 = .ok (.iconst (-1), 1) := by decide +kernel
theorem dX12_init_117 : decode cX12_init 117 = .ok (.iastore, 1) := by decide +kernel
theorem dX12_init_118 : decode cX12_init 118 = .ok (.dup, 1) := by decide +kernel
theorem dX12_init_119 : decode cX12_init 119 = .ok (.iconst 4, 1) := by decide +kernel
theorem dX12_init_120 : decode cX12_init 120 = .ok (.iconst (-1), 1) := by decide +kernel
theorem dX12_init_121 : decode cX12_init 121 = .ok (.iastore, 1) := by decide +kernel
theorem dX12_init_122 : decode cX12_init 122 = .ok (.putfield 49, 3) := by decide +kernel
theorem dX12_init_125 : decode cX12_init 125 = .ok (.aload_n 0, 1) := by decide +kernel
theorem dX12_init_126 : decode cX12_init 126 = .ok (.iconst 5, 1) := by decide +kernel
theorem dX12_init_127 : decode cX12_init 127 = .ok (.newarray .int, 2) := by decide +kernel
theorem dX12_init_129 : decode cX12_init 129 = .ok (.putfield 52, 3) := by decide +kernel
theorem dX12_init_132 : decode cX12_init 132 = .ok (.aload_n 0, 1) := by decide +kernel
theorem dX12_init_133 : decode cX12_init 133 = .ok (.sipush 600, 3) := by decide +kernel
theorem dX12_init_136 : decode cX12_init 136 = .ok (.newarray .int, 2) := by decide +kernel
theorem dX12_init_138 : decode cX12_init 138 = .ok (.putfield 55, 3) := by decide +kernel
theorem dX12_init_141 : decode cX12_init 141 = .ok (.aload_n 0, 1) := by decide +kernel
theorem dX12_init_142 : decode cX12_init 142 = .ok (.bipush 30, 2) := by decide +kernel
theorem dX12_init_144 : decode cX12_init 144 = .ok (.newarray .int, 2) := by decide +kernel
theorem dX12_init_146 : decode cX12_init 146 = .ok (.putfield 58, 3) := by decide +kernel
theorem dX12_init_149 : decode cX12_init 149 = .ok (.aload_n 0, 1) := by decide +kernel
theorem dX12_init_150 : decode cX12_init 150 = .ok (.iconst 5, 1) := by decide +kernel
theorem dX12_init_151 : decode cX12_init 151 = .ok (.newarray .int, 2) := by decide +kernel
theorem dX12_init_153 : decode cX12_init 153 = .ok (.putfield 61, 3) := by decide +kernel
theorem dX12_init_156 : decode cX12_init 156 = .ok (.aload_n 0, 1) := by decide +kernel
theorem dX12_init_157 : decode cX12_init 157 = .ok (.iconst 5, 1) := by decide +kernel
theorem dX12_init_158 : decode cX12_init 158 = .ok (.newarray .int, 2) := by decide +kernel
theorem dX12_init_160 : decode cX12_init 160 = .ok (.putfield 64, 3) := by decide +kernel
theorem dX12_init_163 : decode cX12_init 163 = .ok (.aload_n 0, 1) := by decide +kernel
theorem dX12_init_164 : decode cX12_init 164 = .ok (.bipush 72, 2) := by decide +kernel
theorem dX12_init_166 : decode cX12_init 166 = .ok (.newarray .int, 2) := by decide +kernel
theorem dX12_init_168 : decode cX12_init 168 = .ok (.putfield 67, 3) := by decide +kernel
theorem dX12_init_171 : decode cX12_init 171 = .ok (.aload_n 0, 1) := by decide +kernel
theorem dX12_init_172 : decode cX12_init 172 = .ok (.bipush 7, 2) := by decide +kernel
theorem dX12_init_174 : decode cX12_init 174 = .ok (.newarray .boolean, 2) := by decide +kernel
theorem dX12_init_176 : decode cX12_init 176 = .ok (.putfield 70, 3) := by decide +kernel
theorem dX12_init_179 : decode cX12_init 179 = .ok (.aload_n 0, 1) := by decide +kernel
theorem dX12_init_180 : decode cX12_init 180 = .ok (.bipush 35, 2) := by decide +kernel
theorem dX12_init_182 : decode cX12_init 182 = .ok (.newarray .int, 2) := by decide +kernel
theorem dX12_init_184 : decode cX12_init 184 = .ok (.putfield 74, 3) := by decide +kernel
theorem dX12_init_187 : decode cX12_init 187 = .ok (.aload_n 0, 1) := by decide +kernel
theorem dX12_init_188 : decode cX12_init 188 = .ok (.sipush 460, 3) := by decide +kernel
theorem dX12_init_191 : decode cX12_init 191 = .ok (.newarray .int, 2) := by decide +kernel
theorem dX12_init_193 : decode cX12_init 193 = .ok (.putfield 77, 3) := by decide +kernel
theorem dX12_init_196 : decode cX12_init 196 = .ok (.aload_n 0, 1) := by decide +kernel
theorem dX12_init_197 : decode cX12_init 197 = .ok (.iconst 4, 1) := by decide +kernel
theorem dX12_init_198 : decode cX12_init 198 = .ok (.newarray .int, 2) := by decide +kernel
theorem dX12_init_200 : decode cX12_init 200 = .ok (.putfield 80, 3) := by decide +kernel
theorem dX12_init_203 : decode cX12_init 203 = .ok (.aload_n 0, 1) := by decide +kernel
theorem dX12_init_204 : decode cX12_init 204 = .ok (.iconst 4, 1) := by decide +kernel
theorem dX12_init_205 : decode cX12_init 205 = .ok (.newarray .int, 2) := by decide +kernel
theorem dX12_init_207 : decode cX12_init 207 = .ok (.putfield 83, 3) := by decide +kernel
theorem dX12_init_210 : decode cX12_init 210 = .ok (.aload_n 0, 1) := by decide +kernel
theorem dX12_init_211 : decode cX12_init 211 = .ok (.iconst 4, 1) := by decide +kernel
theorem dX12_init_212 : decode cX12_init 212 = .ok (.newarray .boolean, 2) := by decide +kernel
theorem dX12_init_214 : decode cX12_init 214 = .ok (.putfield 86, 3) := by decide +kernel
theorem dX12_init_217 : decode cX12_init 217 = .ok (.return_, 1) := by decide +kernel
theorem dX12_look_0 : decode cX12_look 0 = .ok (.aload_n 0, 1) := by decide +kernel
theorem dX12_look_1 : decode cX12_look 1 = .ok (.invokevirtual 294, 3) := by decide +kernel
theorem dX12_look_4 : decode cX12_look 4 = .ok (.ifCond .eq 25, 3) := by decide +kernel
theorem dX12_look_7 : decode cX12_look 7 = .ok (.iload_n 1, 1) := by decide +kernel
theorem dX12_look_8 : decode cX12_look 8 = .ok (.i2l, 1) := by decide +kernel
theorem dX12_look_9 : decode cX12_look 9 = .ok (.lconst 0, 1) := by decide +kernel
theorem dX12_look_10 : decode cX12_look 10 = .ok (.ldc2_w 404, 3) := by decide +kernel
theorem dX12_look_13 : decode cX12_look 13 = .ok (.invokestatic 127, 3) := by decide +kernel
theorem dX12_look_16 : decode cX12_look 16 = .ok (.ifCond .eq 13, 3) := by decide +kernel
theorem dX12_look_19 : decode cX12_look 19 = .ok (.iload_n 2, 1) := by decide +kernel
theorem dX12_look_20 : decode cX12_look 20 = .ok (.i2l, 1) := by decide +kernel
theorem dX12_look_21 : decode cX12_look 21 = .ok (.lconst 0, 1) := by decide +kernel
theorem dX12_look_22 : decode cX12_look 22 = .ok (.lconst 1, 1) := by decide +kernel
theorem dX12_look_23 : decode cX12_look 23 = .ok (.invokestatic 127, 3) := by decide +kernel
theorem dX12_look_26 : decode cX12_look 26 = .ok (.ifCond .ne 5, 3) := by decide +kernel
theorem dX12_look_29 : decode cX12_look 29 = .ok (.iconst (-1), 1) := by decide +kernel
theorem dX12_look_30 : decode cX12_look 30 = .ok (.ireturn, 1) := by decide +kernel
theorem dX12_look_31 : decode cX12_look 31 = .ok (.aload_n 0, 1) := by decide +kernel
theorem dX12_look_32 : decode cX12_look 32 = .ok (.iload_n 1, 1) := by decide +kernel
theorem dX12_look_33 : decode cX12_look 33 = .ok (.invokevirtual 432, 3) := by decide +kernel
theorem dX12_look_36 : decode cX12_look 36 = .ok (.bipush (-2), 2) := by decide +kernel
theorem dX12_look_38 : decode cX12_look 38 = .ok (.istore_n 3, 1) := by decide +kernel
theorem dX12_look_39 : decode cX12_look 39 = .ok (.bipush (-2), 2) := by decide +kernel
theorem dX12_look_41 : decode cX12_look 41 = .ok (.istore 4, 2) := by decide +kernel
theorem dX12_look_43 : decode cX12_look 43 = .ok (.iconst 0, 1) := by decide +kernel
theorem dX12_look_44 : decode cX12_look 44 = .ok (.istore 5, 2) := by decide +kernel
theorem dX12_look_46 : decode cX12_look 46 = .ok (.iload 5, 2) := by decide +kernel
theorem dX12_look_48 : decode cX12_look 48 = .ok (.aload_n 0, 1) := by decide +kernel
theorem dX12_look_49 : decode cX12_look 49 = .ok (.getfield 39, 3) := by decide +kernel
theorem dX12_look_52 : decode cX12_look 52 = .ok (.iconst 5, 1) := by decide +kernel
theorem dX12_look_53 : decode cX12_look 53 = .ok (.iaload, 1) := by decide +kernel
theorem dX12_look_54 : decode cX12_look 54 = .ok (.if_icmp .ge 43, 3) := by decide +kernel
theorem dX12_look_57 : decode cX12_look 57 = .ok (.aload_n 0, 1) := by decide +kernel
theorem dX12_look_58 : decode cX12_look 58 = .ok (.iload 5, 2) := by decide +kernel
theorem dX12_look_60 : decode cX12_look 60 = .ok (.invokevirtual 435, 3) := by decide +kernel
theorem dX12_look_63 : decode cX12_look 63 = .ok (.istore 6, 2) := by decide +kernel
theorem dX12_look_65 : decode cX12_look 65 = .ok (.iload 6, 2) := by decide +kernel
theorem dX12_look_67 : decode cX12_look 67 = .ok (.ifCond .eq 24, 3) := by decide +kernel
theorem dX12_look_70 : decode cX12_look 70 = .ok (.iload_n 3, 1) := by decide +kernel
theorem dX12_look_71 : decode cX12_look 71 = .ok (.ifCond .lt 13, 3) := by decide +kernel
theorem dX12_look_74 : decode cX12_look 74 = .ok (.iload 6, 2) := by decide +kernel
theorem dX12_look_76 : decode cX12_look 76 = .ok (.iload 4, 2) := by decide +kernel
theorem dX12_look_78 : decode cX12_look 78 = .ok (.if_icmp .lt 6, 3) := by decide +kernel
theorem dX12_look_81 : decode cX12_look 81 = .ok (.goto 10, 3) := by decide +kernel
theorem dX12_look_84 : decode cX12_look 84 = .ok (.iload 5, 2) := by decide +kernel
theorem dX12_look_86 : decode cX12_look 86 = .ok (.istore_n 3, 1) := by decide +kernel
theorem dX12_look_87 : decode cX12_look 87 = .ok (.iload 6, 2) := by decide +kernel
theorem dX12_look_89 : decode cX12_look 89 = .ok (.istore 4, 2) := by decide +kernel
theorem dX12_look_91 : decode cX12_look 91 = .ok (.iinc 5 1, 3) := by decide +kernel
theorem dX12_look_94 : decode cX12_look 94 = .ok (.goto (-48), 3) := by decide +kernel
theorem dX12_look_97 : decode cX12_look 97 = .ok (.iload_n 2, 1) := by decide +kernel
theorem dX12_look_98 : decode cX12_look 98 = .ok (.ifCond .ne 7, 3) := by decide +kernel
theorem dX12_look_101 : decode cX12_look 101 = .ok (.iload_n 3, 1) := by decide +kernel
theorem dX12_look_102 : decode cX12_look 102 = .ok (.goto 5, 3) := by decide +kernel
theorem dX12_look_105 : decode cX12_look 105 = .ok (.iload 4, 2) := by decide +kernel
theorem dX12_look_107 : decode cX12_look 107 = .ok (.ireturn, 1) := by decide +kernel
theorem dX12_note_0 : decode cX12_note 0 = .ok (.iload_n 1, 1) := by decide +kernel
theorem dX12_note_1 : decode cX12_note 1 = .ok (.iconst (-1), 1) := by decide +kernel
theorem dX12_note_2 : decode cX12_note 2 = .ok (.if_icmp .ne 13, 3) := by decide +kernel
theorem dX12_note_5 : decode cX12_note 5 = .ok (.aload_n 0, 1) := by decide +kernel
theorem dX12_note_6 : decode cX12_note 6 = .ok (.getfield 39, 3) := by decide +kernel
theorem dX12_note_9 : decode cX12_note 9 = .ok (.bipush 114, 2) := by decide +kernel
theorem dX12_note_11 : decode cX12_note 11 = .ok (.iconst 0, 1) := by decide +kernel
theorem dX12_note_12 : decode cX12_note 12 = .ok (.iastore, 1) := by decide +kernel
theorem dX12_note_13 : decode cX12_note 13 = .ok (.iconst 0, 1) := by decide +kernel
theorem dX12_note_14 : decode cX12_note 14 = .ok (.ireturn, 1) := by decide +kernel
theorem dX12_note_15 : decode cX12_note 15 = .ok (.iload_n 1, 1) := by decide +kernel
theorem dX12_note_16 : decode cX12_note 16 = .ok (.i2l, 1) := by decide +kernel
theorem dX12_note_17 : decode cX12_note 17 = .ok (.lconst 0, 1) := by decide +kernel
theorem dX12_note_18 : decode cX12_note 18 = .ok (.ldc2_w 404, 3) := by decide +kernel
theorem dX12_note_21 : decode cX12_note 21 = .ok (.invokestatic 127, 3) := by decide +kernel
theorem dX12_note_24 : decode cX12_note 24 = .ok (.ifCond .eq 49, 3) := by decide +kernel
theorem dX12_note_27 : decode cX12_note 27 = .ok (.aload_n 0, 1) := by decide +kernel
theorem dX12_note_28 : decode cX12_note 28 = .ok (.iload_n 2, 1) := by decide +kernel
theorem dX12_note_29 : decode cX12_note 29 = .ok (.invokevirtual 314, 3) := by decide +kernel
theorem dX12_note_32 : decode cX12_note 32 = .ok (.ifCond .eq 41, 3) := by decide +kernel
theorem dX12_note_35 : decode cX12_note 35 = .ok (.iload_n 3, 1) := by decide +kernel
theorem dX12_note_36 : decode cX12_note 36 = .ok (.i2l, 1) := by decide +kernel
theorem dX12_note_37 : decode cX12_note 37 = .ok (.ldc2_w 424, 3) := by decide +kernel
theorem dX12_note_40 : decode cX12_note 40 = .ok (.aload_n 0, 1) := by decide +kernel
theorem dX12_note_41 : decode cX12_note 41 = .ok (.getfield 39, 3) := by decide +kernel
theorem dX12_note_44 : decode cX12_note 44 = .ok (.iconst 1, 1) := by decide +kernel
theorem dX12_note_45 : decode cX12_note 45 = .ok (.iaload, 1) := by decide +kernel
theorem dX12_note_46 : decode cX12_note 46 = .ok (.iconst 1, 1) := by decide +kernel
theorem dX12_note_47 : decode cX12_note 47 = .ok (.isub, 1) := by decide +kernel
theorem dX12_note_48 : decode cX12_note 48 = .ok (.i2l, 1) := by decide +kernel
theorem dX12_note_49 : decode cX12_note 49 = .ok (.invokestatic 127, 3) := by decide +kernel
theorem dX12_note_52 : decode cX12_note 52 = .ok (.ifCond .ne 9, 3) := by decide +kernel
theorem dX12_note_55 : decode cX12_note 55 = .ok (.iload_n 3, 1) := by decide +kernel
theorem dX12_note_56 : decode cX12_note 56 = .ok (.bipush 99, 2) := by decide +kernel
theorem dX12_note_58 : decode cX12_note 58 = .ok (.if_icmp .ne 15, 3) := by decide +kernel
theorem dX12_note_61 : decode cX12_note 61 = .ok (.aload_n 0, 1) := by decide +kernel
theorem dX12_note_62 : decode cX12_note 62 = .ok (.getfield 39, 3) := by decide +kernel
theorem dX12_note_65 : decode cX12_note 65 = .ok (.bipush 114, 2) := by decide +kernel
theorem dX12_note_67 : decode cX12_note 67 = .ok (.iaload, 1) := by decide +kernel
theorem dX12_note_68 : decode cX12_note 68 = .ok (.bipush 10, 2) := by decide +kernel
theorem dX12_note_70 : decode cX12_note 70 = .ok (.if_icmp .ne 6, 3) := by decide +kernel
theorem dX12_note_73 : decode cX12_note 73 = .ok (.bipush (-2), 2) := by decide +kernel
theorem dX12_note_75 : decode cX12_note 75 = .ok (.ireturn, 1) := by decide +kernel
theorem dX12_note_76 : decode cX12_note 76 = .ok (.bipush 84, 2) := by decide +kernel
theorem dX12_note_78 : decode cX12_note 78 = .ok (.iconst 3, 1) := by decide +kernel
theorem dX12_note_79 : decode cX12_note 79 = .ok (.aload_n 0, 1) := by decide +kernel
theorem dX12_note_80 : decode cX12_note 80 = .ok (.getfield 39, 3) := by decide +kernel
theorem dX12_note_83 : decode cX12_note 83 = .ok (.bipush 114, 2) := by decide +kernel
theorem dX12_note_85 : decode cX12_note 85 = .ok (.iaload, 1) := by decide +kernel
theorem dX12_note_86 : decode cX12_note 86 = .ok (.imul, 1) := by decide +kernel
theorem dX12_note_87 : decode cX12_note 87 = .ok (.iadd, 1) := by decide +kernel
theorem dX12_note_88 : decode cX12_note 88 = .ok (.istore 4, 2) := by decide +kernel
theorem dX12_note_90 : decode cX12_note 90 = .ok (.aload_n 0, 1) := by decide +kernel
theorem dX12_note_91 : decode cX12_note 91 = .ok (.getfield 39, 3) := by decide +kernel
theorem dX12_note_94 : decode cX12_note 94 = .ok (.iload 4, 2) := by decide +kernel
theorem dX12_note_96 : decode cX12_note 96 = .ok (.iload_n 1, 1) := by decide +kernel
theorem dX12_note_97 : decode cX12_note 97 = .ok (.iastore, 1) := by decide +kernel
theorem dX12_note_98 : decode cX12_note 98 = .ok (.aload_n 0, 1) := by decide +kernel
theorem dX12_note_99 : decode cX12_note 99 = .ok (.getfield 39, 3) := by decide +kernel
theorem dX12_note_102 : decode cX12_note 102 = .ok (.iload 4, 2) := by decide +kernel
theorem dX12_note_104 : decode cX12_note 104 = .ok (.iconst 1, 1) := by decide +kernel
theorem dX12_note_105 : decode cX12_note 105 = .ok (.iadd, 1) := by decide +kernel
theorem dX12_note_106 : decode cX12_note 106 = .ok (.iload_n 2, 1) := by decide +kernel
theorem dX12_note_107 : decode cX12_note 107 = .ok (.iastore, 1) := by decide +kernel
theorem dX12_note_108 : decode cX12_note 108 = .ok (.aload_n 0, 1) := by decide +kernel
theorem dX12_note_109 : decode cX12_note 109 = .ok (.getfield 39, 3) := by decide +kernel
theorem dX12_note_112 : decode cX12_note 112 = .ok (.iload 4, 2) := by decide +kernel
theorem dX12_note_114 : decode cX12_note 114 = .ok (.iconst 2, 1) := by decide +kernel
theorem dX12_note_115 : decode cX12_note 115 = .ok (.iadd, 1) := by decide +kernel
theorem dX12_note_116 : decode cX12_note 116 = .ok (.iload_n 3, 1) := by decide +kernel
theorem dX12_note_117 : decode cX12_note 117 = .ok (.iastore, 1) := by decide +kernel
theorem dX12_note_118 : decode cX12_note 118 = .ok (.aload_n 0, 1) := by decide +kernel
theorem dX12_note_119 : decode cX12_note 119 = .ok (.getfield 39, 3) := by decide +kernel
theorem dX12_note_122 : decode cX12_note 122 = .ok (.bipush 114, 2) := by decide +kernel
theorem dX12_note_124 : decode cX12_note 124 = .ok (.dup2, 1) := by decide +kernel
