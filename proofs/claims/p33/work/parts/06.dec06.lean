theorem dX10_wordOf_10 : decode cX10_wordOf 10 = .ok (.ldc 81, 2) := by decide +kernel
theorem dX10_wordOf_12 : decode cX10_wordOf 12 = .ok (.invokevirtual 83, 3) := by decide +kernel
theorem dX10_wordOf_15 : decode cX10_wordOf 15 = .ok (.if_icmp .gt 68, 3) := by decide +kernel
theorem dX10_wordOf_18 : decode cX10_wordOf 18 = .ok (.iload 5, 2) := by decide +kernel
theorem dX10_wordOf_20 : decode cX10_wordOf 20 = .ok (.ldc 81, 2) := by decide +kernel
theorem dX10_wordOf_22 : decode cX10_wordOf 22 = .ok (.invokevirtual 83, 3) := by decide +kernel
theorem dX10_wordOf_25 : decode cX10_wordOf 25 = .ok (.if_icmp .eq 15, 3) := by decide +kernel
theorem dX10_wordOf_28 : decode cX10_wordOf 28 = .ok (.ldc 81, 2) := by decide +kernel
theorem dX10_wordOf_30 : decode cX10_wordOf 30 = .ok (.iload 5, 2) := by decide +kernel
theorem dX10_wordOf_32 : decode cX10_wordOf 32 = .ok (.invokevirtual 88, 3) := by decide +kernel
theorem dX10_wordOf_35 : decode cX10_wordOf 35 = .ok (.bipush 32, 2) := by decide +kernel
theorem dX10_wordOf_37 : decode cX10_wordOf 37 = .ok (.if_icmp .ne 40, 3) := by decide +kernel
theorem dX10_wordOf_40 : decode cX10_wordOf 40 = .ok (.iload 5, 2) := by decide +kernel
theorem dX10_wordOf_42 : decode cX10_wordOf 42 = .ok (.iload 4, 2) := by decide +kernel
theorem dX10_wordOf_44 : decode cX10_wordOf 44 = .ok (.isub, 1) := by decide +kernel
theorem dX10_wordOf_45 : decode cX10_wordOf 45 = .ok (.iload_n 2, 1) := by decide +kernel
theorem dX10_wordOf_46 : decode cX10_wordOf 46 = .ok (.iload_n 1, 1) := by decide +kernel
theorem dX10_wordOf_47 : decode cX10_wordOf 47 = .ok (.isub, 1) := by decide +kernel
theorem dX10_wordOf_48 : decode cX10_wordOf 48 = .ok (.if_icmp .ne 20, 3) := by decide +kernel
theorem dX10_wordOf_51 : decode cX10_wordOf 51 = .ok (.aload_n 0, 1) := by decide +kernel
theorem dX10_wordOf_52 : decode cX10_wordOf 52 = .ok (.iload_n 1, 1) := by decide +kernel
theorem dX10_wordOf_53 : decode cX10_wordOf 53 = .ok (.iload 4, 2) := by decide +kernel
theorem dX10_wordOf_55 : decode cX10_wordOf 55 = .ok (.iload 5, 2) := by decide +kernel
theorem dX10_wordOf_57 : decode cX10_wordOf 57 = .ok (.iload 4, 2) := by decide +kernel
theorem dX10_wordOf_59 : decode cX10_wordOf 59 = .ok (.isub, 1) := by decide +kernel
theorem dX10_wordOf_60 : decode cX10_wordOf 60 = .ok (.invokevirtual 92, 3) := by decide +kernel
theorem dX10_wordOf_63 : decode cX10_wordOf 63 = .ok (.ifCond .eq 5, 3) := by decide +kernel
theorem dX10_wordOf_66 : decode cX10_wordOf 66 = .ok (.iload_n 3, 1) := by decide +kernel
theorem dX10_wordOf_67 : decode cX10_wordOf 67 = .ok (.ireturn, 1) := by decide +kernel
theorem dX10_wordOf_68 : decode cX10_wordOf 68 = .ok (.iinc 3 1, 3) := by decide +kernel
theorem dX10_wordOf_71 : decode cX10_wordOf 71 = .ok (.iload 5, 2) := by decide +kernel
theorem dX10_wordOf_73 : decode cX10_wordOf 73 = .ok (.iconst 1, 1) := by decide +kernel
theorem dX10_wordOf_74 : decode cX10_wordOf 74 = .ok (.iadd, 1) := by decide +kernel
theorem dX10_wordOf_75 : decode cX10_wordOf 75 = .ok (.istore 4, 2) := by decide +kernel
theorem dX10_wordOf_77 : decode cX10_wordOf 77 = .ok (.iinc 5 1, 3) := by decide +kernel
theorem dX10_wordOf_80 : decode cX10_wordOf 80 = .ok (.goto (-72), 3) := by decide +kernel
theorem dX10_wordOf_83 : decode cX10_wordOf 83 = .ok (.iconst (-1), 1) := by decide +kernel
theorem dX10_wordOf_84 : decode cX10_wordOf 84 = .ok (.ireturn, 1) := by decide +kernel
theorem dX11_archer_0 : decode cX11_archer 0 = .ok (.aload_n 0, 1) := by decide +kernel
theorem dX11_archer_1 : decode cX11_archer 1 = .ok (.getfield 43, 3) := by decide +kernel
theorem dX11_archer_4 : decode cX11_archer 4 = .ok (.getfield 111, 3) := by decide +kernel
theorem dX11_archer_7 : decode cX11_archer 7 = .ok (.iload_n 1, 1) := by decide +kernel
theorem dX11_archer_8 : decode cX11_archer 8 = .ok (.invokevirtual 139, 3) := by decide +kernel
theorem dX11_archer_11 : decode cX11_archer 11 = .ok (.ifCond .ne 5, 3) := by decide +kernel
theorem dX11_archer_14 : decode cX11_archer 14 = .ok (.iconst (-1), 1) := by decide +kernel
theorem dX11_archer_15 : decode cX11_archer 15 = .ok (.ireturn, 1) := by decide +kernel
theorem dX11_archer_16 : decode cX11_archer 16 = .ok (.iload_n 2, 1) := by decide +kernel
theorem dX11_archer_17 : decode cX11_archer 17 = .ok (.tableswitch 115 0 4 #[35, 51, 67, 83, 99], 35) := by decide +kernel
theorem dX11_archer_52 : decode cX11_archer 52 = .ok (.aload_n 0, 1) := by decide +kernel
theorem dX11_archer_53 : decode cX11_archer 53 = .ok (.getfield 43, 3) := by decide +kernel
theorem dX11_archer_56 : decode cX11_archer 56 = .ok (.getfield 111, 3) := by decide +kernel
theorem dX11_archer_59 : decode cX11_archer 59 = .ok (.getfield 124, 3) := by decide +kernel
theorem dX11_archer_62 : decode cX11_archer 62 = .ok (.bipush 38, 2) := by decide +kernel
theorem dX11_archer_64 : decode cX11_archer 64 = .ok (.iload_n 1, 1) := by decide +kernel
theorem dX11_archer_65 : decode cX11_archer 65 = .ok (.iadd, 1) := by decide +kernel
theorem dX11_archer_66 : decode cX11_archer 66 = .ok (.iaload, 1) := by decide +kernel
theorem dX11_archer_67 : decode cX11_archer 67 = .ok (.ireturn, 1) := by decide +kernel
theorem dX11_archer_68 : decode cX11_archer 68 = .ok (.aload_n 0, 1) := by decide +kernel
theorem dX11_archer_69 : decode cX11_archer 69 = .ok (.getfield 43, 3) := by decide +kernel
theorem dX11_archer_72 : decode cX11_archer 72 = .ok (.getfield 111, 3) := by decide +kernel
theorem dX11_archer_75 : decode cX11_archer 75 = .ok (.getfield 124, 3) := by decide +kernel
theorem dX11_archer_78 : decode cX11_archer 78 = .ok (.bipush 43, 2) := by decide +kernel
theorem dX11_archer_80 : decode cX11_archer 80 = .ok (.iload_n 1, 1) := by decide +kernel
theorem dX11_archer_81 : decode cX11_archer 81 = .ok (.iadd, 1) := by decide +kernel
theorem dX11_archer_82 : decode cX11_archer 82 = .ok (.iaload, 1) := by decide +kernel
theorem dX11_archer_83 : decode cX11_archer 83 = .ok (.ireturn, 1) := by decide +kernel
theorem dX11_archer_84 : decode cX11_archer 84 = .ok (.aload_n 0, 1) := by decide +kernel
theorem dX11_archer_85 : decode cX11_archer 85 = .ok (.getfield 43, 3) := by decide +kernel
theorem dX11_archer_88 : decode cX11_archer 88 = .ok (.getfield 111, 3) := by decide +kernel
theorem dX11_archer_91 : decode cX11_archer 91 = .ok (.getfield 124, 3) := by decide +kernel
theorem dX11_archer_94 : decode cX11_archer 94 = .ok (.bipush 48, 2) := by decide +kernel
theorem dX11_archer_96 : decode cX11_archer 96 = .ok (.iload_n 1, 1) := by decide +kernel
theorem dX11_archer_97 : decode cX11_archer 97 = .ok (.iadd, 1) := by decide +kernel
theorem dX11_archer_98 : decode cX11_archer 98 = .ok (.iaload, 1) := by decide +kernel
theorem dX11_archer_99 : decode cX11_archer 99 = .ok (.ireturn, 1) := by decide +kernel
theorem dX11_archer_100 : decode cX11_archer 100 = .ok (.aload_n 0, 1) := by decide +kernel
theorem dX11_archer_101 : decode cX11_archer 101 = .ok (.getfield 43, 3) := by decide +kernel
theorem dX11_archer_104 : decode cX11_archer 104 = .ok (.getfield 111, 3) := by decide +kernel
theorem dX11_archer_107 : decode cX11_archer 107 = .ok (.getfield 124, 3) := by decide +kernel
theorem dX11_archer_110 : decode cX11_archer 110 = .ok (.bipush 53, 2) := by decide +kernel
theorem dX11_archer_112 : decode cX11_archer 112 = .ok (.iload_n 1, 1) := by decide +kernel
theorem dX11_archer_113 : decode cX11_archer 113 = .ok (.iadd, 1) := by decide +kernel
theorem dX11_archer_114 : decode cX11_archer 114 = .ok (.iaload, 1) := by decide +kernel
theorem dX11_archer_115 : decode cX11_archer 115 = .ok (.ireturn, 1) := by decide +kernel
theorem dX11_archer_116 : decode cX11_archer 116 = .ok (.aload_n 0, 1) := by decide +kernel
theorem dX11_archer_117 : decode cX11_archer 117 = .ok (.getfield 43, 3) := by decide +kernel
theorem dX11_archer_120 : decode cX11_archer 120 = .ok (.getfield 111, 3) := by decide +kernel
theorem dX11_archer_123 : decode cX11_archer 123 = .ok (.getfield 124, 3) := by decide +kernel
theorem dX11_archer_126 : decode cX11_archer 126 = .ok (.bipush 58, 2) := by decide +kernel
theorem dX11_archer_128 : decode cX11_archer 128 = .ok (.iload_n 1, 1) := by decide +kernel
theorem dX11_archer_129 : decode cX11_archer 129 = .ok (.iadd, 1) := by decide +kernel
theorem dX11_archer_130 : decode cX11_archer 130 = .ok (.iaload, 1) := by decide +kernel
theorem dX11_archer_131 : decode cX11_archer 131 = .ok (.ireturn, 1) := by decide +kernel
theorem dX11_archer_132 : decode cX11_archer 132 = .ok (.iconst (-1), 1) := by decide +kernel
theorem dX11_archer_133 : decode cX11_archer 133 = .ok (.ireturn, 1) := by decide +kernel
theorem dX11_breath_0 : decode cX11_breath 0 = .ok (.aload_n 0, 1) := by decide +kernel
theorem dX11_breath_1 : decode cX11_breath 1 = .ok (.getfield 43, 3) := by decide +kernel
theorem dX11_breath_4 : decode cX11_breath 4 = .ok (.getfield 111, 3) := by decide +kernel
theorem dX11_breath_7 : decode cX11_breath 7 = .ok (.astore_n 2, 1) := by decide +kernel
theorem dX11_breath_8 : decode cX11_breath 8 = .ok (.aload_n 2, 1) := by decide +kernel
theorem dX11_breath_9 : decode cX11_breath 9 = .ok (.invokevirtual 152, 3) := by decide +kernel
theorem dX11_breath_12 : decode cX11_breath 12 = .ok (.ifCond .eq 13, 3) := by decide +kernel
theorem dX11_breath_15 : decode cX11_breath 15 = .ok (.iload_n 1, 1) := by decide +kernel
theorem dX11_breath_16 : decode cX11_breath 16 = .ok (.iconst 1, 1) := by decide +kernel
theorem dX11_breath_17 : decode cX11_breath 17 = .ok (.bipush 20, 2) := by decide +kernel
theorem dX11_breath_19 : decode cX11_breath 19 = .ok (.invokestatic 90, 3) := by decide +kernel
theorem dX11_breath_22 : decode cX11_breath 22 = .ok (.ifCond .ne 5, 3) := by decide +kernel
theorem dX11_breath_25 : decode cX11_breath 25 = .ok (.iconst (-1), 1) := by decide +kernel
theorem dX11_breath_26 : decode cX11_breath 26 = .ok (.ireturn, 1) := by decide +kernel
theorem dX11_breath_27 : decode cX11_breath 27 = .ok (.aload_n 0, 1) := by decide +kernel
theorem dX11_breath_28 : decode cX11_breath 28 = .ok (.getfield 54, 3) := by decide +kernel
theorem dX11_breath_31 : decode cX11_breath 31 = .ok (.aload_n 2, 1) := by decide +kernel
theorem dX11_breath_32 : decode cX11_breath 32 = .ok (.invokevirtual 156, 3) := by decide +kernel
theorem dX11_breath_35 : decode cX11_breath 35 = .ok (.aload_n 2, 1) := by decide +kernel
theorem dX11_breath_36 : decode cX11_breath 36 = .ok (.getfield 124, 3) := by decide +kernel
theorem dX11_breath_39 : decode cX11_breath 39 = .ok (.bipush 6, 2) := by decide +kernel
theorem dX11_breath_41 : decode cX11_breath 41 = .ok (.dup2, 1) := by decide +kernel
theorem dX11_breath_42 : decode cX11_breath 42 = .ok (.iaload, 1) := by decide +kernel
theorem dX11_breath_43 : decode cX11_breath 43 = .ok (.iload_n 1, 1) := by decide +kernel
theorem dX11_breath_44 : decode cX11_breath 44 = .ok (.iadd, 1) := by decide +kernel
theorem dX11_breath_45 : decode cX11_breath 45 = .ok (.iastore, 1) := by decide +kernel
theorem dX11_breath_46 : decode cX11_breath 46 = .ok (.aload_n 2, 1) := by decide +kernel
theorem dX11_breath_47 : decode cX11_breath 47 = .ok (.getfield 124, 3) := by decide +kernel
theorem dX11_breath_50 : decode cX11_breath 50 = .ok (.bipush 6, 2) := by decide +kernel
theorem dX11_breath_52 : decode cX11_breath 52 = .ok (.iaload, 1) := by decide +kernel
theorem dX11_breath_53 : decode cX11_breath 53 = .ok (.ireturn, 1) := by decide +kernel
theorem dX11_within_0 : decode cX11_within 0 = .ok (.iload_n 0, 1) := by decide +kernel
theorem dX11_within_1 : decode cX11_within 1 = .ok (.iload_n 1, 1) := by decide +kernel
theorem dX11_within_2 : decode cX11_within 2 = .ok (.if_icmp .lt 12, 3) := by decide +kernel
theorem dX11_within_5 : decode cX11_within 5 = .ok (.iload_n 0, 1) := by decide +kernel
theorem dX11_within_6 : decode cX11_within 6 = .ok (.iload_n 2, 1) := by decide +kernel
theorem dX11_within_7 : decode cX11_within 7 = .ok (.if_icmp .gt 7, 3) := by decide +kernel
theorem dX11_within_10 : decode cX11_within 10 = .ok (.iconst 1, 1) := by decide +kernel
theorem dX11_within_11 : decode cX11_within 11 = .ok (.goto 4, 3) := by decide +kernel
theorem dX11_within_14 : decode cX11_within 14 = .ok (.iconst 0, 1) := by decide +kernel
theorem dX11_within_15 : decode cX11_within 15 = .ok (.ireturn, 1) := by decide +kernel
theorem dX12_archer_0 : decode cX12_archer 0 = .ok (.aload_n 0, 1) := by decide +kernel
theorem dX12_archer_1 : decode cX12_archer 1 = .ok (.iload_n 1, 1) := by decide +kernel
theorem dX12_archer_2 : decode cX12_archer 2 = .ok (.invokevirtual 314, 3) := by decide +kernel
theorem dX12_archer_5 : decode cX12_archer 5 = .ok (.ifCond .ne 5, 3) := by decide +kernel
theorem dX12_archer_8 : decode cX12_archer 8 = .ok (.iconst (-1), 1) := by decide +kernel
theorem dX12_archer_9 : decode cX12_archer 9 = .ok (.ireturn, 1) := by decide +kernel
theorem dX12_archer_10 : decode cX12_archer 10 = .ok (.iload_n 2, 1) := by decide +kernel
theorem dX12_archer_11 : decode cX12_archer 11 = .ok (.tableswitch 71 0 4 #[33, 43, 49, 59, 65], 33) := by decide +kernel
theorem dX12_archer_44 : decode cX12_archer 44 = .ok (.aload_n 0, 1) := by decide +kernel
theorem dX12_archer_45 : decode cX12_archer 45 = .ok (.getfield 39, 3) := by decide +kernel
theorem dX12_archer_48 : decode cX12_archer 48 = .ok (.bipush 46, 2) := by decide +kernel
theorem dX12_archer_50 : decode cX12_archer 50 = .ok (.iload_n 1, 1) := by decide +kernel
theorem dX12_archer_51 : decode cX12_archer 51 = .ok (.iadd, 1) := by decide +kernel
theorem dX12_archer_52 : decode cX12_archer 52 = .ok (.iaload, 1) := by decide +kernel
theorem dX12_archer_53 : decode cX12_archer 53 = .ok (.ireturn, 1) := by decide +kernel
theorem dX12_archer_54 : decode cX12_archer 54 = .ok (.aload_n 0, 1) := by decide +kernel
theorem dX12_archer_55 : decode cX12_archer 55 = .ok (.iload_n 1, 1) := by decide +kernel
theorem dX12_archer_56 : decode cX12_archer 56 = .ok (.invokevirtual 303, 3) := by decide +kernel
theorem dX12_archer_59 : decode cX12_archer 59 = .ok (.ireturn, 1) := by decide +kernel
theorem dX12_archer_60 : decode cX12_archer 60 = .ok (.aload_n 0, 1) := by decide +kernel
theorem dX12_archer_61 : decode cX12_archer 61 = .ok (.getfield 39, 3) := by decide +kernel
theorem dX12_archer_64 : decode cX12_archer 64 = .ok (.bipush 51, 2) := by decide +kernel
theorem dX12_archer_66 : decode cX12_archer 66 = .ok (.iload_n 1, 1) := by decide +kernel
theorem dX12_archer_67 : decode cX12_archer 67 = .ok (.iadd, 1) := by decide +kernel
theorem dX12_archer_68 : decode cX12_archer 68 = .ok (.iaload, 1) := by decide +kernel
theorem dX12_archer_69 : decode cX12_archer 69 = .ok (.ireturn, 1) := by decide +kernel
theorem dX12_archer_70 : decode cX12_archer 70 = .ok (.aload_n 0, 1) := by decide +kernel
theorem dX12_archer_71 : decode cX12_archer 71 = .ok (.iload_n 1, 1) := by decide +kernel
theorem dX12_archer_72 : decode cX12_archer 72 = .ok (.invokevirtual 317, 3) := by decide +kernel
theorem dX12_archer_75 : decode cX12_archer 75 = .ok (.ireturn, 1) := by decide +kernel
theorem dX12_archer_76 : decode cX12_archer 76 = .ok (.aload_n 0, 1) := by decide +kernel
theorem dX12_archer_77 : decode cX12_archer 77 = .ok (.iload_n 1, 1) := by decide +kernel
theorem dX12_archer_78 : decode cX12_archer 78 = .ok (.invokevirtual 320, 3) := by decide +kernel
theorem dX12_archer_81 : decode cX12_archer 81 = .ok (.ireturn, 1) := by decide +kernel
theorem dX12_archer_82 : decode cX12_archer 82 = .ok (.iconst (-1), 1) := by decide +kernel
theorem dX12_archer_83 : decode cX12_archer 83 = .ok (.ireturn, 1) := by decide +kernel
theorem dX12_begins_0 : decode cX12_begins 0 = .ok (.bipush 10, 2) := by decide +kernel
theorem dX12_begins_2 : decode cX12_begins 2 = .ok (.istore_n 1, 1) := by decide +kernel
theorem dX12_begins_3 : decode cX12_begins 3 = .ok (.iload_n 1, 1) := by decide +kernel
theorem dX12_begins_4 : decode cX12_begins 4 = .ok (.bipush 40, 2) := by decide +kernel
theorem dX12_begins_6 : decode cX12_begins 6 = .ok (.if_icmp .ge 16, 3) := by decide +kernel
theorem dX12_begins_9 : decode cX12_begins 9 = .ok (.aload_n 0, 1) := by decide +kernel
theorem dX12_begins_10 : decode cX12_begins 10 = .ok (.getfield 39, 3) := by decide +kernel
theorem dX12_begins_13 : decode cX12_begins 13 = .ok (.iload_n 1, 1) := by decide +kernel
theorem dX12_begins_14 : decode cX12_begins 14 = .ok (.iconst 0, 1) := by decide +kernel
theorem dX12_begins_15 : decode cX12_begins 15 = .ok (.iastore, 1) := by decide +kernel
theorem dX12_begins_16 : decode cX12_begins 16 = .ok (.iinc 1 1, 3) := by decide +kernel
theorem dX12_begins_19 : decode cX12_begins 19 = .ok (.goto (-16), 3) := by decide +kernel
theorem dX12_begins_22 : decode cX12_begins 22 = .ok (.iconst 0, 1) := by decide +kernel
theorem dX12_begins_23 : decode cX12_begins 23 = .ok (.istore_n 1, 1) := by decide +kernel
theorem dX12_begins_24 : decode cX12_begins 24 = .ok (.iload_n 1, 1) := by decide +kernel
theorem dX12_begins_25 : decode cX12_begins 25 = .ok (.bipush 6, 2) := by decide +kernel
theorem dX12_begins_27 : decode cX12_begins 27 = .ok (.if_icmp .ge 27, 3) := by decide +kernel
theorem dX12_begins_30 : decode cX12_begins 30 = .ok (.aload_n 0, 1) := by decide +kernel
theorem dX12_begins_31 : decode cX12_begins 31 = .ok (.getfield 39, 3) := by decide +kernel
theorem dX12_begins_34 : decode cX12_begins 34 = .ok (.bipush 13, 2) := by decide +kernel
theorem dX12_begins_36 : decode cX12_begins 36 = .ok (.iload_n 1, 1) := by decide +kernel
theorem dX12_begins_37 : decode cX12_begins 37 = .ok (.iadd, 1) := by decide +kernel
theorem dX12_begins_38 : decode cX12_begins 38 = .ok (.aload_n 0, 1) := by decide +kernel
theorem dX12_begins_39 : decode cX12_begins 39 = .ok (.getfield 39, 3) := by decide +kernel
theorem dX12_begins_42 : decode cX12_begins 42 = .ok (.bipush 68, 2) := by decide +kernel
theorem dX12_begins_44 : decode cX12_begins 44 = .ok (.iload_n 1, 1) := by decide +kernel
theorem dX12_begins_45 : decode cX12_begins 45 = .ok (.iadd, 1) := by decide +kernel
theorem dX12_begins_46 : decode cX12_begins 46 = .ok (.iaload, 1) := by decide +kernel
theorem dX12_begins_47 : decode cX12_begins 47 = .ok (.iastore, 1) := by decide +kernel
theorem dX12_begins_48 : decode cX12_begins 48 = .ok (.iinc 1 1, 3) := by decide +kernel
theorem dX12_begins_51 : decode cX12_begins 51 = .ok (.goto (-27), 3) := by decide +kernel
theorem dX12_begins_54 : decode cX12_begins 54 = .ok (.iconst 0, 1) := by decide +kernel
theorem dX12_begins_55 : decode cX12_begins 55 = .ok (.istore_n 1, 1) := by decide +kernel
theorem dX12_begins_56 : decode cX12_begins 56 = .ok (.iload_n 1, 1) := by decide +kernel
theorem dX12_begins_57 : decode cX12_begins 57 = .ok (.aload_n 0, 1) := by decide +kernel
theorem dX12_begins_58 : decode cX12_begins 58 = .ok (.getfield 39, 3) := by decide +kernel
theorem dX12_begins_61 : decode cX12_begins 61 = .ok (.iconst 5, 1) := by decide +kernel
theorem dX12_begins_62 : decode cX12_begins 62 = .ok (.iaload, 1) := by decide +kernel
theorem dX12_begins_63 : decode cX12_begins 63 = .ok (.if_icmp .ge 68, 3) := by decide +kernel
theorem dX12_begins_66 : decode cX12_begins 66 = .ok (.bipush 25, 2) := by decide +kernel
theorem dX12_begins_68 : decode cX12_begins 68 = .ok (.iconst 3, 1) := by decide +kernel
theorem dX12_begins_69 : decode cX12_begins 69 = .ok (.iload_n 1, 1) := by decide +kernel
theorem dX12_begins_70 : decode cX12_begins 70 = .ok (.imul, 1) := by decide +kernel
theorem dX12_begins_71 : decode cX12_begins 71 = .ok (.iadd, 1) := by decide +kernel
theorem dX12_begins_72 : decode cX12_begins 72 = .ok (.istore_n 2, 1) := by decide +kernel
theorem dX12_begins_73 : decode cX12_begins 73 = .ok (.aload_n 0, 1) := by decide +kernel
theorem dX12_begins_74 : decode cX12_begins 74 = .ok (.getfield 39, 3) := by decide +kernel
theorem dX12_begins_77 : decode cX12_begins 77 = .ok (.iload_n 2, 1) := by decide +kernel
theorem dX12_begins_78 : decode cX12_begins 78 = .ok (.aload_n 0, 1) := by decide +kernel
theorem dX12_begins_79 : decode cX12_begins 79 = .ok (.getfield 39, 3) := by decide +kernel
theorem dX12_begins_82 : decode cX12_begins 82 = .ok (.bipush 74, 2) := by decide +kernel
theorem dX12_begins_84 : decode cX12_begins 84 = .ok (.iconst 2, 1) := by decide +kernel
theorem dX12_begins_85 : decode cX12_begins 85 = .ok (.iload_n 1, 1) := by decide +kernel
theorem dX12_begins_86 : decode cX12_begins 86 = .ok (.imul, 1) := by decide +kernel
theorem dX12_begins_87 : decode cX12_begins 87 = .ok (.iadd, 1) := by decide +kernel
theorem dX12_begins_88 : decode cX12_begins 88 = .ok (.iaload, 1) := by decide +kernel
theorem dX12_begins_89 : decode cX12_begins 89 = .ok (.iastore, 1) := by decide +kernel
theorem dX12_begins_90 : decode cX12_begins 90 = .ok (.aload_n 0, 1) := by decide +kernel
theorem dX12_begins_91 : decode cX12_begins 91 = .ok (.getfield 39, 3) := by decide +kernel
theorem dX12_begins_94 : decode cX12_begins 94 = .ok (.iload_n 2, 1) := by decide +kernel
theorem dX12_begins_95 : decode cX12_begins 95 = .ok (.iconst 1, 1) := by decide +kernel
theorem dX12_begins_96 : decode cX12_begins 96 = .ok (.iadd, 1) := by decide +kernel
theorem dX12_begins_97 : decode cX12_begins 97 = .ok (.aload_n 0, 1) := by decide +kernel
theorem dX12_begins_98 : decode cX12_begins 98 = .ok (.getfield 39, 3) := by decide +kernel
theorem dX12_begins_101 : decode cX12_begins 101 = .ok (.bipush 74, 2) := by decide +kernel
theorem dX12_begins_103 : decode cX12_begins 103 = .ok (.iconst 2, 1) := by decide +kernel
theorem dX12_begins_104 : decode cX12_begins 104 = .ok (.iload_n 1, 1) := by decide +kernel
theorem dX12_begins_105 : decode cX12_begins 105 = .ok (.imul, 1) := by decide +kernel
theorem dX12_begins_106 : decode cX12_begins 106 = .ok (.iadd, 1) := by decide +kernel
theorem dX12_begins_107 : decode cX12_begins 107 = .ok (.iconst 1, 1) := by decide +kernel
theorem dX12_begins_108 : decode cX12_begins 108 = .ok (.iadd, 1) := by decide +kernel
theorem dX12_begins_109 : decode cX12_begins 109 = .ok (.iaload, 1) := by decide +kernel
theorem dX12_begins_110 : decode cX12_begins 110 = .ok (.iastore, 1) := by decide +kernel
theorem dX12_begins_111 : decode cX12_begins 111 = .ok (.aload_n 0, 1) := by decide +kernel
theorem dX12_begins_112 : decode cX12_begins 112 = .ok (.getfield 39, 3) := by decide +kernel
theorem dX12_begins_115 : decode cX12_begins 115 = .ok (.iload_n 2, 1) := by decide +kernel
theorem dX12_begins_116 : decode cX12_begins 116 = .ok (.iconst 2, 1) := by decide +kernel
theorem dX12_begins_117 : decode cX12_begins 117 = .ok (.iadd, 1) := by decide +kernel
theorem dX12_begins_118 : decode cX12_begins 118 = .ok (.aload_n 0, 1) := by decide +kernel
theorem dX12_begins_119 : decode cX12_begins 119 = .ok (.getfield 39, 3) := by decide +kernel
theorem dX12_begins_122 : decode cX12_begins 122 = .ok (.iconst 2, 1) := by decide +kernel
theorem dX12_begins_123 : decode cX12_begins 123 = .ok (.iaload, 1) := by decide +kernel
theorem dX12_begins_124 : decode cX12_begins 124 = .ok (.iastore, 1) := by decide +kernel
theorem dX12_begins_125 : decode cX12_begins 125 = .ok (.iinc 1 1, 3) := by decide +kernel
theorem dX12_begins_128 : decode cX12_begins 128 = .ok (.goto (-72), 3) := by decide +kernel
theorem dX12_begins_131 : decode cX12_begins 131 = .ok (.iconst 0, 1) := by decide +kernel
theorem dX12_begins_132 : decode cX12_begins 132 = .ok (.istore_n 1, 1) := by decide +kernel
theorem dX12_begins_133 : decode cX12_begins 133 = .ok (.iload_n 1, 1) := by decide +kernel
theorem dX12_begins_134 : decode cX12_begins 134 = .ok (.iconst 5, 1) := by decide +kernel
theorem dX12_begins_135 : decode cX12_begins 135 = .ok (.if_icmp .ge 16, 3) := by decide +kernel
theorem dX12_begins_138 : decode cX12_begins 138 = .ok (.aload_n 0, 1) := by decide +kernel
theorem dX12_begins_139 : decode cX12_begins 139 = .ok (.getfield 49, 3) := by decide +kernel
theorem dX12_begins_142 : decode cX12_begins 142 = .ok (.iload_n 1, 1) := by decide +kernel
theorem dX12_begins_143 : decode cX12_begins 143 = .ok (.iconst (-1), 1) := by decide +kernel
theorem dX12_begins_144 : decode cX12_begins 144 = .ok (.iastore, 1) := by decide +kernel
theorem dX12_begins_145 : decode cX12_begins 145 = .ok (.iinc 1 1, 3) := by decide +kernel
theorem dX12_begins_148 : decode cX12_begins 148 = .ok (.goto (-15), 3) := by decide +kernel
theorem dX12_begins_151 : decode cX12_begins 151 = .ok (.return_, 1) := by decide +kernel
theorem dX12_breath_0 : decode cX12_breath 0 = .ok (.aload_n 0, 1) := by decide +kernel
theorem dX12_breath_1 : decode cX12_breath 1 = .ok (.invokevirtual 294, 3) := by decide +kernel
theorem dX12_breath_4 : decode cX12_breath 4 = .ok (.ifCond .eq 15, 3) := by decide +kernel
theorem dX12_breath_7 : decode cX12_breath 7 = .ok (.iload_n 1, 1) := by decide +kernel
theorem dX12_breath_8 : decode cX12_breath 8 = .ok (.i2l, 1) := by decide +kernel
theorem dX12_breath_9 : decode cX12_breath 9 = .ok (.lconst 1, 1) := by decide +kernel
theorem dX12_breath_10 : decode cX12_breath 10 = .ok (.ldc2_w 366, 3) := by decide +kernel
theorem dX12_breath_13 : decode cX12_breath 13 = .ok (.invokestatic 127, 3) := by decide +kernel
theorem dX12_breath_16 : decode cX12_breath 16 = .ok (.ifCond .ne 5, 3) := by decide +kernel
theorem dX12_breath_19 : decode cX12_breath 19 = .ok (.iconst (-1), 1) := by decide +kernel
theorem dX12_breath_20 : decode cX12_breath 20 = .ok (.ireturn, 1) := by decide +kernel
theorem dX12_breath_21 : decode cX12_breath 21 = .ok (.aload_n 0, 1) := by decide +kernel
theorem dX12_breath_22 : decode cX12_breath 22 = .ok (.invokevirtual 363, 3) := by decide +kernel
theorem dX12_breath_25 : decode cX12_breath 25 = .ok (.aload_n 0, 1) := by decide +kernel
theorem dX12_breath_26 : decode cX12_breath 26 = .ok (.getfield 39, 3) := by decide +kernel
theorem dX12_breath_29 : decode cX12_breath 29 = .ok (.bipush 11, 2) := by decide +kernel
theorem dX12_breath_31 : decode cX12_breath 31 = .ok (.dup2, 1) := by decide +kernel
theorem dX12_breath_32 : decode cX12_breath 32 = .ok (.iaload, 1) := by decide +kernel
theorem dX12_breath_33 : decode cX12_breath 33 = .ok (.iload_n 1, 1) := by decide +kernel
theorem dX12_breath_34 : decode cX12_breath 34 = .ok (.iadd, 1) := by decide +kernel
theorem dX12_breath_35 : decode cX12_breath 35 = .ok (.iastore, 1) := by decide +kernel
theorem dX12_breath_36 : decode cX12_breath 36 = .ok (.aload_n 0, 1) := by decide +kernel
theorem dX12_breath_37 : decode cX12_breath 37 = .ok (.getfield 39, 3) := by decide +kernel
theorem dX12_breath_40 : decode cX12_breath 40 = .ok (.bipush 11, 2) := by decide +kernel
theorem dX12_breath_42 : decode cX12_breath 42 = .ok (.iaload, 1) := by decide +kernel
theorem dX12_breath_43 : decode cX12_breath 43 = .ok (.ireturn, 1) := by decide +kernel
theorem dX12_choice_0 : decode cX12_choice 0 = .ok (.aload_n 0, 1) := by decide +kernel
theorem dX12_choice_1 : decode cX12_choice 1 = .ok (.getfield 49, 3) := by decide +kernel
theorem dX12_choice_4 : decode cX12_choice 4 = .ok (.iload_n 1, 1) := by decide +kernel
theorem dX12_choice_5 : decode cX12_choice 5 = .ok (.iaload, 1) := by decide +kernel
theorem dX12_choice_6 : decode cX12_choice 6 = .ok (.ifCond .lt 10, 3) := by decide +kernel
theorem dX12_choice_9 : decode cX12_choice 9 = .ok (.aload_n 0, 1) := by decide +kernel
theorem dX12_choice_10 : decode cX12_choice 10 = .ok (.getfield 49, 3) := by decide +kernel
theorem dX12_choice_13 : decode cX12_choice 13 = .ok (.iload_n 1, 1) := by decide +kernel
theorem dX12_choice_14 : decode cX12_choice 14 = .ok (.iaload, 1) := by decide +kernel
theorem dX12_choice_15 : decode cX12_choice 15 = .ok (.ireturn, 1) := by decide +kernel
theorem dX12_choice_16 : decode cX12_choice 16 = .ok (.aload_n 0, 1) := by decide +kernel
theorem dX12_choice_17 : decode cX12_choice 17 = .ok (.getfield 42, 3) := by decide +kernel
theorem dX12_choice_20 : decode cX12_choice 20 = .ok (.ifCond .ge 13, 3) := by decide +kernel
theorem dX12_choice_23 : decode cX12_choice 23 = .ok (.aload_n 0, 1) := by decide +kernel
theorem dX12_choice_24 : decode cX12_choice 24 = .ok (.getfield 39, 3) := by decide +kernel
theorem dX12_choice_27 : decode cX12_choice 27 = .ok (.bipush 46, 2) := by decide +kernel
theorem dX12_choice_29 : decode cX12_choice 29 = .ok (.iload_n 1, 1) := by decide +kernel
theorem dX12_choice_30 : decode cX12_choice 30 = .ok (.iadd, 1) := by decide +kernel
theorem dX12_choice_31 : decode cX12_choice 31 = .ok (.iaload, 1) := by decide +kernel
theorem dX12_choice_32 : decode cX12_choice 32 = .ok (.ireturn, 1) := by decide +kernel
theorem dX12_choice_33 : decode cX12_choice 33 = .ok (.iconst (-1), 1) := by decide +kernel
theorem dX12_choice_34 : decode cX12_choice 34 = .ok (.istore_n 2, 1) := by decide +kernel
theorem dX12_choice_35 : decode cX12_choice 35 = .ok (.lconst 0, 1) := by decide +kernel
theorem dX12_choice_36 : decode cX12_choice 36 = .ok (.lstore_n 3, 1) := by decide +kernel
theorem dX12_choice_37 : decode cX12_choice 37 = .ok (.iconst 0, 1) := by decide +kernel
theorem dX12_choice_38 : decode cX12_choice 38 = .ok (.istore 5, 2) := by decide +kernel
theorem dX12_choice_40 : decode cX12_choice 40 = .ok (.iload 5, 2) := by decide +kernel
theorem dX12_choice_42 : decode cX12_choice 42 = .ok (.aload_n 0, 1) := by decide +kernel
theorem dX12_choice_43 : decode cX12_choice 43 = .ok (.getfield 39, 3) := by decide +kernel
theorem dX12_choice_46 : decode cX12_choice 46 = .ok (.iconst 4, 1) := by decide +kernel
theorem dX12_choice_47 : decode cX12_choice 47 = .ok (.iaload, 1) := by decide +kernel
theorem dX12_choice_48 : decode cX12_choice 48 = .ok (.if_icmp .ge 34, 3) := by decide +kernel
theorem dX12_choice_51 : decode cX12_choice 51 = .ok (.aload_n 0, 1) := by decide +kernel
theorem dX12_choice_52 : decode cX12_choice 52 = .ok (.iload_n 1, 1) := by decide +kernel
theorem dX12_choice_53 : decode cX12_choice 53 = .ok (.iload 5, 2) := by decide +kernel
theorem dX12_choice_55 : decode cX12_choice 55 = .ok (.invokevirtual 337, 3) := by decide +kernel
theorem dX12_choice_58 : decode cX12_choice 58 = .ok (.lstore 6, 2) := by decide +kernel
theorem dX12_choice_60 : decode cX12_choice 60 = .ok (.lload 6, 2) := by decide +kernel
theorem dX12_choice_62 : decode cX12_choice 62 = .ok (.lload_n 3, 1) := by decide +kernel
theorem dX12_choice_63 : decode cX12_choice 63 = .ok (.lcmp, 1) := by decide +kernel
theorem dX12_choice_64 : decode cX12_choice 64 = .ok (.ifCond .gt 6, 3) := by decide +kernel
theorem dX12_choice_67 : decode cX12_choice 67 = .ok (.goto 9, 3) := by decide +kernel
theorem dX12_choice_70 : decode cX12_choice 70 = .ok (.iload 5, 2) := by decide +kernel
theorem dX12_choice_72 : decode cX12_choice 72 = .ok (.istore_n 2, 1) := by decide +kernel
theorem dX12_choice_73 : decode cX12_choice 73 = .ok (.lload 6, 2) := by decide +kernel
theorem dX12_choice_75 : decode cX12_choice 75 = .ok (.lstore_n 3, 1) := by decide +kernel
theorem dX12_choice_76 : decode cX12_choice 76 = .ok (.iinc 5 1, 3) := by decide +kernel
theorem dX12_choice_79 : decode cX12_choice 79 = .ok (.goto (-39), 3) := by decide +kernel
theorem dX12_choice_82 : decode cX12_choice 82 = .ok (.iload_n 2, 1) := by decide +kernel
theorem dX12_choice_83 : decode cX12_choice 83 = .ok (.ireturn, 1) := by decide +kernel
theorem dX12_closes_0 : decode cX12_closes 0 = .ok (.aload_n 0, 1) := by decide +kernel
theorem dX12_closes_1 : decode cX12_closes 1 = .ok (.iconst 3, 1) := by decide +kernel
theorem dX12_closes_2 : decode cX12_closes 2 = .ok (.invokevirtual 205, 3) := by decide +kernel
theorem dX12_closes_5 : decode cX12_closes 5 = .ok (.aload_n 0, 1) := by decide +kernel
theorem dX12_closes_6 : decode cX12_closes 6 = .ok (.invokevirtual 102, 3) := by decide +kernel
theorem dX12_closes_9 : decode cX12_closes 9 = .ok (.bipush 93, 2) := by decide +kernel
theorem dX12_closes_11 : decode cX12_closes 11 = .ok (.if_icmp .ne 53, 3) := by decide +kernel
theorem dX12_closes_14 : decode cX12_closes 14 = .ok (.aload_n 0, 1) := by decide +kernel
theorem dX12_closes_15 : decode cX12_closes 15 = .ok (.invokevirtual 208, 3) := by decide +kernel
theorem dX12_closes_18 : decode cX12_closes 18 = .ok (.ifCond .eq 46, 3) := by decide +kernel
theorem dX12_closes_21 : decode cX12_closes 21 = .ok (.aload_n 0, 1) := by decide +kernel
theorem dX12_closes_22 : decode cX12_closes 22 = .ok (.iconst 1, 1) := by decide +kernel
theorem dX12_closes_23 : decode cX12_closes 23 = .ok (.invokevirtual 205, 3) := by decide +kernel
theorem dX12_closes_26 : decode cX12_closes 26 = .ok (.aload_n 0, 1) := by decide +kernel
theorem dX12_closes_27 : decode cX12_closes 27 = .ok (.dup, 1) := by decide +kernel
theorem dX12_closes_28 : decode cX12_closes 28 = .ok (.getfield 166, 3) := by decide +kernel
theorem dX12_closes_31 : decode cX12_closes 31 = .ok (.iconst 1, 1) := by decide +kernel
theorem dX12_closes_32 : decode cX12_closes 32 = .ok (.isub, 1) := by decide +kernel
theorem dX12_closes_33 : decode cX12_closes 33 = .ok (.putfield 166, 3) := by decide +kernel
theorem dX12_closes_36 : decode cX12_closes 36 = .ok (.aload_n 0, 1) := by decide +kernel
theorem dX12_closes_37 : decode cX12_closes 37 = .ok (.dup, 1) := by decide +kernel
theorem dX12_closes_38 : decode cX12_closes 38 = .ok (.getfield 163, 3) := by decide +kernel
theorem dX12_closes_41 : decode cX12_closes 41 = .ok (.iconst 1, 1) := by decide +kernel
theorem dX12_closes_42 : decode cX12_closes 42 = .ok (.isub, 1) := by decide +kernel
theorem dX12_closes_43 : decode cX12_closes 43 = .ok (.putfield 163, 3) := by decide +kernel
theorem dX12_closes_46 : decode cX12_closes 46 = .ok (.aload_n 0, 1) := by decide +kernel
theorem dX12_closes_47 : decode cX12_closes 47 = .ok (.dup, 1) := by decide +kernel
theorem dX12_closes_48 : decode cX12_closes 48 = .ok (.getfield 99, 3) := by decide +kernel
theorem dX12_closes_51 : decode cX12_closes 51 = .ok (.iconst 1, 1) := by decide +kernel
theorem dX12_closes_52 : decode cX12_closes 52 = .ok (.iadd, 1) := by decide +kernel
theorem dX12_closes_53 : decode cX12_closes 53 = .ok (.putfield 99, 3) := by decide +kernel
theorem dX12_closes_56 : decode cX12_closes 56 = .ok (.aload_n 0, 1) := by decide +kernel
theorem dX12_closes_57 : decode cX12_closes 57 = .ok (.iconst 3, 1) := by decide +kernel
theorem dX12_closes_58 : decode cX12_closes 58 = .ok (.invokevirtual 205, 3) := by decide +kernel
theorem dX12_closes_61 : decode cX12_closes 61 = .ok (.goto (-56), 3) := by decide +kernel
theorem dX12_closes_64 : decode cX12_closes 64 = .ok (.return_, 1) := by decide +kernel
theorem dX12_downOf_0 : decode cX12_downOf 0 = .ok (.aload_n 0, 1) := by decide +kernel
theorem dX12_downOf_1 : decode cX12_downOf 1 = .ok (.getfield 39, 3) := by decide +kernel
theorem dX12_downOf_4 : decode cX12_downOf 4 = .ok (.bipush 13, 2) := by decide +kernel
theorem dX12_downOf_6 : decode cX12_downOf 6 = .ok (.iload_n 2, 1) := by decide +kernel
theorem dX12_downOf_7 : decode cX12_downOf 7 = .ok (.iadd, 1) := by decide +kernel
theorem dX12_downOf_8 : decode cX12_downOf 8 = .ok (.iaload, 1) := by decide +kernel
theorem dX12_downOf_9 : decode cX12_downOf 9 = .ok (.aload_n 0, 1) := by decide +kernel
theorem dX12_downOf_10 : decode cX12_downOf 10 = .ok (.iload_n 1, 1) := by decide +kernel
theorem dX12_downOf_11 : decode cX12_downOf 11 = .ok (.invokevirtual 330, 3) := by decide +kernel
theorem dX12_downOf_14 : decode cX12_downOf 14 = .ok (.iadd, 1) := by decide +kernel
theorem dX12_downOf_15 : decode cX12_downOf 15 = .ok (.istore_n 3, 1) := by decide +kernel
theorem dX12_downOf_16 : decode cX12_downOf 16 = .ok (.iload_n 3, 1) := by decide +kernel
theorem dX12_downOf_17 : decode cX12_downOf 17 = .ok (.i2l, 1) := by decide +kernel
theorem dX12_downOf_18 : decode cX12_downOf 18 = .ok (.lconst 0, 1) := by decide +kernel
theorem dX12_downOf_19 : decode cX12_downOf 19 = .ok (.aload_n 0, 1) := by decide +kernel
theorem dX12_downOf_20 : decode cX12_downOf 20 = .ok (.getfield 39, 3) := by decide +kernel
theorem dX12_downOf_23 : decode cX12_downOf 23 = .ok (.iconst 1, 1) := by decide +kernel
theorem dX12_downOf_24 : decode cX12_downOf 24 = .ok (.iaload, 1) := by decide +kernel
theorem dX12_downOf_25 : decode cX12_downOf 25 = .ok (.iconst 1, 1) := by decide +kernel
theorem dX12_downOf_26 : decode cX12_downOf 26 = .ok (.isub, 1) := by decide +kernel
theorem dX12_downOf_27 : decode cX12_downOf 27 = .ok (.i2l, 1) := by decide +kernel
theorem dX12_downOf_28 : decode cX12_downOf 28 = .ok (.invokestatic 127, 3) := by decide +kernel
theorem dX12_downOf_31 : decode cX12_downOf 31 = .ok (.ifCond .eq 7, 3) := by decide +kernel
theorem dX12_downOf_34 : decode cX12_downOf 34 = .ok (.iload_n 3, 1) := by decide +kernel
theorem dX12_downOf_35 : decode cX12_downOf 35 = .ok (.goto 4, 3) := by decide +kernel
theorem dX12_downOf_38 : decode cX12_downOf 38 = .ok (.iconst (-1), 1) := by decide +kernel
theorem dX12_downOf_39 : decode cX12_downOf 39 = .ok (.ireturn, 1) := by decide +kernel
theorem dX12_easeBy_0 : decode cX12_easeBy 0 = .ok (.aload_n 0, 1) := by decide +kernel
theorem dX12_easeBy_1 : decode cX12_easeBy 1 = .ok (.iload_n 1, 1) := by decide +kernel
theorem dX12_easeBy_2 : decode cX12_easeBy 2 = .ok (.iload_n 2, 1) := by decide +kernel
theorem dX12_easeBy_3 : decode cX12_easeBy 3 = .ok (.invokevirtual 341, 3) := by decide +kernel
theorem dX12_easeBy_6 : decode cX12_easeBy 6 = .ok (.istore_n 3, 1) := by decide +kernel
theorem dX12_easeBy_7 : decode cX12_easeBy 7 = .ok (.iload_n 3, 1) := by decide +kernel
theorem dX12_easeBy_8 : decode cX12_easeBy 8 = .ok (.ifCond .lt 20, 3) := by decide +kernel
theorem dX12_easeBy_11 : decode cX12_easeBy 11 = .ok (.aload_n 0, 1) := by decide +kernel
theorem dX12_easeBy_12 : decode cX12_easeBy 12 = .ok (.iload_n 3, 1) := by decide +kernel
theorem dX12_easeBy_13 : decode cX12_easeBy 13 = .ok (.invokevirtual 345, 3) := by decide +kernel
theorem dX12_easeBy_16 : decode cX12_easeBy 16 = .ok (.aload_n 0, 1) := by decide +kernel
theorem dX12_easeBy_17 : decode cX12_easeBy 17 = .ok (.getfield 39, 3) := by decide +kernel
theorem dX12_easeBy_20 : decode cX12_easeBy 20 = .ok (.bipush 46, 2) := by decide +kernel
theorem dX12_easeBy_22 : decode cX12_easeBy 22 = .ok (.iload_n 1, 1) := by decide +kernel
theorem dX12_easeBy_23 : decode cX12_easeBy 23 = .ok (.iadd, 1) := by decide +kernel
theorem dX12_easeBy_24 : decode cX12_easeBy 24 = .ok (.iaload, 1) := by decide +kernel
theorem dX12_easeBy_25 : decode cX12_easeBy 25 = .ok (.if_icmp .eq 5, 3) := by decide +kernel
theorem dX12_easeBy_28 : decode cX12_easeBy 28 = .ok (.iconst 0, 1) := by decide +kernel
theorem dX12_easeBy_29 : decode cX12_easeBy 29 = .ok (.ireturn, 1) := by decide +kernel
theorem dX12_easeBy_30 : decode cX12_easeBy 30 = .ok (.aload_n 0, 1) := by decide +kernel
theorem dX12_easeBy_31 : decode cX12_easeBy 31 = .ok (.getfield 39, 3) := by decide +kernel
theorem dX12_easeBy_34 : decode cX12_easeBy 34 = .ok (.bipush 40, 2) := by decide +kernel
theorem dX12_easeBy_36 : decode cX12_easeBy 36 = .ok (.aload_n 0, 1) := by decide +kernel
theorem dX12_easeBy_37 : decode cX12_easeBy 37 = .ok (.getfield 39, 3) := by decide +kernel
theorem dX12_easeBy_40 : decode cX12_easeBy 40 = .ok (.bipush 46, 2) := by decide +kernel
theorem dX12_easeBy_42 : decode cX12_easeBy 42 = .ok (.iload_n 1, 1) := by decide +kernel
theorem dX12_easeBy_43 : decode cX12_easeBy 43 = .ok (.iadd, 1) := by decide +kernel
theorem dX12_easeBy_44 : decode cX12_easeBy 44 = .ok (.iaload, 1) := by decide +kernel
theorem dX12_easeBy_45 : decode cX12_easeBy 45 = .ok (.iadd, 1) := by decide +kernel
theorem dX12_easeBy_46 : decode cX12_easeBy 46 = .ok (.iaload, 1) := by decide +kernel
theorem dX12_easeBy_47 : decode cX12_easeBy 47 = .ok (.istore 4, 2) := by decide +kernel
theorem dX12_easeBy_49 : decode cX12_easeBy 49 = .ok (.iload 4, 2) := by decide +kernel
theorem dX12_easeBy_51 : decode cX12_easeBy 51 = .ok (.aload_n 0, 1) := by decide +kernel
theorem dX12_easeBy_52 : decode cX12_easeBy 52 = .ok (.iload_n 1, 1) := by decide +kernel
theorem dX12_easeBy_53 : decode cX12_easeBy 53 = .ok (.invokevirtual 317, 3) := by decide +kernel
theorem dX12_easeBy_56 : decode cX12_easeBy 56 = .ok (.if_icmp .ge 8, 3) := by decide +kernel
theorem dX12_easeBy_59 : decode cX12_easeBy 59 = .ok (.iload 4, 2) := by decide +kernel
theorem dX12_easeBy_61 : decode cX12_easeBy 61 = .ok (.goto 8, 3) := by decide +kernel
theorem dX12_easeBy_64 : decode cX12_easeBy 64 = .ok (.aload_n 0, 1) := by decide +kernel
theorem dX12_easeBy_65 : decode cX12_easeBy 65 = .ok (.iload_n 1, 1) := by decide +kernel
theorem dX12_easeBy_66 : decode cX12_easeBy 66 = .ok (.invokevirtual 317, 3) := by decide +kernel
theorem dX12_easeBy_69 : decode cX12_easeBy 69 = .ok (.ireturn, 1) := by decide +kernel
theorem dX12_easeIn_0 : decode cX12_easeIn 0 = .ok (.aload_n 0, 1) := by decide +kernel
theorem dX12_easeIn_1 : decode cX12_easeIn 1 = .ok (.iconst 1, 1) := by decide +kernel
theorem dX12_easeIn_2 : decode cX12_easeIn 2 = .ok (.invokevirtual 381, 3) := by decide +kernel
theorem dX12_easeIn_5 : decode cX12_easeIn 5 = .ok (.istore_n 2, 1) := by decide +kernel
theorem dX12_easeIn_6 : decode cX12_easeIn 6 = .ok (.aload_n 0, 1) := by decide +kernel
theorem dX12_easeIn_7 : decode cX12_easeIn 7 = .ok (.iload_n 1, 1) := by decide +kernel
theorem dX12_easeIn_8 : decode cX12_easeIn 8 = .ok (.invokevirtual 375, 3) := by decide +kernel
theorem dX12_easeIn_11 : decode cX12_easeIn 11 = .ok (.iload_n 2, 1) := by decide +kernel
theorem dX12_easeIn_12 : decode cX12_easeIn 12 = .ok (.aload_n 0, 1) := by decide +kernel
theorem dX12_easeIn_13 : decode cX12_easeIn 13 = .ok (.iconst 1, 1) := by decide +kernel
theorem dX12_easeIn_14 : decode cX12_easeIn 14 = .ok (.invokevirtual 381, 3) := by decide +kernel
theorem dX12_easeIn_17 : decode cX12_easeIn 17 = .ok (.isub, 1) := by decide +kernel
theorem dX12_easeIn_18 : decode cX12_easeIn 18 = .ok (.istore_n 3, 1) := by decide +kernel
theorem dX12_easeIn_19 : decode cX12_easeIn 19 = .ok (.aload_n 0, 1) := by decide +kernel
theorem dX12_easeIn_20 : decode cX12_easeIn 20 = .ok (.invokevirtual 378, 3) := by decide +kernel
theorem dX12_easeIn_23 : decode cX12_easeIn 23 = .ok (.iload_n 3, 1) := by decide +kernel
theorem dX12_easeIn_24 : decode cX12_easeIn 24 = .ok (.ireturn, 1) := by decide +kernel
theorem dX12_eases1_0 : decode cX12_eases1 0 = .ok (.aload_n 0, 1) := by decide +kernel
theorem dX12_eases1_1 : decode cX12_eases1 1 = .ok (.iload_n 1, 1) := by decide +kernel
theorem dX12_eases1_2 : decode cX12_eases1 2 = .ok (.invokevirtual 317, 3) := by decide +kernel
theorem dX12_eases1_5 : decode cX12_eases1 5 = .ok (.aload_n 0, 1) := by decide +kernel
theorem dX12_eases1_6 : decode cX12_eases1 6 = .ok (.getfield 39, 3) := by decide +kernel
theorem dX12_eases1_9 : decode cX12_eases1 9 = .ok (.bipush 40, 2) := by decide +kernel
theorem dX12_eases1_11 : decode cX12_eases1 11 = .ok (.aload_n 0, 1) := by decide +kernel
theorem dX12_eases1_12 : decode cX12_eases1 12 = .ok (.getfield 39, 3) := by decide +kernel
theorem dX12_eases1_15 : decode cX12_eases1 15 = .ok (.bipush 46, 2) := by decide +kernel
theorem dX12_eases1_17 : decode cX12_eases1 17 = .ok (.iload_n 1, 1) := by decide +kernel
theorem dX12_eases1_18 : decode cX12_eases1 18 = .ok (.iadd, 1) := by decide +kernel
theorem dX12_eases1_19 : decode cX12_eases1 19 = .ok (.iaload, 1) := by decide +kernel
theorem dX12_eases1_20 : decode cX12_eases1 20 = .ok (.iadd, 1) := by decide +kernel
theorem dX12_eases1_21 : decode cX12_eases1 21 = .ok (.iaload, 1) := by decide +kernel
theorem dX12_eases1_22 : decode cX12_eases1 22 = .ok (.isub, 1) := by decide +kernel
theorem dX12_eases1_23 : decode cX12_eases1 23 = .ok (.istore_n 2, 1) := by decide +kernel
theorem dX12_eases1_24 : decode cX12_eases1 24 = .ok (.aload_n 0, 1) := by decide +kernel
theorem dX12_eases1_25 : decode cX12_eases1 25 = .ok (.getfield 39, 3) := by decide +kernel
theorem dX12_eases1_28 : decode cX12_eases1 28 = .ok (.bipush 25, 2) := by decide +kernel
theorem dX12_eases1_30 : decode cX12_eases1 30 = .ok (.iconst 3, 1) := by decide +kernel
theorem dX12_eases1_31 : decode cX12_eases1 31 = .ok (.iload_n 1, 1) := by decide +kernel
theorem dX12_eases1_32 : decode cX12_eases1 32 = .ok (.imul, 1) := by decide +kernel
theorem dX12_eases1_33 : decode cX12_eases1 33 = .ok (.iadd, 1) := by decide +kernel
theorem dX12_eases1_34 : decode cX12_eases1 34 = .ok (.iconst 1, 1) := by decide +kernel
theorem dX12_eases1_35 : decode cX12_eases1 35 = .ok (.iadd, 1) := by decide +kernel
theorem dX12_eases1_36 : decode cX12_eases1 36 = .ok (.iload_n 2, 1) := by decide +kernel
theorem dX12_eases1_37 : decode cX12_eases1 37 = .ok (.ifCond .ge 7, 3) := by decide +kernel
theorem dX12_eases1_40 : decode cX12_eases1 40 = .ok (.iconst 0, 1) := by decide +kernel
theorem dX12_eases1_41 : decode cX12_eases1 41 = .ok (.goto 4, 3) := by decide +kernel
theorem dX12_eases1_44 : decode cX12_eases1 44 = .ok (.iload_n 2, 1) := by decide +kernel
theorem dX12_eases1_45 : decode cX12_eases1 45 = .ok (.iastore, 1) := by decide +kernel
theorem dX12_eases1_46 : decode cX12_eases1 46 = .ok (.return_, 1) := by decide +kernel
theorem dX12_isRest_0 : decode cX12_isRest 0 = .ok (.iconst 0, 1) := by decide +kernel
theorem dX12_isRest_1 : decode cX12_isRest 1 = .ok (.istore_n 3, 1) := by decide +kernel
theorem dX12_isRest_2 : decode cX12_isRest 2 = .ok (.iload_n 3, 1) := by decide +kernel
theorem dX12_isRest_3 : decode cX12_isRest 3 = .ok (.aload_n 0, 1) := by decide +kernel
theorem dX12_isRest_4 : decode cX12_isRest 4 = .ok (.getfield 39, 3) := by decide +kernel
theorem dX12_isRest_7 : decode cX12_isRest 7 = .ok (.iconst 4, 1) := by decide +kernel
theorem dX12_isRest_8 : decode cX12_isRest 8 = .ok (.iaload, 1) := by decide +kernel
theorem dX12_isRest_9 : decode cX12_isRest 9 = .ok (.if_icmp .ge 73, 3) := by decide +kernel
theorem dX12_isRest_12 : decode cX12_isRest 12 = .ok (.aload_n 0, 1) := by decide +kernel
theorem dX12_isRest_13 : decode cX12_isRest 13 = .ok (.getfield 67, 3) := by decide +kernel
theorem dX12_isRest_16 : decode cX12_isRest 16 = .ok (.iconst 2, 1) := by decide +kernel
theorem dX12_isRest_17 : decode cX12_isRest 17 = .ok (.bipush 6, 2) := by decide +kernel
theorem dX12_isRest_19 : decode cX12_isRest 19 = .ok (.iload_n 3, 1) := by decide +kernel
theorem dX12_isRest_20 : decode cX12_isRest 20 = .ok (.imul, 1) := by decide +kernel
theorem dX12_isRest_21 : decode cX12_isRest 21 = .ok (.iload_n 2, 1) := by decide +kernel
theorem dX12_isRest_22 : decode cX12_isRest 22 = .ok (.iadd, 1) := by decide +kernel
theorem dX12_isRest_23 : decode cX12_isRest 23 = .ok (.imul, 1) := by decide +kernel
theorem dX12_isRest_24 : decode cX12_isRest 24 = .ok (.iaload, 1) := by decide +kernel
theorem dX12_isRest_25 : decode cX12_isRest 25 = .ok (.aload_n 0, 1) := by decide +kernel
theorem dX12_isRest_26 : decode cX12_isRest 26 = .ok (.getfield 67, 3) := by decide +kernel
theorem dX12_isRest_29 : decode cX12_isRest 29 = .ok (.iconst 2, 1) := by decide +kernel
theorem dX12_isRest_30 : decode cX12_isRest 30 = .ok (.bipush 6, 2) := by decide +kernel
theorem dX12_isRest_32 : decode cX12_isRest 32 = .ok (.iload_n 1, 1) := by decide +kernel
theorem dX12_isRest_33 : decode cX12_isRest 33 = .ok (.imul, 1) := by decide +kernel
theorem dX12_isRest_34 : decode cX12_isRest 34 = .ok (.iload_n 2, 1) := by decide +kernel
theorem dX12_isRest_35 : decode cX12_isRest 35 = .ok (.iadd, 1) := by decide +kernel
theorem dX12_isRest_36 : decode cX12_isRest 36 = .ok (.imul, 1) := by decide +kernel
theorem dX12_isRest_37 : decode cX12_isRest 37 = .ok (.iaload, 1) := by decide +kernel
theorem dX12_isRest_38 : decode cX12_isRest 38 = .ok (.if_icmp .gt 36, 3) := by decide +kernel
theorem dX12_isRest_41 : decode cX12_isRest 41 = .ok (.aload_n 0, 1) := by decide +kernel
theorem dX12_isRest_42 : decode cX12_isRest 42 = .ok (.getfield 67, 3) := by decide +kernel
theorem dX12_isRest_45 : decode cX12_isRest 45 = .ok (.iconst 2, 1) := by decide +kernel
theorem dX12_isRest_46 : decode cX12_isRest 46 = .ok (.bipush 6, 2) := by decide +kernel
theorem dX12_isRest_48 : decode cX12_isRest 48 = .ok (.iload_n 1, 1) := by decide +kernel
theorem dX12_isRest_49 : decode cX12_isRest 49 = .ok (.imul, 1) := by decide +kernel
theorem dX12_isRest_50 : decode cX12_isRest 50 = .ok (.iload_n 3, 1) := by decide +kernel
theorem dX12_isRest_51 : decode cX12_isRest 51 = .ok (.iadd, 1) := by decide +kernel
theorem dX12_isRest_52 : decode cX12_isRest 52 = .ok (.imul, 1) := by decide +kernel
theorem dX12_isRest_53 : decode cX12_isRest 53 = .ok (.iconst 1, 1) := by decide +kernel
theorem dX12_isRest_54 : decode cX12_isRest 54 = .ok (.iadd, 1) := by decide +kernel
theorem dX12_isRest_55 : decode cX12_isRest 55 = .ok (.iaload, 1) := by decide +kernel
theorem dX12_isRest_56 : decode cX12_isRest 56 = .ok (.aload_n 0, 1) := by decide +kernel
theorem dX12_isRest_57 : decode cX12_isRest 57 = .ok (.getfield 67, 3) := by decide +kernel
theorem dX12_isRest_60 : decode cX12_isRest 60 = .ok (.iconst 2, 1) := by decide +kernel
theorem dX12_isRest_61 : decode cX12_isRest 61 = .ok (.bipush 6, 2) := by decide +kernel
theorem dX12_isRest_63 : decode cX12_isRest 63 = .ok (.iload_n 1, 1) := by decide +kernel
theorem dX12_isRest_64 : decode cX12_isRest 64 = .ok (.imul, 1) := by decide +kernel
theorem dX12_isRest_65 : decode cX12_isRest 65 = .ok (.iload_n 2, 1) := by decide +kernel
theorem dX12_isRest_66 : decode cX12_isRest 66 = .ok (.iadd, 1) := by decide +kernel
theorem dX12_isRest_67 : decode cX12_isRest 67 = .ok (.imul, 1) := by decide +kernel
theorem dX12_isRest_68 : decode cX12_isRest 68 = .ok (.iconst 1, 1) := by decide +kernel
theorem dX12_isRest_69 : decode cX12_isRest 69 = .ok (.iadd, 1) := by decide +kernel
theorem dX12_isRest_70 : decode cX12_isRest 70 = .ok (.iaload, 1) := by decide +kernel
theorem dX12_isRest_71 : decode cX12_isRest 71 = .ok (.if_icmp .le 5, 3) := by decide +kernel
theorem dX12_isRest_74 : decode cX12_isRest 74 = .ok (.iconst 0, 1) := by decide +kernel
theorem dX12_isRest_75 : decode cX12_isRest 75 = .ok (.ireturn, 1) := by decide +kernel
theorem dX12_isRest_76 : decode cX12_isRest 76 = .ok (.iinc 3 1, 3) := by decide +kernel
theorem dX12_isRest_79 : decode cX12_isRest 79 = .ok (.goto (-77), 3) := by decide +kernel
theorem dX12_isRest_82 : decode cX12_isRest 82 = .ok (.iconst 1, 1) := by decide +kernel
theorem dX12_isRest_83 : decode cX12_isRest 83 = .ok (.ireturn, 1) := by decide +kernel
theorem dX12_isRing_0 : decode cX12_isRing 0 = .ok (.iload_n 1, 1) := by decide +kernel
theorem dX12_isRing_1 : decode cX12_isRing 1 = .ok (.ifCond .lt 17, 3) := by decide +kernel
theorem dX12_isRing_4 : decode cX12_isRing 4 = .ok (.iload_n 1, 1) := by decide +kernel
theorem dX12_isRing_5 : decode cX12_isRing 5 = .ok (.aload_n 0, 1) := by decide +kernel
theorem dX12_isRing_6 : decode cX12_isRing 6 = .ok (.getfield 39, 3) := by decide +kernel
theorem dX12_isRing_9 : decode cX12_isRing 9 = .ok (.iconst 4, 1) := by decide +kernel
theorem dX12_isRing_10 : decode cX12_isRing 10 = .ok (.iaload, 1) := by decide +kernel
theorem dX12_isRing_11 : decode cX12_isRing 11 = .ok (.if_icmp .ge 7, 3) := by decide +kernel
theorem dX12_isRing_14 : decode cX12_isRing 14 = .ok (.iconst 1, 1) := by decide +kernel
theorem dX12_isRing_15 : decode cX12_isRing 15 = .ok (.goto 4, 3) := by decide +kernel
theorem dX12_isRing_18 : decode cX12_isRing 18 = .ok (.iconst 0, 1) := by decide +kernel
theorem dX12_isRing_19 : decode cX12_isRing 19 = .ok (.ireturn, 1) := by decide +kernel
theorem dX12_isRule_0 : decode cX12_isRule 0 = .ok (.iload_n 1, 1) := by decide +kernel
theorem dX12_isRule_1 : decode cX12_isRule 1 = .ok (.ifCond .lt 15, 3) := by decide +kernel
theorem dX12_isRule_4 : decode cX12_isRule 4 = .ok (.iload_n 1, 1) := by decide +kernel
theorem dX12_isRule_5 : decode cX12_isRule 5 = .ok (.aload_n 0, 1) := by decide +kernel
theorem dX12_isRule_6 : decode cX12_isRule 6 = .ok (.getfield 267, 3) := by decide +kernel
theorem dX12_isRule_9 : decode cX12_isRule 9 = .ok (.if_icmp .ge 7, 3) := by decide +kernel
theorem dX12_isRule_12 : decode cX12_isRule 12 = .ok (.iconst 1, 1) := by decide +kernel
theorem dX12_isRule_13 : decode cX12_isRule 13 = .ok (.goto 4, 3) := by decide +kernel
theorem dX12_isRule_16 : decode cX12_isRule 16 = .ok (.iconst 0, 1) := by decide +kernel
theorem dX12_isRule_17 : decode cX12_isRule 17 = .ok (.ireturn, 1) := by decide +kernel
theorem dX12_isWord_0 : decode cX12_isWord 0 = .ok (.aload_n 0, 1) := by decide +kernel
theorem dX12_isWord_1 : decode cX12_isWord 1 = .ok (.invokevirtual 102, 3) := by decide +kernel
theorem dX12_isWord_4 : decode cX12_isWord 4 = .ok (.pop, 1) := by decide +kernel
theorem dX12_isWord_5 : decode cX12_isWord 5 = .ok (.lconst 0, 1) := by decide +kernel
theorem dX12_isWord_6 : decode cX12_isWord 6 = .ok (.lstore_n 3, 1) := by decide +kernel
theorem dX12_isWord_7 : decode cX12_isWord 7 = .ok (.iconst 0, 1) := by decide +kernel
theorem dX12_isWord_8 : decode cX12_isWord 8 = .ok (.istore 5, 2) := by decide +kernel
theorem dX12_isWord_10 : decode cX12_isWord 10 = .ok (.aload_n 0, 1) := by decide +kernel
theorem dX12_isWord_11 : decode cX12_isWord 11 = .ok (.aload_n 0, 1) := by decide +kernel
theorem dX12_isWord_12 : decode cX12_isWord 12 = .ok (.getfield 99, 3) := by decide +kernel
theorem dX12_isWord_15 : decode cX12_isWord 15 = .ok (.iload 5, 2) := by decide +kernel
theorem dX12_isWord_17 : decode cX12_isWord 17 = .ok (.iadd, 1) := by decide +kernel
theorem dX12_isWord_18 : decode cX12_isWord 18 = .ok (.invokevirtual 106, 3) := by decide +kernel
theorem dX12_isWord_21 : decode cX12_isWord 21 = .ok (.ifCond .eq 35, 3) := by decide +kernel
theorem dX12_isWord_24 : decode cX12_isWord 24 = .ok (.iload 5, 2) := by decide +kernel
theorem dX12_isWord_26 : decode cX12_isWord 26 = .ok (.bipush 8, 2) := by decide +kernel
theorem dX12_isWord_28 : decode cX12_isWord 28 = .ok (.if_icmp .ge 22, 3) := by decide +kernel
theorem dX12_isWord_31 : decode cX12_isWord 31 = .ok (.lload_n 3, 1) := by decide +kernel
theorem dX12_isWord_32 : decode cX12_isWord 32 = .ok (.bipush 8, 2) := by decide +kernel
theorem dX12_isWord_34 : decode cX12_isWord 34 = .ok (.lshl, 1) := by decide +kernel
theorem dX12_isWord_35 : decode cX12_isWord 35 = .ok (.aload_n 0, 1) := by decide +kernel
theorem dX12_isWord_36 : decode cX12_isWord 36 = .ok (.getfield 7, 3) := by decide +kernel
theorem dX12_isWord_39 : decode cX12_isWord 39 = .ok (.aload_n 0, 1) := by decide +kernel
theorem dX12_isWord_40 : decode cX12_isWord 40 = .ok (.getfield 99, 3) := by decide +kernel
theorem dX12_isWord_43 : decode cX12_isWord 43 = .ok (.iload 5, 2) := by decide +kernel
theorem dX12_isWord_45 : decode cX12_isWord 45 = .ok (.iadd, 1) := by decide +kernel
theorem dX12_isWord_46 : decode cX12_isWord 46 = .ok (.baload, 1) := by decide +kernel
theorem dX12_isWord_47 : decode cX12_isWord 47 = .ok (.i2l, 1) := by decide +kernel
theorem dX12_isWord_48 : decode cX12_isWord 48 = .ok (.lor, 1) := by decide +kernel
theorem dX12_isWord_49 : decode cX12_isWord 49 = .ok (.lstore_n 3, 1) := by decide +kernel
theorem dX12_isWord_50 : decode cX12_isWord 50 = .ok (.iinc 5 1, 3) := by decide +kernel
theorem dX12_isWord_53 : decode cX12_isWord 53 = .ok (.goto (-43), 3) := by decide +kernel
theorem dX12_isWord_56 : decode cX12_isWord 56 = .ok (.iload 5, 2) := by decide +kernel
theorem dX12_isWord_58 : decode cX12_isWord 58 = .ok (.ifCond .le 20, 3) := by decide +kernel
theorem dX12_isWord_61 : decode cX12_isWord 61 = .ok (.iload 5, 2) := by decide +kernel
theorem dX12_isWord_63 : decode cX12_isWord 63 = .ok (.bipush 8, 2) := by decide +kernel
theorem dX12_isWord_65 : decode cX12_isWord 65 = .ok (.if_icmp .ge 13, 3) := by decide +kernel
theorem dX12_isWord_68 : decode cX12_isWord 68 = .ok (.lload_n 3, 1) := by decide +kernel
theorem dX12_isWord_69 : decode cX12_isWord 69 = .ok (.lload_n 1, 1) := by decide +kernel
theorem dX12_isWord_70 : decode cX12_isWord 70 = .ok (.lcmp, 1) := by decide +kernel
theorem dX12_isWord_71 : decode cX12_isWord 71 = .ok (.ifCond .ne 7, 3) := by decide +kernel
theorem dX12_isWord_74 : decode cX12_isWord 74 = .ok (.iconst 1, 1) := by decide +kernel
theorem dX12_isWord_75 : decode cX12_isWord 75 = .ok (.goto 4, 3) := by decide +kernel
theorem dX12_isWord_78 : decode cX12_isWord 78 = .ok (.iconst 0, 1) := by decide +kernel
theorem dX12_isWord_79 : decode cX12_isWord 79 = .ok (.ireturn, 1) := by decide +kernel
theorem dX12_passes_0 : decode cX12_passes 0 = .ok (.iconst 0, 1) := by decide +kernel
theorem dX12_passes_1 : decode cX12_passes 1 = .ok (.istore_n 1, 1) := by decide +kernel
theorem dX12_passes_2 : decode cX12_passes 2 = .ok (.iconst 0, 1) := by decide +kernel
theorem dX12_passes_3 : decode cX12_passes 3 = .ok (.istore_n 2, 1) := by decide +kernel
theorem dX12_passes_4 : decode cX12_passes 4 = .ok (.iload_n 2, 1) := by decide +kernel
theorem dX12_passes_5 : decode cX12_passes 5 = .ok (.aload_n 0, 1) := by decide +kernel
theorem dX12_passes_6 : decode cX12_passes 6 = .ok (.getfield 39, 3) := by decide +kernel
theorem dX12_passes_9 : decode cX12_passes 9 = .ok (.iconst 5, 1) := by decide +kernel
theorem dX12_passes_10 : decode cX12_passes 10 = .ok (.iaload, 1) := by decide +kernel
theorem dX12_passes_11 : decode cX12_passes 11 = .ok (.if_icmp .ge 27, 3) := by decide +kernel
theorem dX12_passes_14 : decode cX12_passes 14 = .ok (.iload_n 1, 1) := by decide +kernel
theorem dX12_passes_15 : decode cX12_passes 15 = .ok (.aload_n 0, 1) := by decide +kernel
theorem dX12_passes_16 : decode cX12_passes 16 = .ok (.iload_n 2, 1) := by decide +kernel
theorem dX12_passes_17 : decode cX12_passes 17 = .ok (.invokevirtual 357, 3) := by decide +kernel
theorem dX12_passes_20 : decode cX12_passes 20 = .ok (.ifCond .eq 9, 3) := by decide +kernel
theorem dX12_passes_23 : decode cX12_passes 23 = .ok (.iconst 1, 1) := by decide +kernel
theorem dX12_passes_24 : decode cX12_passes 24 = .ok (.iload_n 2, 1) := by decide +kernel
theorem dX12_passes_25 : decode cX12_passes 25 = .ok (.ishl, 1) := by decide +kernel
theorem dX12_passes_26 : decode cX12_passes 26 = .ok (.goto 4, 3) := by decide +kernel
theorem dX12_passes_29 : decode cX12_passes 29 = .ok (.iconst 0, 1) := by decide +kernel
theorem dX12_passes_30 : decode cX12_passes 30 = .ok (.ior, 1) := by decide +kernel
theorem dX12_passes_31 : decode cX12_passes 31 = .ok (.istore_n 1, 1) := by decide +kernel
theorem dX12_passes_32 : decode cX12_passes 32 = .ok (.iinc 2 1, 3) := by decide +kernel
theorem dX12_passes_35 : decode cX12_passes 35 = .ok (.goto (-31), 3) := by decide +kernel
theorem dX12_passes_38 : decode cX12_passes 38 = .ok (.aload_n 0, 1) := by decide +kernel
theorem dX12_passes_39 : decode cX12_passes 39 = .ok (.iconst (-1), 1) := by decide +kernel
theorem dX12_passes_40 : decode cX12_passes 40 = .ok (.putfield 46, 3) := by decide +kernel
theorem dX12_passes_43 : decode cX12_passes 43 = .ok (.aload_n 0, 1) := by decide +kernel
theorem dX12_passes_44 : decode cX12_passes 44 = .ok (.getfield 39, 3) := by decide +kernel
theorem dX12_passes_47 : decode cX12_passes 47 = .ok (.bipush 10, 2) := by decide +kernel
theorem dX12_passes_49 : decode cX12_passes 49 = .ok (.dup2, 1) := by decide +kernel
theorem dX12_passes_50 : decode cX12_passes 50 = .ok (.iaload, 1) := by decide +kernel
theorem dX12_passes_51 : decode cX12_passes 51 = .ok (.iconst 1, 1) := by decide +kernel
theorem dX12_passes_52 : decode cX12_passes 52 = .ok (.iadd, 1) := by decide +kernel
theorem dX12_passes_53 : decode cX12_passes 53 = .ok (.iastore, 1) := by decide +kernel
theorem dX12_passes_54 : decode cX12_passes 54 = .ok (.iload_n 1, 1) := by decide +kernel
theorem dX12_passes_55 : decode cX12_passes 55 = .ok (.ireturn, 1) := by decide +kernel
theorem dX12_ringAt_0 : decode cX12_ringAt 0 = .ok (.iconst 0, 1) := by decide +kernel
theorem dX12_ringAt_1 : decode cX12_ringAt 1 = .ok (.istore_n 2, 1) := by decide +kernel
theorem dX12_ringAt_2 : decode cX12_ringAt 2 = .ok (.iload_n 2, 1) := by decide +kernel
theorem dX12_ringAt_3 : decode cX12_ringAt 3 = .ok (.aload_n 0, 1) := by decide +kernel
theorem dX12_ringAt_4 : decode cX12_ringAt 4 = .ok (.getfield 39, 3) := by decide +kernel
theorem dX12_ringAt_7 : decode cX12_ringAt 7 = .ok (.iconst 4, 1) := by decide +kernel
theorem dX12_ringAt_8 : decode cX12_ringAt 8 = .ok (.iaload, 1) := by decide +kernel
theorem dX12_ringAt_9 : decode cX12_ringAt 9 = .ok (.if_icmp .ge 24, 3) := by decide +kernel
theorem dX12_ringAt_12 : decode cX12_ringAt 12 = .ok (.aload_n 0, 1) := by decide +kernel
theorem dX12_ringAt_13 : decode cX12_ringAt 13 = .ok (.getfield 39, 3) := by decide +kernel
theorem dX12_ringAt_16 : decode cX12_ringAt 16 = .ok (.bipush 13, 2) := by decide +kernel
theorem dX12_ringAt_18 : decode cX12_ringAt 18 = .ok (.iload_n 2, 1) := by decide +kernel
theorem dX12_ringAt_19 : decode cX12_ringAt 19 = .ok (.iadd, 1) := by decide +kernel
theorem dX12_ringAt_20 : decode cX12_ringAt 20 = .ok (.iaload, 1) := by decide +kernel
theorem dX12_ringAt_21 : decode cX12_ringAt 21 = .ok (.iload_n 1, 1) := by decide +kernel
theorem dX12_ringAt_22 : decode cX12_ringAt 22 = .ok (.if_icmp .ne 5, 3) := by decide +kernel
theorem dX12_ringAt_25 : decode cX12_ringAt 25 = .ok (.iload_n 2, 1) := by decide +kernel
theorem dX12_ringAt_26 : decode cX12_ringAt 26 = .ok (.ireturn, 1) := by decide +kernel
theorem dX12_ringAt_27 : decode cX12_ringAt 27 = .ok (.iinc 2 1, 3) := by decide +kernel
theorem dX12_ringAt_30 : decode cX12_ringAt 30 = .ok (.goto (-28), 3) := by decide +kernel
theorem dX12_ringAt_33 : decode cX12_ringAt 33 = .ok (.iconst (-1), 1) := by decide +kernel
theorem dX12_ringAt_34 : decode cX12_ringAt 34 = .ok (.ireturn, 1) := by decide +kernel
theorem dX12_shoots_0 : decode cX12_shoots 0 = .ok (.aload_n 0, 1) := by decide +kernel
theorem dX12_shoots_1 : decode cX12_shoots 1 = .ok (.iload_n 1, 1) := by decide +kernel
theorem dX12_shoots_2 : decode cX12_shoots 2 = .ok (.iload_n 2, 1) := by decide +kernel
theorem dX12_shoots_3 : decode cX12_shoots 3 = .ok (.invokevirtual 341, 3) := by decide +kernel
theorem dX12_shoots_6 : decode cX12_shoots 6 = .ok (.istore_n 3, 1) := by decide +kernel
theorem dX12_shoots_7 : decode cX12_shoots 7 = .ok (.aload_n 0, 1) := by decide +kernel
theorem dX12_shoots_8 : decode cX12_shoots 8 = .ok (.getfield 39, 3) := by decide +kernel
theorem dX12_shoots_11 : decode cX12_shoots 11 = .ok (.bipush 25, 2) := by decide +kernel
theorem dX12_shoots_13 : decode cX12_shoots 13 = .ok (.iconst 3, 1) := by decide +kernel
theorem dX12_shoots_14 : decode cX12_shoots 14 = .ok (.iload_n 1, 1) := by decide +kernel
theorem dX12_shoots_15 : decode cX12_shoots 15 = .ok (.imul, 1) := by decide +kernel
theorem dX12_shoots_16 : decode cX12_shoots 16 = .ok (.iadd, 1) := by decide +kernel
theorem dX12_shoots_17 : decode cX12_shoots 17 = .ok (.iconst 2, 1) := by decide +kernel
theorem dX12_shoots_18 : decode cX12_shoots 18 = .ok (.iadd, 1) := by decide +kernel
theorem dX12_shoots_19 : decode cX12_shoots 19 = .ok (.dup2, 1) := by decide +kernel
theorem dX12_shoots_20 : decode cX12_shoots 20 = .ok (.iaload, 1) := by decide +kernel
theorem dX12_shoots_21 : decode cX12_shoots 21 = .ok (.iconst 1, 1) := by decide +kernel
theorem dX12_shoots_22 : decode cX12_shoots 22 = .ok (.isub, 1) := by decide +kernel
theorem dX12_shoots_23 : decode cX12_shoots 23 = .ok (.iastore, 1) := by decide +kernel
theorem dX12_shoots_24 : decode cX12_shoots 24 = .ok (.aload_n 0, 1) := by decide +kernel
theorem dX12_shoots_25 : decode cX12_shoots 25 = .ok (.getfield 39, 3) := by decide +kernel
theorem dX12_shoots_28 : decode cX12_shoots 28 = .ok (.bipush 11, 2) := by decide +kernel
theorem dX12_shoots_30 : decode cX12_shoots 30 = .ok (.dup2, 1) := by decide +kernel
theorem dX12_shoots_31 : decode cX12_shoots 31 = .ok (.iaload, 1) := by decide +kernel
theorem dX12_shoots_32 : decode cX12_shoots 32 = .ok (.iconst 1, 1) := by decide +kernel
theorem dX12_shoots_33 : decode cX12_shoots 33 = .ok (.iadd, 1) := by decide +kernel
theorem dX12_shoots_34 : decode cX12_shoots 34 = .ok (.iastore, 1) := by decide +kernel
theorem dX12_shoots_35 : decode cX12_shoots 35 = .ok (.iload_n 3, 1) := by decide +kernel
theorem dX12_shoots_36 : decode cX12_shoots 36 = .ok (.ifCond .ge 16, 3) := by decide +kernel
theorem dX12_shoots_39 : decode cX12_shoots 39 = .ok (.aload_n 0, 1) := by decide +kernel
theorem dX12_shoots_40 : decode cX12_shoots 40 = .ok (.getfield 39, 3) := by decide +kernel
theorem dX12_shoots_43 : decode cX12_shoots 43 = .ok (.bipush 12, 2) := by decide +kernel
theorem dX12_shoots_45 : decode cX12_shoots 45 = .ok (.dup2, 1) := by decide +kernel
theorem dX12_shoots_46 : decode cX12_shoots 46 = .ok (.iaload, 1) := by decide +kernel
theorem dX12_shoots_47 : decode cX12_shoots 47 = .ok (.iconst 1, 1) := by decide +kernel
theorem dX12_shoots_48 : decode cX12_shoots 48 = .ok (.iadd, 1) := by decide +kernel
theorem dX12_shoots_49 : decode cX12_shoots 49 = .ok (.iastore, 1) := by decide +kernel
theorem dX12_shoots_50 : decode cX12_shoots 50 = .ok (.iconst (-1), 1) := by decide +kernel
theorem dX12_shoots_51 : decode cX12_shoots 51 = .ok (.ireturn, 1) := by decide +kernel
theorem dX12_shoots_52 : decode cX12_shoots 52 = .ok (.aload_n 0, 1) := by decide +kernel
theorem dX12_shoots_53 : decode cX12_shoots 53 = .ok (.iload_n 3, 1) := by decide +kernel
theorem dX12_shoots_54 : decode cX12_shoots 54 = .ok (.invokevirtual 345, 3) := by decide +kernel
theorem dX12_shoots_57 : decode cX12_shoots 57 = .ok (.istore 4, 2) := by decide +kernel
theorem dX12_shoots_59 : decode cX12_shoots 59 = .ok (.iload 4, 2) := by decide +kernel
theorem dX12_shoots_61 : decode cX12_shoots 61 = .ok (.ifCond .lt 17, 3) := by decide +kernel
theorem dX12_shoots_64 : decode cX12_shoots 64 = .ok (.aload_n 0, 1) := by decide +kernel
theorem dX12_shoots_65 : decode cX12_shoots 65 = .ok (.getfield 39, 3) := by decide +kernel
theorem dX12_shoots_68 : decode cX12_shoots 68 = .ok (.bipush 19, 2) := by decide +kernel
theorem dX12_shoots_70 : decode cX12_shoots 70 = .ok (.iload 4, 2) := by decide +kernel
theorem dX12_shoots_72 : decode cX12_shoots 72 = .ok (.iadd, 1) := by decide +kernel
theorem dX12_shoots_73 : decode cX12_shoots 73 = .ok (.dup2, 1) := by decide +kernel
theorem dX12_shoots_74 : decode cX12_shoots 74 = .ok (.iaload, 1) := by decide +kernel
theorem dX12_shoots_75 : decode cX12_shoots 75 = .ok (.iconst 1, 1) := by decide +kernel
theorem dX12_shoots_76 : decode cX12_shoots 76 = .ok (.iadd, 1) := by decide +kernel
theorem dX12_shoots_77 : decode cX12_shoots 77 = .ok (.iastore, 1) := by decide +kernel
theorem dX12_shoots_78 : decode cX12_shoots 78 = .ok (.iload 4, 2) := by decide +kernel
theorem dX12_shoots_80 : decode cX12_shoots 80 = .ok (.aload_n 0, 1) := by decide +kernel
theorem dX12_shoots_81 : decode cX12_shoots 81 = .ok (.getfield 39, 3) := by decide +kernel
theorem dX12_shoots_84 : decode cX12_shoots 84 = .ok (.bipush 46, 2) := by decide +kernel
theorem dX12_shoots_86 : decode cX12_shoots 86 = .ok (.iload_n 1, 1) := by decide +kernel
theorem dX12_shoots_87 : decode cX12_shoots 87 = .ok (.iadd, 1) := by decide +kernel
theorem dX12_shoots_88 : decode cX12_shoots 88 = .ok (.iaload, 1) := by decide +kernel
theorem dX12_shoots_89 : decode cX12_shoots 89 = .ok (.if_icmp .ne 8, 3) := by decide +kernel
theorem dX12_shoots_92 : decode cX12_shoots 92 = .ok (.aload_n 0, 1) := by decide +kernel
theorem dX12_shoots_93 : decode cX12_shoots 93 = .ok (.iload_n 1, 1) := by decide +kernel
theorem dX12_shoots_94 : decode cX12_shoots 94 = .ok (.invokevirtual 348, 3) := by decide +kernel
theorem dX12_shoots_97 : decode cX12_shoots 97 = .ok (.iload_n 3, 1) := by decide +kernel
theorem dX12_shoots_98 : decode cX12_shoots 98 = .ok (.ireturn, 1) := by decide +kernel
theorem dX12_tested_0 : decode cX12_tested 0 = .ok (.aload_n 0, 1) := by decide +kernel
theorem dX12_tested_1 : decode cX12_tested 1 = .ok (.iconst 0, 1) := by decide +kernel
theorem dX12_tested_2 : decode cX12_tested 2 = .ok (.putfield 166, 3) := by decide +kernel
theorem dX12_tested_5 : decode cX12_tested 5 = .ok (.aload_n 0, 1) := by decide +kernel
theorem dX12_tested_6 : decode cX12_tested 6 = .ok (.iconst 0, 1) := by decide +kernel
theorem dX12_tested_7 : decode cX12_tested 7 = .ok (.putfield 163, 3) := by decide +kernel
theorem dX12_tested_10 : decode cX12_tested 10 = .ok (.iconst 1, 1) := by decide +kernel
theorem dX12_tested_11 : decode cX12_tested 11 = .ok (.istore_n 1, 1) := by decide +kernel
theorem dX12_tested_12 : decode cX12_tested 12 = .ok (.iload_n 1, 1) := by decide +kernel
theorem dX12_tested_13 : decode cX12_tested 13 = .ok (.ifCond .eq 99, 3) := by decide +kernel
theorem dX12_tested_16 : decode cX12_tested 16 = .ok (.aload_n 0, 1) := by decide +kernel
theorem dX12_tested_17 : decode cX12_tested 17 = .ok (.invokevirtual 211, 3) := by decide +kernel
theorem dX12_tested_20 : decode cX12_tested 20 = .ok (.ifCond .ne 5, 3) := by decide +kernel
theorem dX12_tested_23 : decode cX12_tested 23 = .ok (.iconst 0, 1) := by decide +kernel
theorem dX12_tested_24 : decode cX12_tested 24 = .ok (.ireturn, 1) := by decide +kernel
theorem dX12_tested_25 : decode cX12_tested 25 = .ok (.aload_n 0, 1) := by decide +kernel
theorem dX12_tested_26 : decode cX12_tested 26 = .ok (.invokevirtual 214, 3) := by decide +kernel
theorem dX12_tested_29 : decode cX12_tested 29 = .ok (.aload_n 0, 1) := by decide +kernel
theorem dX12_tested_30 : decode cX12_tested 30 = .ok (.ldc2_w 217, 3) := by decide +kernel
theorem dX12_tested_33 : decode cX12_tested 33 = .ok (.invokevirtual 110, 3) := by decide +kernel
theorem dX12_tested_36 : decode cX12_tested 36 = .ok (.ifCond .ne 13, 3) := by decide +kernel
theorem dX12_tested_39 : decode cX12_tested 39 = .ok (.aload_n 0, 1) := by decide +kernel
theorem dX12_tested_40 : decode cX12_tested 40 = .ok (.ldc2_w 219, 3) := by decide +kernel
theorem dX12_tested_43 : decode cX12_tested 43 = .ok (.invokevirtual 110, 3) := by decide +kernel
theorem dX12_tested_46 : decode cX12_tested 46 = .ok (.ifCond .eq 7, 3) := by decide +kernel
theorem dX12_tested_49 : decode cX12_tested 49 = .ok (.iconst 1, 1) := by decide +kernel
theorem dX12_tested_50 : decode cX12_tested 50 = .ok (.goto 4, 3) := by decide +kernel
theorem dX12_tested_53 : decode cX12_tested 53 = .ok (.iconst 0, 1) := by decide +kernel
theorem dX12_tested_54 : decode cX12_tested 54 = .ok (.istore_n 1, 1) := by decide +kernel
theorem dX12_tested_55 : decode cX12_tested 55 = .ok (.iload_n 1, 1) := by decide +kernel
theorem dX12_tested_56 : decode cX12_tested 56 = .ok (.ifCond .eq (-44), 3) := by decide +kernel
theorem dX12_tested_59 : decode cX12_tested 59 = .ok (.aload_n 0, 1) := by decide +kernel
theorem dX12_tested_60 : decode cX12_tested 60 = .ok (.ldc2_w 217, 3) := by decide +kernel
theorem dX12_tested_63 : decode cX12_tested 63 = .ok (.invokevirtual 110, 3) := by decide +kernel
theorem dX12_tested_66 : decode cX12_tested 66 = .ok (.ifCond .eq 8, 3) := by decide +kernel
theorem dX12_tested_69 : decode cX12_tested 69 = .ok (.bipush 12, 2) := by decide +kernel
theorem dX12_tested_71 : decode cX12_tested 71 = .ok (.goto 5, 3) := by decide +kernel
theorem dX12_tested_74 : decode cX12_tested 74 = .ok (.bipush 13, 2) := by decide +kernel
theorem dX12_tested_76 : decode cX12_tested 76 = .ok (.istore_n 2, 1) := by decide +kernel
theorem dX12_tested_77 : decode cX12_tested 77 = .ok (.aload_n 0, 1) := by decide +kernel
theorem dX12_tested_78 : decode cX12_tested 78 = .ok (.invokevirtual 114, 3) := by decide +kernel
theorem dX12_tested_81 : decode cX12_tested 81 = .ok (.aload_n 0, 1) := by decide +kernel
theorem dX12_tested_82 : decode cX12_tested 82 = .ok (.iload_n 2, 1) := by decide +kernel
theorem dX12_tested_83 : decode cX12_tested 83 = .ok (.invokestatic 169, 3) := by decide +kernel
theorem dX12_tested_86 : decode cX12_tested 86 = .ok (.invokevirtual 205, 3) := by decide +kernel
theorem dX12_tested_89 : decode cX12_tested 89 = .ok (.aload_n 0, 1) := by decide +kernel
theorem dX12_tested_90 : decode cX12_tested 90 = .ok (.getfield 29, 3) := by decide +kernel
theorem dX12_tested_93 : decode cX12_tested 93 = .ok (.aload_n 0, 1) := by decide +kernel
theorem dX12_tested_94 : decode cX12_tested 94 = .ok (.getfield 166, 3) := by decide +kernel
theorem dX12_tested_97 : decode cX12_tested 97 = .ok (.iload_n 2, 1) := by decide +kernel
theorem dX12_tested_98 : decode cX12_tested 98 = .ok (.iastore, 1) := by decide +kernel
theorem dX12_tested_99 : decode cX12_tested 99 = .ok (.aload_n 0, 1) := by decide +kernel
theorem dX12_tested_100 : decode cX12_tested 100 = .ok (.dup, 1) := by decide +kernel
theorem dX12_tested_101 : decode cX12_tested 101 = .ok (.getfield 166, 3) := by decide +kernel
theorem dX12_tested_104 : decode cX12_tested 104 = .ok (.iconst 1, 1) := by decide +kernel
theorem dX12_tested_105 : decode cX12_tested 105 = .ok (.iadd, 1) := by decide +kernel
theorem dX12_tested_106 : decode cX12_tested 106 = .ok (.putfield 166, 3) := by decide +kernel
theorem dX12_tested_109 : decode cX12_tested 109 = .ok (.goto (-97), 3) := by decide +kernel
theorem dX12_tested_112 : decode cX12_tested 112 = .ok (.aload_n 0, 1) := by decide +kernel
theorem dX12_tested_113 : decode cX12_tested 113 = .ok (.invokevirtual 208, 3) := by decide +kernel
theorem dX12_tested_116 : decode cX12_tested 116 = .ok (.ifCond .eq 18, 3) := by decide +kernel
theorem dX12_tested_119 : decode cX12_tested 119 = .ok (.aload_n 0, 1) := by decide +kernel
theorem dX12_tested_120 : decode cX12_tested 120 = .ok (.invokevirtual 102, 3) := by decide +kernel
theorem dX12_tested_123 : decode cX12_tested 123 = .ok (.pop, 1) := by decide +kernel
theorem dX12_tested_124 : decode cX12_tested 124 = .ok (.aload_n 0, 1) := by decide +kernel
theorem dX12_tested_125 : decode cX12_tested 125 = .ok (.iconst 0, 1) := by decide +kernel
theorem dX12_tested_126 : decode cX12_tested 126 = .ok (.aload_n 0, 1) := by decide +kernel
theorem dX12_tested_127 : decode cX12_tested 127 = .ok (.getfield 99, 3) := by decide +kernel
theorem dX12_tested_130 : decode cX12_tested 130 = .ok (.invokevirtual 120, 3) := by decide +kernel
theorem dX12_tested_133 : decode cX12_tested 133 = .ok (.ireturn, 1) := by decide +kernel
theorem dX12_tested_134 : decode cX12_tested 134 = .ok (.aload_n 0, 1) := by decide +kernel
theorem dX12_tested_135 : decode cX12_tested 135 = .ok (.iconst 1, 1) := by decide +kernel
theorem dX12_tested_136 : decode cX12_tested 136 = .ok (.invokevirtual 205, 3) := by decide +kernel
theorem dX12_tested_139 : decode cX12_tested 139 = .ok (.iconst 1, 1) := by decide +kernel
theorem dX12_tested_140 : decode cX12_tested 140 = .ok (.ireturn, 1) := by decide +kernel
theorem dX12_turnOf_0 : decode cX12_turnOf 0 = .ok (.aload_n 0, 1) := by decide +kernel
theorem dX12_turnOf_1 : decode cX12_turnOf 1 = .ok (.getfield 52, 3) := by decide +kernel
theorem dX12_turnOf_4 : decode cX12_turnOf 4 = .ok (.iload_n 1, 1) := by decide +kernel
theorem dX12_turnOf_5 : decode cX12_turnOf 5 = .ok (.bipush 99, 2) := by decide +kernel
theorem dX12_turnOf_7 : decode cX12_turnOf 7 = .ok (.iastore, 1) := by decide +kernel
theorem dX12_turnOf_8 : decode cX12_turnOf 8 = .ok (.aload_n 0, 1) := by decide +kernel
theorem dX12_turnOf_9 : decode cX12_turnOf 9 = .ok (.iload_n 1, 1) := by decide +kernel
theorem dX12_turnOf_10 : decode cX12_turnOf 10 = .ok (.invokevirtual 320, 3) := by decide +kernel
theorem dX12_turnOf_13 : decode cX12_turnOf 13 = .ok (.ifCond .le 11, 3) := by decide +kernel
theorem dX12_turnOf_16 : decode cX12_turnOf 16 = .ok (.aload_n 0, 1) := by decide +kernel
theorem dX12_turnOf_17 : decode cX12_turnOf 17 = .ok (.iload_n 1, 1) := by decide +kernel
theorem dX12_turnOf_18 : decode cX12_turnOf 18 = .ok (.invokevirtual 351, 3) := by decide +kernel
theorem dX12_turnOf_21 : decode cX12_turnOf 21 = .ok (.goto 4, 3) := by decide +kernel
theorem dX12_turnOf_24 : decode cX12_turnOf 24 = .ok (.iconst (-1), 1) := by decide +kernel
theorem dX12_turnOf_25 : decode cX12_turnOf 25 = .ok (.istore_n 2, 1) := by decide +kernel
theorem dX12_turnOf_26 : decode cX12_turnOf 26 = .ok (.iload_n 2, 1) := by decide +kernel
theorem dX12_turnOf_27 : decode cX12_turnOf 27 = .ok (.ifCond .ge 5, 3) := by decide +kernel
theorem dX12_turnOf_30 : decode cX12_turnOf 30 = .ok (.iconst 0, 1) := by decide +kernel
theorem dX12_turnOf_31 : decode cX12_turnOf 31 = .ok (.ireturn, 1) := by decide +kernel
theorem dX12_turnOf_32 : decode cX12_turnOf 32 = .ok (.aload_n 0, 1) := by decide +kernel
theorem dX12_turnOf_33 : decode cX12_turnOf 33 = .ok (.getfield 52, 3) := by decide +kernel
theorem dX12_turnOf_36 : decode cX12_turnOf 36 = .ok (.iload_n 1, 1) := by decide +kernel
theorem dX12_turnOf_37 : decode cX12_turnOf 37 = .ok (.aload_n 0, 1) := by decide +kernel
theorem dX12_turnOf_38 : decode cX12_turnOf 38 = .ok (.iload_n 1, 1) := by decide +kernel
theorem dX12_turnOf_39 : decode cX12_turnOf 39 = .ok (.iload_n 2, 1) := by decide +kernel
theorem dX12_turnOf_40 : decode cX12_turnOf 40 = .ok (.invokevirtual 354, 3) := by decide +kernel
theorem dX12_turnOf_43 : decode cX12_turnOf 43 = .ok (.iastore, 1) := by decide +kernel
theorem dX12_turnOf_44 : decode cX12_turnOf 44 = .ok (.aload_n 0, 1) := by decide +kernel
theorem dX12_turnOf_45 : decode cX12_turnOf 45 = .ok (.getfield 52, 3) := by decide +kernel
theorem dX12_turnOf_48 : decode cX12_turnOf 48 = .ok (.iload_n 1, 1) := by decide +kernel
theorem dX12_turnOf_49 : decode cX12_turnOf 49 = .ok (.iaload, 1) := by decide +kernel
theorem dX12_turnOf_50 : decode cX12_turnOf 50 = .ok (.ifCond .lt 29, 3) := by decide +kernel
theorem dX12_turnOf_53 : decode cX12_turnOf 53 = .ok (.aload_n 0, 1) := by decide +kernel
theorem dX12_turnOf_54 : decode cX12_turnOf 54 = .ok (.aload_n 0, 1) := by decide +kernel
theorem dX12_turnOf_55 : decode cX12_turnOf 55 = .ok (.getfield 52, 3) := by decide +kernel
theorem dX12_turnOf_58 : decode cX12_turnOf 58 = .ok (.iload_n 1, 1) := by decide +kernel
theorem dX12_turnOf_59 : decode cX12_turnOf 59 = .ok (.iaload, 1) := by decide +kernel
theorem dX12_turnOf_60 : decode cX12_turnOf 60 = .ok (.invokevirtual 345, 3) := by decide +kernel
theorem dX12_turnOf_63 : decode cX12_turnOf 63 = .ok (.aload_n 0, 1) := by decide +kernel
theorem dX12_turnOf_64 : decode cX12_turnOf 64 = .ok (.getfield 39, 3) := by decide +kernel
theorem dX12_turnOf_67 : decode cX12_turnOf 67 = .ok (.bipush 46, 2) := by decide +kernel
theorem dX12_turnOf_69 : decode cX12_turnOf 69 = .ok (.iload_n 1, 1) := by decide +kernel
theorem dX12_turnOf_70 : decode cX12_turnOf 70 = .ok (.iadd, 1) := by decide +kernel
theorem dX12_turnOf_71 : decode cX12_turnOf 71 = .ok (.iaload, 1) := by decide +kernel
theorem dX12_turnOf_72 : decode cX12_turnOf 72 = .ok (.if_icmp .ne 7, 3) := by decide +kernel
theorem dX12_turnOf_75 : decode cX12_turnOf 75 = .ok (.iconst 1, 1) := by decide +kernel
theorem dX12_turnOf_76 : decode cX12_turnOf 76 = .ok (.goto 4, 3) := by decide +kernel
theorem dX12_turnOf_79 : decode cX12_turnOf 79 = .ok (.iconst 0, 1) := by decide +kernel
theorem dX12_turnOf_80 : decode cX12_turnOf 80 = .ok (.ireturn, 1) := by decide +kernel
theorem dX12_windOn_0 : decode cX12_windOn 0 = .ok (.aload_n 0, 1) := by decide +kernel
theorem dX12_windOn_1 : decode cX12_windOn 1 = .ok (.getfield 39, 3) := by decide +kernel
theorem dX12_windOn_4 : decode cX12_windOn 4 = .ok (.iconst 3, 1) := by decide +kernel
theorem dX12_windOn_5 : decode cX12_windOn 5 = .ok (.iaload, 1) := by decide +kernel
theorem dX12_windOn_6 : decode cX12_windOn 6 = .ok (.ifCond .ne 7, 3) := by decide +kernel
theorem dX12_windOn_9 : decode cX12_windOn 9 = .ok (.iconst 4, 1) := by decide +kernel
theorem dX12_windOn_10 : decode cX12_windOn 10 = .ok (.goto 19, 3) := by decide +kernel
theorem dX12_windOn_13 : decode cX12_windOn 13 = .ok (.aload_n 0, 1) := by decide +kernel
theorem dX12_windOn_14 : decode cX12_windOn 14 = .ok (.getfield 39, 3) := by decide +kernel
theorem dX12_windOn_17 : decode cX12_windOn 17 = .ok (.bipush 56, 2) := by decide +kernel
theorem dX12_windOn_19 : decode cX12_windOn 19 = .ok (.iload_n 1, 1) := by decide +kernel
theorem dX12_windOn_20 : decode cX12_windOn 20 = .ok (.aload_n 0, 1) := by decide +kernel
theorem dX12_windOn_21 : decode cX12_windOn 21 = .ok (.getfield 39, 3) := by decide +kernel
theorem dX12_windOn_24 : decode cX12_windOn 24 = .ok (.iconst 3, 1) := by decide +kernel
theorem dX12_windOn_25 : decode cX12_windOn 25 = .ok (.iaload, 1) := by decide +kernel
theorem dX12_windOn_26 : decode cX12_windOn 26 = .ok (.irem, 1) := by decide +kernel
theorem dX12_windOn_27 : decode cX12_windOn 27 = .ok (.iadd, 1) := by decide +kernel
theorem dX12_windOn_28 : decode cX12_windOn 28 = .ok (.iaload, 1) := by decide +kernel
theorem dX12_windOn_29 : decode cX12_windOn 29 = .ok (.ireturn, 1) := by decide +kernel
theorem dX1_hasRing_0 : decode cX1_hasRing 0 = .ok (.iload_n 1, 1) := by decide +kernel
theorem dX1_hasRing_1 : decode cX1_hasRing 1 = .ok (.iconst 0, 1) := by decide +kernel
theorem dX1_hasRing_2 : decode cX1_hasRing 2 = .ok (.aload_n 0, 1) := by decide +kernel
