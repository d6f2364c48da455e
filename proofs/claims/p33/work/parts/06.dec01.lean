theorem dX5_add_18 : decode cX5_add 18 = .ok (.getfield 15, 3) := by decide +kernel
theorem dX5_add_21 : decode cX5_add 21 = .ok (.aload_n 0, 1) := by decide +kernel
theorem dX5_add_22 : decode cX5_add 22 = .ok (.getfield 21, 3) := by decide +kernel
theorem dX5_add_25 : decode cX5_add 25 = .ok (.iload_n 2, 1) := by decide +kernel
theorem dX5_add_26 : decode cX5_add 26 = .ok (.iastore, 1) := by decide +kernel
theorem dX5_add_27 : decode cX5_add 27 = .ok (.aload_n 0, 1) := by decide +kernel
theorem dX5_add_28 : decode cX5_add 28 = .ok (.getfield 18, 3) := by decide +kernel
theorem dX5_add_31 : decode cX5_add 31 = .ok (.aload_n 0, 1) := by decide +kernel
theorem dX5_add_32 : decode cX5_add 32 = .ok (.getfield 21, 3) := by decide +kernel
theorem dX5_add_35 : decode cX5_add 35 = .ok (.iload_n 3, 1) := by decide +kernel
theorem dX5_add_36 : decode cX5_add 36 = .ok (.iastore, 1) := by decide +kernel
theorem dX5_add_37 : decode cX5_add 37 = .ok (.aload_n 0, 1) := by decide +kernel
theorem dX5_add_38 : decode cX5_add 38 = .ok (.dup, 1) := by decide +kernel
theorem dX5_add_39 : decode cX5_add 39 = .ok (.getfield 21, 3) := by decide +kernel
theorem dX5_add_42 : decode cX5_add 42 = .ok (.iconst 1, 1) := by decide +kernel
theorem dX5_add_43 : decode cX5_add 43 = .ok (.iadd, 1) := by decide +kernel
theorem dX5_add_44 : decode cX5_add 44 = .ok (.putfield 21, 3) := by decide +kernel
theorem dX5_add_47 : decode cX5_add 47 = .ok (.return_, 1) := by decide +kernel
theorem dX0_init_0 : decode cX0_init 0 = .ok (.aload_n 0, 1) := by decide +kernel
theorem dX0_init_1 : decode cX0_init 1 = .ok (.invokespecial 1, 3) := by decide +kernel
theorem dX0_init_4 : decode cX0_init 4 = .ok (.aload_n 0, 1) := by decide +kernel
theorem dX0_init_5 : decode cX0_init 5 = .ok (.bipush 20, 2) := by decide +kernel
theorem dX0_init_7 : decode cX0_init 7 = .ok (.bipush 63, 2) := by decide +kernel
theorem dX0_init_9 : decode cX0_init 9 = .ok (.multianewarray 11 2, 4) := by decide +kernel
theorem dX0_init_13 : decode cX0_init 13 = .ok (.putfield 13, 3) := by decide +kernel
theorem dX0_init_16 : decode cX0_init 16 = .ok (.aload_n 0, 1) := by decide +kernel
theorem dX0_init_17 : decode cX0_init 17 = .ok (.iconst 0, 1) := by decide +kernel
theorem dX0_init_18 : decode cX0_init 18 = .ok (.putfield 16, 3) := by decide +kernel
theorem dX0_init_21 : decode cX0_init 21 = .ok (.aload_n 0, 1) := by decide +kernel
theorem dX0_init_22 : decode cX0_init 22 = .ok (.iconst 0, 1) := by decide +kernel
theorem dX0_init_23 : decode cX0_init 23 = .ok (.putfield 20, 3) := by decide +kernel
theorem dX0_init_26 : decode cX0_init 26 = .ok (.return_, 1) := by decide +kernel
theorem dX0_keep_0 : decode cX0_keep 0 = .ok (.aload_n 1, 1) := by decide +kernel
theorem dX0_keep_1 : decode cX0_keep 1 = .ok (.getfield 23, 3) := by decide +kernel
theorem dX0_keep_4 : decode cX0_keep 4 = .ok (.iconst 0, 1) := by decide +kernel
theorem dX0_keep_5 : decode cX0_keep 5 = .ok (.aload_n 0, 1) := by decide +kernel
theorem dX0_keep_6 : decode cX0_keep 6 = .ok (.getfield 13, 3) := by decide +kernel
theorem dX0_keep_9 : decode cX0_keep 9 = .ok (.aload_n 0, 1) := by decide +kernel
theorem dX0_keep_10 : decode cX0_keep 10 = .ok (.getfield 16, 3) := by decide +kernel
theorem dX0_keep_13 : decode cX0_keep 13 = .ok (.aaload, 1) := by decide +kernel
theorem dX0_keep_14 : decode cX0_keep 14 = .ok (.iconst 0, 1) := by decide +kernel
theorem dX0_keep_15 : decode cX0_keep 15 = .ok (.bipush 63, 2) := by decide +kernel
theorem dX0_keep_17 : decode cX0_keep 17 = .ok (.invokestatic 27, 3) := by decide +kernel
theorem dX0_keep_20 : decode cX0_keep 20 = .ok (.aload_n 0, 1) := by decide +kernel
theorem dX0_keep_21 : decode cX0_keep 21 = .ok (.aload_n 0, 1) := by decide +kernel
theorem dX0_keep_22 : decode cX0_keep 22 = .ok (.getfield 16, 3) := by decide +kernel
theorem dX0_keep_25 : decode cX0_keep 25 = .ok (.iconst 1, 1) := by decide +kernel
theorem dX0_keep_26 : decode cX0_keep 26 = .ok (.iadd, 1) := by decide +kernel
theorem dX0_keep_27 : decode cX0_keep 27 = .ok (.bipush 20, 2) := by decide +kernel
theorem dX0_keep_29 : decode cX0_keep 29 = .ok (.irem, 1) := by decide +kernel
theorem dX0_keep_30 : decode cX0_keep 30 = .ok (.putfield 16, 3) := by decide +kernel
theorem dX0_keep_33 : decode cX0_keep 33 = .ok (.aload_n 0, 1) := by decide +kernel
theorem dX0_keep_34 : decode cX0_keep 34 = .ok (.bipush 20, 2) := by decide +kernel
theorem dX0_keep_36 : decode cX0_keep 36 = .ok (.aload_n 0, 1) := by decide +kernel
theorem dX0_keep_37 : decode cX0_keep 37 = .ok (.getfield 20, 3) := by decide +kernel
theorem dX0_keep_40 : decode cX0_keep 40 = .ok (.iconst 1, 1) := by decide +kernel
theorem dX0_keep_41 : decode cX0_keep 41 = .ok (.iadd, 1) := by decide +kernel
theorem dX0_keep_42 : decode cX0_keep 42 = .ok (.invokestatic 33, 3) := by decide +kernel
theorem dX0_keep_45 : decode cX0_keep 45 = .ok (.putfield 20, 3) := by decide +kernel
theorem dX0_keep_48 : decode cX0_keep 48 = .ok (.return_, 1) := by decide +kernel
theorem dX11_end_0 : decode cX11_end 0 = .ok (.iload_n 1, 1) := by decide +kernel
theorem dX11_end_1 : decode cX11_end 1 = .ok (.iconst 0, 1) := by decide +kernel
theorem dX11_end_2 : decode cX11_end 2 = .ok (.aload_n 0, 1) := by decide +kernel
theorem dX11_end_3 : decode cX11_end 3 = .ok (.getfield 10, 3) := by decide +kernel
theorem dX11_end_6 : decode cX11_end 6 = .ok (.getfield 87, 3) := by decide +kernel
theorem dX11_end_9 : decode cX11_end 9 = .ok (.invokestatic 90, 3) := by decide +kernel
theorem dX11_end_12 : decode cX11_end 12 = .ok (.ifCond .ne 5, 3) := by decide +kernel
theorem dX11_end_15 : decode cX11_end 15 = .ok (.iconst (-1), 1) := by decide +kernel
theorem dX11_end_16 : decode cX11_end 16 = .ok (.ireturn, 1) := by decide +kernel
theorem dX11_end_17 : decode cX11_end 17 = .ok (.aload_n 0, 1) := by decide +kernel
theorem dX11_end_18 : decode cX11_end 18 = .ok (.getfield 10, 3) := by decide +kernel
theorem dX11_end_21 : decode cX11_end 21 = .ok (.iload_n 1, 1) := by decide +kernel
theorem dX11_end_22 : decode cX11_end 22 = .ok (.putfield 87, 3) := by decide +kernel
theorem dX11_end_25 : decode cX11_end 25 = .ok (.iload_n 1, 1) := by decide +kernel
theorem dX11_end_26 : decode cX11_end 26 = .ok (.ireturn, 1) := by decide +kernel
theorem dX11_row_0 : decode cX11_row 0 = .ok (.aload_n 0, 1) := by decide +kernel
theorem dX11_row_1 : decode cX11_row 1 = .ok (.getfield 43, 3) := by decide +kernel
theorem dX11_row_4 : decode cX11_row 4 = .ok (.getfield 111, 3) := by decide +kernel
theorem dX11_row_7 : decode cX11_row 7 = .ok (.iload_n 1, 1) := by decide +kernel
theorem dX11_row_8 : decode cX11_row 8 = .ok (.invokevirtual 139, 3) := by decide +kernel
theorem dX11_row_11 : decode cX11_row 11 = .ok (.ifCond .eq 21, 3) := by decide +kernel
theorem dX11_row_14 : decode cX11_row 14 = .ok (.iload_n 2, 1) := by decide +kernel
theorem dX11_row_15 : decode cX11_row 15 = .ok (.iconst 1, 1) := by decide +kernel
theorem dX11_row_16 : decode cX11_row 16 = .ok (.iconst 5, 1) := by decide +kernel
theorem dX11_row_17 : decode cX11_row 17 = .ok (.invokestatic 90, 3) := by decide +kernel
theorem dX11_row_20 : decode cX11_row 20 = .ok (.ifCond .eq 12, 3) := by decide +kernel
theorem dX11_row_23 : decode cX11_row 23 = .ok (.iload_n 3, 1) := by decide +kernel
theorem dX11_row_24 : decode cX11_row 24 = .ok (.iconst 0, 1) := by decide +kernel
theorem dX11_row_25 : decode cX11_row 25 = .ok (.iconst 5, 1) := by decide +kernel
theorem dX11_row_26 : decode cX11_row 26 = .ok (.invokestatic 90, 3) := by decide +kernel
theorem dX11_row_29 : decode cX11_row 29 = .ok (.ifCond .ne 6, 3) := by decide +kernel
theorem dX11_row_32 : decode cX11_row 32 = .ok (.bipush (-3), 2) := by decide +kernel
theorem dX11_row_34 : decode cX11_row 34 = .ok (.ireturn, 1) := by decide +kernel
theorem dX11_row_35 : decode cX11_row 35 = .ok (.aload_n 0, 1) := by decide +kernel
theorem dX11_row_36 : decode cX11_row 36 = .ok (.getfield 43, 3) := by decide +kernel
theorem dX11_row_39 : decode cX11_row 39 = .ok (.getfield 111, 3) := by decide +kernel
theorem dX11_row_42 : decode cX11_row 42 = .ok (.getfield 124, 3) := by decide +kernel
theorem dX11_row_45 : decode cX11_row 45 = .ok (.bipush 58, 2) := by decide +kernel
theorem dX11_row_47 : decode cX11_row 47 = .ok (.iload_n 1, 1) := by decide +kernel
theorem dX11_row_48 : decode cX11_row 48 = .ok (.iadd, 1) := by decide +kernel
theorem dX11_row_49 : decode cX11_row 49 = .ok (.iaload, 1) := by decide +kernel
theorem dX11_row_50 : decode cX11_row 50 = .ok (.iconst 1, 1) := by decide +kernel
theorem dX11_row_51 : decode cX11_row 51 = .ok (.if_icmp .ge 6, 3) := by decide +kernel
theorem dX11_row_54 : decode cX11_row 54 = .ok (.bipush (-3), 2) := by decide +kernel
theorem dX11_row_56 : decode cX11_row 56 = .ok (.ireturn, 1) := by decide +kernel
theorem dX11_row_57 : decode cX11_row 57 = .ok (.iload_n 3, 1) := by decide +kernel
theorem dX11_row_58 : decode cX11_row 58 = .ok (.iload_n 2, 1) := by decide +kernel
theorem dX11_row_59 : decode cX11_row 59 = .ok (.if_icmp .le 8, 3) := by decide +kernel
theorem dX11_row_62 : decode cX11_row 62 = .ok (.bipush (-2), 2) := by decide +kernel
theorem dX11_row_64 : decode cX11_row 64 = .ok (.goto 20, 3) := by decide +kernel
theorem dX11_row_67 : decode cX11_row 67 = .ok (.aload_n 0, 1) := by decide +kernel
theorem dX11_row_68 : decode cX11_row 68 = .ok (.getfield 68, 3) := by decide +kernel
theorem dX11_row_71 : decode cX11_row 71 = .ok (.aload_n 0, 1) := by decide +kernel
theorem dX11_row_72 : decode cX11_row 72 = .ok (.getfield 43, 3) := by decide +kernel
theorem dX11_row_75 : decode cX11_row 75 = .ok (.getfield 111, 3) := by decide +kernel
theorem dX11_row_78 : decode cX11_row 78 = .ok (.iload_n 1, 1) := by decide +kernel
theorem dX11_row_79 : decode cX11_row 79 = .ok (.iload_n 2, 1) := by decide +kernel
theorem dX11_row_80 : decode cX11_row 80 = .ok (.iload_n 3, 1) := by decide +kernel
theorem dX11_row_81 : decode cX11_row 81 = .ok (.invokevirtual 200, 3) := by decide +kernel
theorem dX11_row_84 : decode cX11_row 84 = .ok (.ireturn, 1) := by decide +kernel
theorem dX11_set_0 : decode cX11_set 0 = .ok (.aload_n 0, 1) := by decide +kernel
theorem dX11_set_1 : decode cX11_set 1 = .ok (.getfield 43, 3) := by decide +kernel
theorem dX11_set_4 : decode cX11_set 4 = .ok (.getfield 111, 3) := by decide +kernel
theorem dX11_set_7 : decode cX11_set 7 = .ok (.iload_n 1, 1) := by decide +kernel
theorem dX11_set_8 : decode cX11_set 8 = .ok (.invokevirtual 136, 3) := by decide +kernel
theorem dX11_set_11 : decode cX11_set 11 = .ok (.ifCond .eq 22, 3) := by decide +kernel
theorem dX11_set_14 : decode cX11_set 14 = .ok (.iload_n 2, 1) := by decide +kernel
theorem dX11_set_15 : decode cX11_set 15 = .ok (.iconst 1, 1) := by decide +kernel
theorem dX11_set_16 : decode cX11_set 16 = .ok (.bipush 40, 2) := by decide +kernel
theorem dX11_set_18 : decode cX11_set 18 = .ok (.invokestatic 90, 3) := by decide +kernel
theorem dX11_set_21 : decode cX11_set 21 = .ok (.ifCond .eq 12, 3) := by decide +kernel
theorem dX11_set_24 : decode cX11_set 24 = .ok (.iload_n 3, 1) := by decide +kernel
theorem dX11_set_25 : decode cX11_set 25 = .ok (.iconst 0, 1) := by decide +kernel
theorem dX11_set_26 : decode cX11_set 26 = .ok (.iconst 1, 1) := by decide +kernel
theorem dX11_set_27 : decode cX11_set 27 = .ok (.invokestatic 90, 3) := by decide +kernel
theorem dX11_set_30 : decode cX11_set 30 = .ok (.ifCond .ne 5, 3) := by decide +kernel
theorem dX11_set_33 : decode cX11_set 33 = .ok (.iconst (-1), 1) := by decide +kernel
theorem dX11_set_34 : decode cX11_set 34 = .ok (.ireturn, 1) := by decide +kernel
theorem dX11_set_35 : decode cX11_set 35 = .ok (.aload_n 0, 1) := by decide +kernel
theorem dX11_set_36 : decode cX11_set 36 = .ok (.getfield 68, 3) := by decide +kernel
theorem dX11_set_39 : decode cX11_set 39 = .ok (.aload_n 0, 1) := by decide +kernel
theorem dX11_set_40 : decode cX11_set 40 = .ok (.getfield 61, 3) := by decide +kernel
theorem dX11_set_43 : decode cX11_set 43 = .ok (.aload_n 0, 1) := by decide +kernel
theorem dX11_set_44 : decode cX11_set 44 = .ok (.getfield 43, 3) := by decide +kernel
theorem dX11_set_47 : decode cX11_set 47 = .ok (.getfield 111, 3) := by decide +kernel
theorem dX11_set_50 : decode cX11_set 50 = .ok (.aload_n 0, 1) := by decide +kernel
theorem dX11_set_51 : decode cX11_set 51 = .ok (.invokevirtual 159, 3) := by decide +kernel
theorem dX11_set_54 : decode cX11_set 54 = .ok (.iload_n 1, 1) := by decide +kernel
theorem dX11_set_55 : decode cX11_set 55 = .ok (.iload_n 2, 1) := by decide +kernel
theorem dX11_set_56 : decode cX11_set 56 = .ok (.invokevirtual 207, 3) := by decide +kernel
theorem dX11_set_59 : decode cX11_set 59 = .ok (.iload_n 3, 1) := by decide +kernel
theorem dX11_set_60 : decode cX11_set 60 = .ok (.ifCond .ne 13, 3) := by decide +kernel
theorem dX11_set_63 : decode cX11_set 63 = .ok (.aload_n 0, 1) := by decide +kernel
theorem dX11_set_64 : decode cX11_set 64 = .ok (.getfield 68, 3) := by decide +kernel
theorem dX11_set_67 : decode cX11_set 67 = .ok (.getfield 211, 3) := by decide +kernel
theorem dX11_set_70 : decode cX11_set 70 = .ok (.goto 10, 3) := by decide +kernel
theorem dX11_set_73 : decode cX11_set 73 = .ok (.aload_n 0, 1) := by decide +kernel
theorem dX11_set_74 : decode cX11_set 74 = .ok (.getfield 68, 3) := by decide +kernel
theorem dX11_set_77 : decode cX11_set 77 = .ok (.getfield 214, 3) := by decide +kernel
theorem dX11_set_80 : decode cX11_set 80 = .ok (.ireturn, 1) := by decide +kernel
theorem dX12_end_0 : decode cX12_end 0 = .ok (.iload_n 1, 1) := by decide +kernel
theorem dX12_end_1 : decode cX12_end 1 = .ok (.ifCond .lt 11, 3) := by decide +kernel
theorem dX12_end_4 : decode cX12_end 4 = .ok (.iload_n 1, 1) := by decide +kernel
theorem dX12_end_5 : decode cX12_end 5 = .ok (.aload_n 0, 1) := by decide +kernel
theorem dX12_end_6 : decode cX12_end 6 = .ok (.getfield 89, 3) := by decide +kernel
theorem dX12_end_9 : decode cX12_end 9 = .ok (.if_icmp .le 5, 3) := by decide +kernel
theorem dX12_end_12 : decode cX12_end 12 = .ok (.iconst (-1), 1) := by decide +kernel
theorem dX12_end_13 : decode cX12_end 13 = .ok (.ireturn, 1) := by decide +kernel
theorem dX12_end_14 : decode cX12_end 14 = .ok (.aload_n 0, 1) := by decide +kernel
theorem dX12_end_15 : decode cX12_end 15 = .ok (.iload_n 1, 1) := by decide +kernel
theorem dX12_end_16 : decode cX12_end 16 = .ok (.putfield 89, 3) := by decide +kernel
theorem dX12_end_19 : decode cX12_end 19 = .ok (.iload_n 1, 1) := by decide +kernel
theorem dX12_end_20 : decode cX12_end 20 = .ok (.ireturn, 1) := by decide +kernel
theorem dX12_one_0 : decode cX12_one 0 = .ok (.iload_n 0, 1) := by decide +kernel
theorem dX12_one_1 : decode cX12_one 1 = .ok (.tableswitch 171 2 14 #[67, 71, 75, 79, 107, 119, 131, 143, 155, 171, 167, 171, 93], 67) := by decide +kernel
theorem dX12_one_68 : decode cX12_one 68 = .ok (.lload_n 1, 1) := by decide +kernel
theorem dX12_one_69 : decode cX12_one 69 = .ok (.lload_n 3, 1) := by decide +kernel
theorem dX12_one_70 : decode cX12_one 70 = .ok (.ladd, 1) := by decide +kernel
theorem dX12_one_71 : decode cX12_one 71 = .ok (.lreturn, 1) := by decide +kernel
theorem dX12_one_72 : decode cX12_one 72 = .ok (.lload_n 1, 1) := by decide +kernel
theorem dX12_one_73 : decode cX12_one 73 = .ok (.lload_n 3, 1) := by decide +kernel
theorem dX12_one_74 : decode cX12_one 74 = .ok (.lsub, 1) := by decide +kernel
theorem dX12_one_75 : decode cX12_one 75 = .ok (.lreturn, 1) := by decide +kernel
theorem dX12_one_76 : decode cX12_one 76 = .ok (.lload_n 1, 1) := by decide +kernel
theorem dX12_one_77 : decode cX12_one 77 = .ok (.lload_n 3, 1) := by decide +kernel
theorem dX12_one_78 : decode cX12_one 78 = .ok (.lmul, 1) := by decide +kernel
theorem dX12_one_79 : decode cX12_one 79 = .ok (.lreturn, 1) := by decide +kernel
theorem dX12_one_80 : decode cX12_one 80 = .ok (.lload_n 3, 1) := by decide +kernel
theorem dX12_one_81 : decode cX12_one 81 = .ok (.lconst 0, 1) := by decide +kernel
theorem dX12_one_82 : decode cX12_one 82 = .ok (.lcmp, 1) := by decide +kernel
theorem dX12_one_83 : decode cX12_one 83 = .ok (.ifCond .ne 7, 3) := by decide +kernel
theorem dX12_one_86 : decode cX12_one 86 = .ok (.lconst 0, 1) := by decide +kernel
theorem dX12_one_87 : decode cX12_one 87 = .ok (.goto 6, 3) := by decide +kernel
theorem dX12_one_90 : decode cX12_one 90 = .ok (.lload_n 1, 1) := by decide +kernel
theorem dX12_one_91 : decode cX12_one 91 = .ok (.lload_n 3, 1) := by decide +kernel
theorem dX12_one_92 : decode cX12_one 92 = .ok (.ldiv, 1) := by decide +kernel
theorem dX12_one_93 : decode cX12_one 93 = .ok (.lreturn, 1) := by decide +kernel
theorem dX12_one_94 : decode cX12_one 94 = .ok (.lload_n 3, 1) := by decide +kernel
theorem dX12_one_95 : decode cX12_one 95 = .ok (.lconst 0, 1) := by decide +kernel
theorem dX12_one_96 : decode cX12_one 96 = .ok (.lcmp, 1) := by decide +kernel
theorem dX12_one_97 : decode cX12_one 97 = .ok (.ifCond .ne 7, 3) := by decide +kernel
theorem dX12_one_100 : decode cX12_one 100 = .ok (.lconst 0, 1) := by decide +kernel
theorem dX12_one_101 : decode cX12_one 101 = .ok (.goto 6, 3) := by decide +kernel
theorem dX12_one_104 : decode cX12_one 104 = .ok (.lload_n 1, 1) := by decide +kernel
theorem dX12_one_105 : decode cX12_one 105 = .ok (.lload_n 3, 1) := by decide +kernel
theorem dX12_one_106 : decode cX12_one 106 = .ok (.lrem, 1) := by decide +kernel
theorem dX12_one_107 : decode cX12_one 107 = .ok (.lreturn, 1) := by decide +kernel
theorem dX12_one_108 : decode cX12_one 108 = .ok (.lload_n 1, 1) := by decide +kernel
theorem dX12_one_109 : decode cX12_one 109 = .ok (.lload_n 3, 1) := by decide +kernel
theorem dX12_one_110 : decode cX12_one 110 = .ok (.lcmp, 1) := by decide +kernel
theorem dX12_one_111 : decode cX12_one 111 = .ok (.ifCond .ge 7, 3) := by decide +kernel
theorem dX12_one_114 : decode cX12_one 114 = .ok (.lconst 1, 1) := by decide +kernel
theorem dX12_one_115 : decode cX12_one 115 = .ok (.goto 4, 3) := by decide +kernel
theorem dX12_one_118 : decode cX12_one 118 = .ok (.lconst 0, 1) := by decide +kernel
theorem dX12_one_119 : decode cX12_one 119 = .ok (.lreturn, 1) := by decide +kernel
theorem dX12_one_120 : decode cX12_one 120 = .ok (.lload_n 1, 1) := by decide +kernel
theorem dX12_one_121 : decode cX12_one 121 = .ok (.lload_n 3, 1) := by decide +kernel
theorem dX12_one_122 : decode cX12_one 122 = .ok (.lcmp, 1) := by decide +kernel
theorem dX12_one_123 : decode cX12_one 123 = .ok (.ifCond .gt 7, 3) := by decide +kernel
theorem dX12_one_126 : decode cX12_one 126 = .ok (.lconst 1, 1) := by decide +kernel
theorem dX12_one_127 : decode cX12_one 127 = .ok (.goto 4, 3) := by decide +kernel
theorem dX12_one_130 : decode cX12_one 130 = .ok (.lconst 0, 1) := by decide +kernel
theorem dX12_one_131 : decode cX12_one 131 = .ok (.lreturn, 1) := by decide +kernel
theorem dX12_one_132 : decode cX12_one 132 = .ok (.lload_n 1, 1) := by decide +kernel
theorem dX12_one_133 : decode cX12_one 133 = .ok (.lload_n 3, 1) := by decide +kernel
theorem dX12_one_134 : decode cX12_one 134 = .ok (.lcmp, 1) := by decide +kernel
theorem dX12_one_135 : decode cX12_one 135 = .ok (.ifCond .ne 7, 3) := by decide +kernel
theorem dX12_one_138 : decode cX12_one 138 = .ok (.lconst 1, 1) := by decide +kernel
theorem dX12_one_139 : decode cX12_one 139 = .ok (.goto 4, 3) := by decide +kernel
theorem dX12_one_142 : decode cX12_one 142 = .ok (.lconst 0, 1) := by decide +kernel
theorem dX12_one_143 : decode cX12_one 143 = .ok (.lreturn, 1) := by decide +kernel
theorem dX12_one_144 : decode cX12_one 144 = .ok (.lload_n 1, 1) := by decide +kernel
theorem dX12_one_145 : decode cX12_one 145 = .ok (.lload_n 3, 1) := by decide +kernel
theorem dX12_one_146 : decode cX12_one 146 = .ok (.lcmp, 1) := by decide +kernel
theorem dX12_one_147 : decode cX12_one 147 = .ok (.ifCond .lt 7, 3) := by decide +kernel
theorem dX12_one_150 : decode cX12_one 150 = .ok (.lconst 1, 1) := by decide +kernel
theorem dX12_one_151 : decode cX12_one 151 = .ok (.goto 4, 3) := by decide +kernel
theorem dX12_one_154 : decode cX12_one 154 = .ok (.lconst 0, 1) := by decide +kernel
theorem dX12_one_155 : decode cX12_one 155 = .ok (.lreturn, 1) := by decide +kernel
theorem dX12_one_156 : decode cX12_one 156 = .ok (.lload_n 1, 1) := by decide +kernel
theorem dX12_one_157 : decode cX12_one 157 = .ok (.lload_n 3, 1) := by decide +kernel
theorem dX12_one_158 : decode cX12_one 158 = .ok (.lcmp, 1) := by decide +kernel
theorem dX12_one_159 : decode cX12_one 159 = .ok (.ifCond .le 7, 3) := by decide +kernel
theorem dX12_one_162 : decode cX12_one 162 = .ok (.lconst 1, 1) := by decide +kernel
theorem dX12_one_163 : decode cX12_one 163 = .ok (.goto 4, 3) := by decide +kernel
theorem dX12_one_166 : decode cX12_one 166 = .ok (.lconst 0, 1) := by decide +kernel
theorem dX12_one_167 : decode cX12_one 167 = .ok (.lreturn, 1) := by decide +kernel
theorem dX12_one_168 : decode cX12_one 168 = .ok (.lload_n 1, 1) := by decide +kernel
theorem dX12_one_169 : decode cX12_one 169 = .ok (.lload_n 3, 1) := by decide +kernel
theorem dX12_one_170 : decode cX12_one 170 = .ok (.land, 1) := by decide +kernel
theorem dX12_one_171 : decode cX12_one 171 = .ok (.lreturn, 1) := by decide +kernel
theorem dX12_one_172 : decode cX12_one 172 = .ok (.lload_n 1, 1) := by decide +kernel
theorem dX12_one_173 : decode cX12_one 173 = .ok (.lload_n 3, 1) := by decide +kernel
theorem dX12_one_174 : decode cX12_one 174 = .ok (.lor, 1) := by decide +kernel
theorem dX12_one_175 : decode cX12_one 175 = .ok (.lreturn, 1) := by decide +kernel
theorem dX12_pop_0 : decode cX12_pop 0 = .ok (.aload_n 0, 1) := by decide +kernel
theorem dX12_pop_1 : decode cX12_pop 1 = .ok (.dup, 1) := by decide +kernel
theorem dX12_pop_2 : decode cX12_pop 2 = .ok (.getfield 279, 3) := by decide +kernel
theorem dX12_pop_5 : decode cX12_pop 5 = .ok (.iconst 1, 1) := by decide +kernel
theorem dX12_pop_6 : decode cX12_pop 6 = .ok (.isub, 1) := by decide +kernel
theorem dX12_pop_7 : decode cX12_pop 7 = .ok (.putfield 279, 3) := by decide +kernel
theorem dX12_pop_10 : decode cX12_pop 10 = .ok (.aload_n 0, 1) := by decide +kernel
theorem dX12_pop_11 : decode cX12_pop 11 = .ok (.getfield 32, 3) := by decide +kernel
theorem dX12_pop_14 : decode cX12_pop 14 = .ok (.aload_n 0, 1) := by decide +kernel
theorem dX12_pop_15 : decode cX12_pop 15 = .ok (.getfield 279, 3) := by decide +kernel
theorem dX12_pop_18 : decode cX12_pop 18 = .ok (.laload, 1) := by decide +kernel
theorem dX12_pop_19 : decode cX12_pop 19 = .ok (.lreturn, 1) := by decide +kernel
theorem dX12_row_0 : decode cX12_row 0 = .ok (.aload_n 0, 1) := by decide +kernel
theorem dX12_row_1 : decode cX12_row 1 = .ok (.iload_n 1, 1) := by decide +kernel
theorem dX12_row_2 : decode cX12_row 2 = .ok (.invokevirtual 314, 3) := by decide +kernel
theorem dX12_row_5 : decode cX12_row 5 = .ok (.ifCond .eq 35, 3) := by decide +kernel
theorem dX12_row_8 : decode cX12_row 8 = .ok (.aload_n 0, 1) := by decide +kernel
theorem dX12_row_9 : decode cX12_row 9 = .ok (.iload_n 1, 1) := by decide +kernel
theorem dX12_row_10 : decode cX12_row 10 = .ok (.invokevirtual 320, 3) := by decide +kernel
theorem dX12_row_13 : decode cX12_row 13 = .ok (.ifCond .eq 27, 3) := by decide +kernel
theorem dX12_row_16 : decode cX12_row 16 = .ok (.iload_n 2, 1) := by decide +kernel
theorem dX12_row_17 : decode cX12_row 17 = .ok (.i2l, 1) := by decide +kernel
theorem dX12_row_18 : decode cX12_row 18 = .ok (.lconst 1, 1) := by decide +kernel
theorem dX12_row_19 : decode cX12_row 19 = .ok (.ldc2_w 399, 3) := by decide +kernel
theorem dX12_row_22 : decode cX12_row 22 = .ok (.invokestatic 127, 3) := by decide +kernel
theorem dX12_row_25 : decode cX12_row 25 = .ok (.ifCond .eq 15, 3) := by decide +kernel
theorem dX12_row_28 : decode cX12_row 28 = .ok (.iload_n 3, 1) := by decide +kernel
theorem dX12_row_29 : decode cX12_row 29 = .ok (.i2l, 1) := by decide +kernel
theorem dX12_row_30 : decode cX12_row 30 = .ok (.lconst 0, 1) := by decide +kernel
theorem dX12_row_31 : decode cX12_row 31 = .ok (.ldc2_w 399, 3) := by decide +kernel
theorem dX12_row_34 : decode cX12_row 34 = .ok (.invokestatic 127, 3) := by decide +kernel
theorem dX12_row_37 : decode cX12_row 37 = .ok (.ifCond .ne 6, 3) := by decide +kernel
theorem dX12_row_40 : decode cX12_row 40 = .ok (.bipush (-3), 2) := by decide +kernel
theorem dX12_row_42 : decode cX12_row 42 = .ok (.ireturn, 1) := by decide +kernel
theorem dX12_row_43 : decode cX12_row 43 = .ok (.aload_n 0, 1) := by decide +kernel
theorem dX12_row_44 : decode cX12_row 44 = .ok (.iload_n 1, 1) := by decide +kernel
theorem dX12_row_45 : decode cX12_row 45 = .ok (.iload_n 2, 1) := by decide +kernel
theorem dX12_row_46 : decode cX12_row 46 = .ok (.invokevirtual 401, 3) := by decide +kernel
theorem dX12_row_49 : decode cX12_row 49 = .ok (.istore 4, 2) := by decide +kernel
theorem dX12_row_51 : decode cX12_row 51 = .ok (.iload_n 3, 1) := by decide +kernel
theorem dX12_row_52 : decode cX12_row 52 = .ok (.ifCond .ne 8, 3) := by decide +kernel
theorem dX12_row_55 : decode cX12_row 55 = .ok (.iload 4, 2) := by decide +kernel
theorem dX12_row_57 : decode cX12_row 57 = .ok (.goto 21, 3) := by decide +kernel
theorem dX12_row_60 : decode cX12_row 60 = .ok (.iload_n 3, 1) := by decide +kernel
theorem dX12_row_61 : decode cX12_row 61 = .ok (.iload_n 2, 1) := by decide +kernel
theorem dX12_row_62 : decode cX12_row 62 = .ok (.if_icmp .gt 14, 3) := by decide +kernel
theorem dX12_row_65 : decode cX12_row 65 = .ok (.aload_n 0, 1) := by decide +kernel
theorem dX12_row_66 : decode cX12_row 66 = .ok (.getfield 64, 3) := by decide +kernel
theorem dX12_row_69 : decode cX12_row 69 = .ok (.iload_n 3, 1) := by decide +kernel
theorem dX12_row_70 : decode cX12_row 70 = .ok (.iconst 1, 1) := by decide +kernel
theorem dX12_row_71 : decode cX12_row 71 = .ok (.isub, 1) := by decide +kernel
theorem dX12_row_72 : decode cX12_row 72 = .ok (.iaload, 1) := by decide +kernel
theorem dX12_row_73 : decode cX12_row 73 = .ok (.goto 5, 3) := by decide +kernel
theorem dX12_row_76 : decode cX12_row 76 = .ok (.bipush (-2), 2) := by decide +kernel
theorem dX12_row_78 : decode cX12_row 78 = .ok (.ireturn, 1) := by decide +kernel
theorem dX12_see_0 : decode cX12_see 0 = .ok (.aload_n 0, 1) := by decide +kernel
theorem dX12_see_1 : decode cX12_see 1 = .ok (.getfield 99, 3) := by decide +kernel
theorem dX12_see_4 : decode cX12_see 4 = .ok (.aload_n 0, 1) := by decide +kernel
theorem dX12_see_5 : decode cX12_see 5 = .ok (.getfield 89, 3) := by decide +kernel
theorem dX12_see_8 : decode cX12_see 8 = .ok (.if_icmp .ge 30, 3) := by decide +kernel
theorem dX12_see_11 : decode cX12_see 11 = .ok (.aload_n 0, 1) := by decide +kernel
theorem dX12_see_12 : decode cX12_see 12 = .ok (.getfield 7, 3) := by decide +kernel
theorem dX12_see_15 : decode cX12_see 15 = .ok (.aload_n 0, 1) := by decide +kernel
theorem dX12_see_16 : decode cX12_see 16 = .ok (.getfield 99, 3) := by decide +kernel
theorem dX12_see_19 : decode cX12_see 19 = .ok (.baload, 1) := by decide +kernel
theorem dX12_see_20 : decode cX12_see 20 = .ok (.bipush 32, 2) := by decide +kernel
theorem dX12_see_22 : decode cX12_see 22 = .ok (.if_icmp .ne 16, 3) := by decide +kernel
theorem dX12_see_25 : decode cX12_see 25 = .ok (.aload_n 0, 1) := by decide +kernel
theorem dX12_see_26 : decode cX12_see 26 = .ok (.dup, 1) := by decide +kernel
theorem dX12_see_27 : decode cX12_see 27 = .ok (.getfield 99, 3) := by decide +kernel
theorem dX12_see_30 : decode cX12_see 30 = .ok (.iconst 1, 1) := by decide +kernel
theorem dX12_see_31 : decode cX12_see 31 = .ok (.iadd, 1) := by decide +kernel
theorem dX12_see_32 : decode cX12_see 32 = .ok (.putfield 99, 3) := by decide +kernel
theorem dX12_see_35 : decode cX12_see 35 = .ok (.goto (-35), 3) := by decide +kernel
theorem dX12_see_38 : decode cX12_see 38 = .ok (.aload_n 0, 1) := by decide +kernel
theorem dX12_see_39 : decode cX12_see 39 = .ok (.getfield 99, 3) := by decide +kernel
theorem dX12_see_42 : decode cX12_see 42 = .ok (.aload_n 0, 1) := by decide +kernel
theorem dX12_see_43 : decode cX12_see 43 = .ok (.getfield 89, 3) := by decide +kernel
theorem dX12_see_46 : decode cX12_see 46 = .ok (.if_icmp .ge 19, 3) := by decide +kernel
theorem dX12_see_49 : decode cX12_see 49 = .ok (.aload_n 0, 1) := by decide +kernel
theorem dX12_see_50 : decode cX12_see 50 = .ok (.getfield 7, 3) := by decide +kernel
theorem dX12_see_53 : decode cX12_see 53 = .ok (.aload_n 0, 1) := by decide +kernel
theorem dX12_see_54 : decode cX12_see 54 = .ok (.getfield 99, 3) := by decide +kernel
theorem dX12_see_57 : decode cX12_see 57 = .ok (.baload, 1) := by decide +kernel
theorem dX12_see_58 : decode cX12_see 58 = .ok (.sipush 255, 3) := by decide +kernel
theorem dX12_see_61 : decode cX12_see 61 = .ok (.iand, 1) := by decide +kernel
theorem dX12_see_62 : decode cX12_see 62 = .ok (.goto 4, 3) := by decide +kernel
theorem dX12_see_65 : decode cX12_see 65 = .ok (.iconst (-1), 1) := by decide +kernel
theorem dX12_see_66 : decode cX12_see 66 = .ok (.ireturn, 1) := by decide +kernel
theorem dX12_set_0 : decode cX12_set 0 = .ok (.aload_n 0, 1) := by decide +kernel
theorem dX12_set_1 : decode cX12_set 1 = .ok (.iload_n 1, 1) := by decide +kernel
theorem dX12_set_2 : decode cX12_set 2 = .ok (.invokevirtual 309, 3) := by decide +kernel
theorem dX12_set_5 : decode cX12_set 5 = .ok (.ifCond .eq 25, 3) := by decide +kernel
theorem dX12_set_8 : decode cX12_set 8 = .ok (.iload_n 2, 1) := by decide +kernel
theorem dX12_set_9 : decode cX12_set 9 = .ok (.i2l, 1) := by decide +kernel
theorem dX12_set_10 : decode cX12_set 10 = .ok (.lconst 1, 1) := by decide +kernel
theorem dX12_set_11 : decode cX12_set 11 = .ok (.ldc2_w 404, 3) := by decide +kernel
theorem dX12_set_14 : decode cX12_set 14 = .ok (.invokestatic 127, 3) := by decide +kernel
theorem dX12_set_17 : decode cX12_set 17 = .ok (.ifCond .eq 13, 3) := by decide +kernel
theorem dX12_set_20 : decode cX12_set 20 = .ok (.iload_n 3, 1) := by decide +kernel
theorem dX12_set_21 : decode cX12_set 21 = .ok (.i2l, 1) := by decide +kernel
theorem dX12_set_22 : decode cX12_set 22 = .ok (.lconst 0, 1) := by decide +kernel
theorem dX12_set_23 : decode cX12_set 23 = .ok (.lconst 1, 1) := by decide +kernel
theorem dX12_set_24 : decode cX12_set 24 = .ok (.invokestatic 127, 3) := by decide +kernel
theorem dX12_set_27 : decode cX12_set 27 = .ok (.ifCond .ne 5, 3) := by decide +kernel
theorem dX12_set_30 : decode cX12_set 30 = .ok (.iconst (-1), 1) := by decide +kernel
theorem dX12_set_31 : decode cX12_set 31 = .ok (.ireturn, 1) := by decide +kernel
theorem dX12_set_32 : decode cX12_set 32 = .ok (.aload_n 0, 1) := by decide +kernel
theorem dX12_set_33 : decode cX12_set 33 = .ok (.invokevirtual 372, 3) := by decide +kernel
theorem dX12_set_36 : decode cX12_set 36 = .ok (.aload_n 0, 1) := by decide +kernel
theorem dX12_set_37 : decode cX12_set 37 = .ok (.getfield 39, 3) := by decide +kernel
theorem dX12_set_40 : decode cX12_set 40 = .ok (.bipush 13, 2) := by decide +kernel
theorem dX12_set_42 : decode cX12_set 42 = .ok (.iload_n 1, 1) := by decide +kernel
theorem dX12_set_43 : decode cX12_set 43 = .ok (.iadd, 1) := by decide +kernel
theorem dX12_set_44 : decode cX12_set 44 = .ok (.iaload, 1) := by decide +kernel
theorem dX12_set_45 : decode cX12_set 45 = .ok (.istore 4, 2) := by decide +kernel
theorem dX12_set_47 : decode cX12_set 47 = .ok (.aload_n 0, 1) := by decide +kernel
theorem dX12_set_48 : decode cX12_set 48 = .ok (.iload_n 2, 1) := by decide +kernel
theorem dX12_set_49 : decode cX12_set 49 = .ok (.invokevirtual 406, 3) := by decide +kernel
theorem dX12_set_52 : decode cX12_set 52 = .ok (.istore 5, 2) := by decide +kernel
theorem dX12_set_54 : decode cX12_set 54 = .ok (.iconst 0, 1) := by decide +kernel
theorem dX12_set_55 : decode cX12_set 55 = .ok (.istore 6, 2) := by decide +kernel
theorem dX12_set_57 : decode cX12_set 57 = .ok (.iload 6, 2) := by decide +kernel
theorem dX12_set_59 : decode cX12_set 59 = .ok (.aload_n 0, 1) := by decide +kernel
theorem dX12_set_60 : decode cX12_set 60 = .ok (.getfield 39, 3) := by decide +kernel
theorem dX12_set_63 : decode cX12_set 63 = .ok (.iconst 1, 1) := by decide +kernel
theorem dX12_set_64 : decode cX12_set 64 = .ok (.iaload, 1) := by decide +kernel
theorem dX12_set_65 : decode cX12_set 65 = .ok (.if_icmp .ge 57, 3) := by decide +kernel
theorem dX12_set_68 : decode cX12_set 68 = .ok (.aload_n 0, 1) := by decide +kernel
theorem dX12_set_69 : decode cX12_set 69 = .ok (.iload 6, 2) := by decide +kernel
theorem dX12_set_71 : decode cX12_set 71 = .ok (.invokevirtual 345, 3) := by decide +kernel
theorem dX12_set_74 : decode cX12_set 74 = .ok (.ifCond .lt 6, 3) := by decide +kernel
theorem dX12_set_77 : decode cX12_set 77 = .ok (.goto 39, 3) := by decide +kernel
theorem dX12_set_80 : decode cX12_set 80 = .ok (.aload_n 0, 1) := by decide +kernel
theorem dX12_set_81 : decode cX12_set 81 = .ok (.getfield 39, 3) := by decide +kernel
theorem dX12_set_84 : decode cX12_set 84 = .ok (.bipush 13, 2) := by decide +kernel
theorem dX12_set_86 : decode cX12_set 86 = .ok (.iload_n 1, 1) := by decide +kernel
theorem dX12_set_87 : decode cX12_set 87 = .ok (.iadd, 1) := by decide +kernel
theorem dX12_set_88 : decode cX12_set 88 = .ok (.iload 6, 2) := by decide +kernel
theorem dX12_set_90 : decode cX12_set 90 = .ok (.iastore, 1) := by decide +kernel
theorem dX12_set_91 : decode cX12_set 91 = .ok (.aload_n 0, 1) := by decide +kernel
theorem dX12_set_92 : decode cX12_set 92 = .ok (.iload_n 2, 1) := by decide +kernel
theorem dX12_set_93 : decode cX12_set 93 = .ok (.invokevirtual 406, 3) := by decide +kernel
theorem dX12_set_96 : decode cX12_set 96 = .ok (.istore 7, 2) := by decide +kernel
theorem dX12_set_98 : decode cX12_set 98 = .ok (.iload 7, 2) := by decide +kernel
theorem dX12_set_100 : decode cX12_set 100 = .ok (.iload 5, 2) := by decide +kernel
theorem dX12_set_102 : decode cX12_set 102 = .ok (.if_icmp .gt 6, 3) := by decide +kernel
theorem dX12_set_105 : decode cX12_set 105 = .ok (.goto 11, 3) := by decide +kernel
theorem dX12_set_108 : decode cX12_set 108 = .ok (.iload 6, 2) := by decide +kernel
theorem dX12_set_110 : decode cX12_set 110 = .ok (.istore 4, 2) := by decide +kernel
theorem dX12_set_112 : decode cX12_set 112 = .ok (.iload 7, 2) := by decide +kernel
theorem dX12_set_114 : decode cX12_set 114 = .ok (.istore 5, 2) := by decide +kernel
theorem dX12_set_116 : decode cX12_set 116 = .ok (.iinc 6 1, 3) := by decide +kernel
theorem dX12_set_119 : decode cX12_set 119 = .ok (.goto (-62), 3) := by decide +kernel
theorem dX12_set_122 : decode cX12_set 122 = .ok (.iload_n 3, 1) := by decide +kernel
theorem dX12_set_123 : decode cX12_set 123 = .ok (.ifCond .ne 8, 3) := by decide +kernel
theorem dX12_set_126 : decode cX12_set 126 = .ok (.iload 4, 2) := by decide +kernel
theorem dX12_set_128 : decode cX12_set 128 = .ok (.goto 5, 3) := by decide +kernel
theorem dX12_set_131 : decode cX12_set 131 = .ok (.iload 5, 2) := by decide +kernel
theorem dX12_set_133 : decode cX12_set 133 = .ok (.ireturn, 1) := by decide +kernel
theorem dX12_sum_0 : decode cX12_sum 0 = .ok (.aload_n 0, 1) := by decide +kernel
theorem dX12_sum_1 : decode cX12_sum 1 = .ok (.invokevirtual 191, 3) := by decide +kernel
theorem dX12_sum_4 : decode cX12_sum 4 = .ok (.ifCond .ne 5, 3) := by decide +kernel
theorem dX12_sum_7 : decode cX12_sum 7 = .ok (.iconst 0, 1) := by decide +kernel
theorem dX12_sum_8 : decode cX12_sum 8 = .ok (.ireturn, 1) := by decide +kernel
theorem dX12_sum_9 : decode cX12_sum 9 = .ok (.aload_n 0, 1) := by decide +kernel
theorem dX12_sum_10 : decode cX12_sum 10 = .ok (.invokevirtual 102, 3) := by decide +kernel
theorem dX12_sum_13 : decode cX12_sum 13 = .ok (.bipush 43, 2) := by decide +kernel
theorem dX12_sum_15 : decode cX12_sum 15 = .ok (.if_icmp .eq 12, 3) := by decide +kernel
theorem dX12_sum_18 : decode cX12_sum 18 = .ok (.aload_n 0, 1) := by decide +kernel
theorem dX12_sum_19 : decode cX12_sum 19 = .ok (.invokevirtual 102, 3) := by decide +kernel
theorem dX12_sum_22 : decode cX12_sum 22 = .ok (.bipush 45, 2) := by decide +kernel
theorem dX12_sum_24 : decode cX12_sum 24 = .ok (.if_icmp .ne 51, 3) := by decide +kernel
theorem dX12_sum_27 : decode cX12_sum 27 = .ok (.aload_n 0, 1) := by decide +kernel
theorem dX12_sum_28 : decode cX12_sum 28 = .ok (.getfield 7, 3) := by decide +kernel
theorem dX12_sum_31 : decode cX12_sum 31 = .ok (.aload_n 0, 1) := by decide +kernel
theorem dX12_sum_32 : decode cX12_sum 32 = .ok (.getfield 99, 3) := by decide +kernel
theorem dX12_sum_35 : decode cX12_sum 35 = .ok (.baload, 1) := by decide +kernel
theorem dX12_sum_36 : decode cX12_sum 36 = .ok (.bipush 43, 2) := by decide +kernel
theorem dX12_sum_38 : decode cX12_sum 38 = .ok (.if_icmp .ne 7, 3) := by decide +kernel
theorem dX12_sum_41 : decode cX12_sum 41 = .ok (.iconst 2, 1) := by decide +kernel
theorem dX12_sum_42 : decode cX12_sum 42 = .ok (.goto 4, 3) := by decide +kernel
theorem dX12_sum_45 : decode cX12_sum 45 = .ok (.iconst 3, 1) := by decide +kernel
theorem dX12_sum_46 : decode cX12_sum 46 = .ok (.istore_n 1, 1) := by decide +kernel
theorem dX12_sum_47 : decode cX12_sum 47 = .ok (.aload_n 0, 1) := by decide +kernel
theorem dX12_sum_48 : decode cX12_sum 48 = .ok (.dup, 1) := by decide +kernel
theorem dX12_sum_49 : decode cX12_sum 49 = .ok (.getfield 99, 3) := by decide +kernel
theorem dX12_sum_52 : decode cX12_sum 52 = .ok (.iconst 1, 1) := by decide +kernel
theorem dX12_sum_53 : decode cX12_sum 53 = .ok (.iadd, 1) := by decide +kernel
theorem dX12_sum_54 : decode cX12_sum 54 = .ok (.putfield 99, 3) := by decide +kernel
theorem dX12_sum_57 : decode cX12_sum 57 = .ok (.aload_n 0, 1) := by decide +kernel
theorem dX12_sum_58 : decode cX12_sum 58 = .ok (.invokevirtual 191, 3) := by decide +kernel
theorem dX12_sum_61 : decode cX12_sum 61 = .ok (.ifCond .ne 5, 3) := by decide +kernel
theorem dX12_sum_64 : decode cX12_sum 64 = .ok (.iconst 0, 1) := by decide +kernel
theorem dX12_sum_65 : decode cX12_sum 65 = .ok (.ireturn, 1) := by decide +kernel
theorem dX12_sum_66 : decode cX12_sum 66 = .ok (.aload_n 0, 1) := by decide +kernel
theorem dX12_sum_67 : decode cX12_sum 67 = .ok (.iload_n 1, 1) := by decide +kernel
theorem dX12_sum_68 : decode cX12_sum 68 = .ok (.iconst 0, 1) := by decide +kernel
theorem dX12_sum_69 : decode cX12_sum 69 = .ok (.invokevirtual 173, 3) := by decide +kernel
theorem dX12_sum_72 : decode cX12_sum 72 = .ok (.goto (-63), 3) := by decide +kernel
theorem dX12_sum_75 : decode cX12_sum 75 = .ok (.iconst 1, 1) := by decide +kernel
theorem dX12_sum_76 : decode cX12_sum 76 = .ok (.ireturn, 1) := by decide +kernel
theorem dX1_init_0 : decode cX1_init 0 = .ok (.aload_n 0, 1) := by decide +kernel
theorem dX1_init_1 : decode cX1_init 1 = .ok (.invokespecial 5, 3) := by decide +kernel
theorem dX1_init_4 : decode cX1_init 4 = .ok (.aload_n 0, 1) := by decide +kernel
theorem dX1_init_5 : decode cX1_init 5 = .ok (.bipush 63, 2) := by decide +kernel
theorem dX1_init_7 : decode cX1_init 7 = .ok (.newarray .int, 2) := by decide +kernel
theorem dX1_init_9 : decode cX1_init 9 = .ok (.putfield 11, 3) := by decide +kernel
theorem dX1_init_12 : decode cX1_init 12 = .ok (.return_, 1) := by decide +kernel
theorem dX2_init_0 : decode cX2_init 0 = .ok (.aload_n 0, 1) := by decide +kernel
theorem dX2_init_1 : decode cX2_init 1 = .ok (.invokespecial 3, 3) := by decide +kernel
theorem dX2_init_4 : decode cX2_init 4 = .ok (.aload_n 0, 1) := by decide +kernel
theorem dX2_init_5 : decode cX2_init 5 = .ok (.iconst (-1), 1) := by decide +kernel
theorem dX2_init_6 : decode cX2_init 6 = .ok (.putfield 9, 3) := by decide +kernel
theorem dX2_init_9 : decode cX2_init 9 = .ok (.aload_n 0, 1) := by decide +kernel
theorem dX2_init_10 : decode cX2_init 10 = .ok (.iconst 0, 1) := by decide +kernel
theorem dX2_init_11 : decode cX2_init 11 = .ok (.putfield 15, 3) := by decide +kernel
theorem dX2_init_14 : decode cX2_init 14 = .ok (.aload_n 0, 1) := by decide +kernel
theorem dX2_init_15 : decode cX2_init 15 = .ok (.iconst 0, 1) := by decide +kernel
theorem dX2_init_16 : decode cX2_init 16 = .ok (.putfield 18, 3) := by decide +kernel
theorem dX2_init_19 : decode cX2_init 19 = .ok (.aload_n 0, 1) := by decide +kernel
theorem dX2_init_20 : decode cX2_init 20 = .ok (.bipush 36, 2) := by decide +kernel
theorem dX2_init_22 : decode cX2_init 22 = .ok (.newarray .int, 2) := by decide +kernel
theorem dX2_init_24 : decode cX2_init 24 = .ok (.putfield 21, 3) := by decide +kernel
theorem dX2_init_27 : decode cX2_init 27 = .ok (.aload_n 0, 1) := by decide +kernel
theorem dX2_init_28 : decode cX2_init 28 = .ok (.bipush 36, 2) := by decide +kernel
theorem dX2_init_30 : decode cX2_init 30 = .ok (.newarray .int, 2) := by decide +kernel
theorem dX2_init_32 : decode cX2_init 32 = .ok (.putfield 25, 3) := by decide +kernel
theorem dX2_init_35 : decode cX2_init 35 = .ok (.return_, 1) := by decide +kernel
theorem dX3_init_0 : decode cX3_init 0 = .ok (.aload_n 0, 1) := by decide +kernel
theorem dX3_init_1 : decode cX3_init 1 = .ok (.invokespecial 3, 3) := by decide +kernel
theorem dX3_init_4 : decode cX3_init 4 = .ok (.aload_n 0, 1) := by decide +kernel
theorem dX3_init_5 : decode cX3_init 5 = .ok (.new 9, 3) := by decide +kernel
theorem dX3_init_8 : decode cX3_init 8 = .ok (.dup, 1) := by decide +kernel
theorem dX3_init_9 : decode cX3_init 9 = .ok (.invokespecial 11, 3) := by decide +kernel
theorem dX3_init_12 : decode cX3_init 12 = .ok (.putfield 12, 3) := by decide +kernel
theorem dX3_init_15 : decode cX3_init 15 = .ok (.return_, 1) := by decide +kernel
theorem dX4_init_0 : decode cX4_init 0 = .ok (.aload_n 0, 1) := by decide +kernel
theorem dX4_init_1 : decode cX4_init 1 = .ok (.invokespecial 3, 3) := by decide +kernel
theorem dX4_init_4 : decode cX4_init 4 = .ok (.aload_n 0, 1) := by decide +kernel
theorem dX4_init_5 : decode cX4_init 5 = .ok (.new 9, 3) := by decide +kernel
theorem dX4_init_8 : decode cX4_init 8 = .ok (.dup, 1) := by decide +kernel
theorem dX4_init_9 : decode cX4_init 9 = .ok (.invokespecial 11, 3) := by decide +kernel
theorem dX4_init_12 : decode cX4_init 12 = .ok (.putfield 12, 3) := by decide +kernel
theorem dX4_init_15 : decode cX4_init 15 = .ok (.aload_n 0, 1) := by decide +kernel
theorem dX4_init_16 : decode cX4_init 16 = .ok (.new 9, 3) := by decide +kernel
theorem dX4_init_19 : decode cX4_init 19 = .ok (.dup, 1) := by decide +kernel
theorem dX4_init_20 : decode cX4_init 20 = .ok (.invokespecial 11, 3) := by decide +kernel
theorem dX4_init_23 : decode cX4_init 23 = .ok (.putfield 18, 3) := by decide +kernel
theorem dX4_init_26 : decode cX4_init 26 = .ok (.aload_n 0, 1) := by decide +kernel
theorem dX4_init_27 : decode cX4_init 27 = .ok (.new 21, 3) := by decide +kernel
theorem dX4_init_30 : decode cX4_init 30 = .ok (.dup, 1) := by decide +kernel
theorem dX4_init_31 : decode cX4_init 31 = .ok (.invokespecial 23, 3) := by decide +kernel
theorem dX4_init_34 : decode cX4_init 34 = .ok (.putfield 24, 3) := by decide +kernel
theorem dX4_init_37 : decode cX4_init 37 = .ok (.aload_n 0, 1) := by decide +kernel
theorem dX4_init_38 : decode cX4_init 38 = .ok (.iconst (-1), 1) := by decide +kernel
theorem dX4_init_39 : decode cX4_init 39 = .ok (.putfield 28, 3) := by decide +kernel
theorem dX4_init_42 : decode cX4_init 42 = .ok (.aload_n 0, 1) := by decide +kernel
theorem dX4_init_43 : decode cX4_init 43 = .ok (.iconst 0, 1) := by decide +kernel
theorem dX4_init_44 : decode cX4_init 44 = .ok (.putfield 32, 3) := by decide +kernel
theorem dX4_init_47 : decode cX4_init 47 = .ok (.aload_n 0, 1) := by decide +kernel
theorem dX4_init_48 : decode cX4_init 48 = .ok (.iconst 0, 1) := by decide +kernel
theorem dX4_init_49 : decode cX4_init 49 = .ok (.putfield 35, 3) := by decide +kernel
theorem dX4_init_52 : decode cX4_init 52 = .ok (.return_, 1) := by decide +kernel
theorem dX5_init_0 : decode cX5_init 0 = .ok (.aload_n 0, 1) := by decide +kernel
theorem dX5_init_1 : decode cX5_init 1 = .ok (.invokespecial 3, 3) := by decide +kernel
theorem dX5_init_4 : decode cX5_init 4 = .ok (.aload_n 0, 1) := by decide +kernel
theorem dX5_init_5 : decode cX5_init 5 = .ok (.bipush 10, 2) := by decide +kernel
theorem dX5_init_7 : decode cX5_init 7 = .ok (.newarray .int, 2) := by decide +kernel
theorem dX5_init_9 : decode cX5_init 9 = .ok (.putfield 11, 3) := by decide +kernel
theorem dX5_init_12 : decode cX5_init 12 = .ok (.aload_n 0, 1) := by decide +kernel
theorem dX5_init_13 : decode cX5_init 13 = .ok (.bipush 10, 2) := by decide +kernel
theorem dX5_init_15 : decode cX5_init 15 = .ok (.newarray .int, 2) := by decide +kernel
theorem dX5_init_17 : decode cX5_init 17 = .ok (.putfield 15, 3) := by decide +kernel
theorem dX5_init_20 : decode cX5_init 20 = .ok (.aload_n 0, 1) := by decide +kernel
theorem dX5_init_21 : decode cX5_init 21 = .ok (.bipush 10, 2) := by decide +kernel
theorem dX5_init_23 : decode cX5_init 23 = .ok (.newarray .int, 2) := by decide +kernel
theorem dX5_init_25 : decode cX5_init 25 = .ok (.putfield 18, 3) := by decide +kernel
theorem dX5_init_28 : decode cX5_init 28 = .ok (.aload_n 0, 1) := by decide +kernel
theorem dX5_init_29 : decode cX5_init 29 = .ok (.iconst 0, 1) := by decide +kernel
theorem dX5_init_30 : decode cX5_init 30 = .ok (.putfield 21, 3) := by decide +kernel
theorem dX5_init_33 : decode cX5_init 33 = .ok (.return_, 1) := by decide +kernel
theorem dX6_init_0 : decode cX6_init 0 = .ok (.aload_n 0, 1) := by decide +kernel
theorem dX6_init_1 : decode cX6_init 1 = .ok (.invokespecial 3, 3) := by decide +kernel
theorem dX6_init_4 : decode cX6_init 4 = .ok (.aload_n 0, 1) := by decide +kernel
theorem dX6_init_5 : decode cX6_init 5 = .ok (.new 9, 3) := by decide +kernel
theorem dX6_init_8 : decode cX6_init 8 = .ok (.dup, 1) := by decide +kernel
theorem dX6_init_9 : decode cX6_init 9 = .ok (.invokespecial 11, 3) := by decide +kernel
theorem dX6_init_12 : decode cX6_init 12 = .ok (.putfield 12, 3) := by decide +kernel
theorem dX6_init_15 : decode cX6_init 15 = .ok (.aload_n 0, 1) := by decide +kernel
theorem dX6_init_16 : decode cX6_init 16 = .ok (.iconst 5, 1) := by decide +kernel
theorem dX6_init_17 : decode cX6_init 17 = .ok (.newarray .int, 2) := by decide +kernel
theorem dX6_init_19 : decode cX6_init 19 = .ok (.putfield 18, 3) := by decide +kernel
theorem dX6_init_22 : decode cX6_init 22 = .ok (.aload_n 0, 1) := by decide +kernel
theorem dX6_init_23 : decode cX6_init 23 = .ok (.iconst 5, 1) := by decide +kernel
theorem dX6_init_24 : decode cX6_init 24 = .ok (.newarray .int, 2) := by decide +kernel
theorem dX6_init_26 : decode cX6_init 26 = .ok (.putfield 22, 3) := by decide +kernel
theorem dX6_init_29 : decode cX6_init 29 = .ok (.aload_n 0, 1) := by decide +kernel
theorem dX6_init_30 : decode cX6_init 30 = .ok (.iconst (-1), 1) := by decide +kernel
theorem dX6_init_31 : decode cX6_init 31 = .ok (.putfield 25, 3) := by decide +kernel
theorem dX6_init_34 : decode cX6_init 34 = .ok (.aload_n 0, 1) := by decide +kernel
theorem dX6_init_35 : decode cX6_init 35 = .ok (.iconst 0, 1) := by decide +kernel
theorem dX6_init_36 : decode cX6_init 36 = .ok (.putfield 29, 3) := by decide +kernel
theorem dX6_init_39 : decode cX6_init 39 = .ok (.aload_n 0, 1) := by decide +kernel
theorem dX6_init_40 : decode cX6_init 40 = .ok (.aconst_null, 1) := by decide +kernel
theorem dX6_init_41 : decode cX6_init 41 = .ok (.putfield 33, 3) := by decide +kernel
theorem dX6_init_44 : decode cX6_init 44 = .ok (.aload_n 0, 1) := by decide +kernel
theorem dX6_init_45 : decode cX6_init 45 = .ok (.bipush 13, 2) := by decide +kernel
theorem dX6_init_47 : decode cX6_init 47 = .ok (.newarray .long, 2) := by decide +kernel
theorem dX6_init_49 : decode cX6_init 49 = .ok (.putfield 39, 3) := by decide +kernel
theorem dX6_init_52 : decode cX6_init 52 = .ok (.aload_n 0, 1) := by decide +kernel
theorem dX6_init_53 : decode cX6_init 53 = .ok (.bipush 64, 2) := by decide +kernel
theorem dX6_init_55 : decode cX6_init 55 = .ok (.newarray .long, 2) := by decide +kernel
theorem dX6_init_57 : decode cX6_init 57 = .ok (.putfield 43, 3) := by decide +kernel
theorem dX6_init_60 : decode cX6_init 60 = .ok (.return_, 1) := by decide +kernel
theorem dX7_init_0 : decode cX7_init 0 = .ok (.aload_n 0, 1) := by decide +kernel
theorem dX7_init_1 : decode cX7_init 1 = .ok (.invokespecial 1, 3) := by decide +kernel
theorem dX7_init_4 : decode cX7_init 4 = .ok (.aload_n 0, 1) := by decide +kernel
theorem dX7_init_5 : decode cX7_init 5 = .ok (.aload_n 1, 1) := by decide +kernel
theorem dX7_init_6 : decode cX7_init 6 = .ok (.putfield 7, 3) := by decide +kernel
theorem dX7_init_9 : decode cX7_init 9 = .ok (.iconst 0, 1) := by decide +kernel
theorem dX7_init_10 : decode cX7_init 10 = .ok (.istore_n 2, 1) := by decide +kernel
theorem dX7_init_11 : decode cX7_init 11 = .ok (.iconst 0, 1) := by decide +kernel
theorem dX7_init_12 : decode cX7_init 12 = .ok (.istore_n 3, 1) := by decide +kernel
theorem dX7_init_13 : decode cX7_init 13 = .ok (.iload_n 3, 1) := by decide +kernel
theorem dX7_init_14 : decode cX7_init 14 = .ok (.aload_n 1, 1) := by decide +kernel
theorem dX7_init_15 : decode cX7_init 15 = .ok (.arraylength, 1) := by decide +kernel
theorem dX7_init_16 : decode cX7_init 16 = .ok (.if_icmp .ge 28, 3) := by decide +kernel
theorem dX7_init_19 : decode cX7_init 19 = .ok (.iload_n 2, 1) := by decide +kernel
theorem dX7_init_20 : decode cX7_init 20 = .ok (.ifCond .ne 12, 3) := by decide +kernel
theorem dX7_init_23 : decode cX7_init 23 = .ok (.aload_n 1, 1) := by decide +kernel
theorem dX7_init_24 : decode cX7_init 24 = .ok (.iload_n 3, 1) := by decide +kernel
theorem dX7_init_25 : decode cX7_init 25 = .ok (.iaload, 1) := by decide +kernel
theorem dX7_init_26 : decode cX7_init 26 = .ok (.sipush 385, 3) := by decide +kernel
theorem dX7_init_29 : decode cX7_init 29 = .ok (.if_icmp .ne 7, 3) := by decide +kernel
theorem dX7_init_32 : decode cX7_init 32 = .ok (.iconst 1, 1) := by decide +kernel
theorem dX7_init_33 : decode cX7_init 33 = .ok (.goto 4, 3) := by decide +kernel
theorem dX7_init_36 : decode cX7_init 36 = .ok (.iconst 0, 1) := by decide +kernel
theorem dX7_init_37 : decode cX7_init 37 = .ok (.istore_n 2, 1) := by decide +kernel
theorem dX7_init_38 : decode cX7_init 38 = .ok (.iinc 3 1, 3) := by decide +kernel
theorem dX7_init_41 : decode cX7_init 41 = .ok (.goto (-28), 3) := by decide +kernel
theorem dX7_init_44 : decode cX7_init 44 = .ok (.aload_n 0, 1) := by decide +kernel
theorem dX7_init_45 : decode cX7_init 45 = .ok (.iload_n 2, 1) := by decide +kernel
theorem dX7_init_46 : decode cX7_init 46 = .ok (.putfield 13, 3) := by decide +kernel
theorem dX7_init_49 : decode cX7_init 49 = .ok (.return_, 1) := by decide +kernel
theorem dX8_init_0 : decode cX8_init 0 = .ok (.aload_n 0, 1) := by decide +kernel
theorem dX8_init_1 : decode cX8_init 1 = .ok (.invokespecial 7, 3) := by decide +kernel
theorem dX8_init_4 : decode cX8_init 4 = .ok (.aload_n 0, 1) := by decide +kernel
theorem dX8_init_5 : decode cX8_init 5 = .ok (.sipush 412, 3) := by decide +kernel
theorem dX8_init_8 : decode cX8_init 8 = .ok (.newarray .int, 2) := by decide +kernel
theorem dX8_init_10 : decode cX8_init 10 = .ok (.putfield 13, 3) := by decide +kernel
theorem dX8_init_13 : decode cX8_init 13 = .ok (.aload_n 0, 1) := by decide +kernel
theorem dX8_init_14 : decode cX8_init 14 = .ok (.iconst 0, 1) := by decide +kernel
theorem dX8_init_15 : decode cX8_init 15 = .ok (.putfield 17, 3) := by decide +kernel
theorem dX8_init_18 : decode cX8_init 18 = .ok (.aload_n 0, 1) := by decide +kernel
theorem dX8_init_19 : decode cX8_init 19 = .ok (.iconst 0, 1) := by decide +kernel
theorem dX8_init_20 : decode cX8_init 20 = .ok (.putfield 21, 3) := by decide +kernel
theorem dX8_init_23 : decode cX8_init 23 = .ok (.return_, 1) := by decide +kernel
theorem dX8_made_0 : decode cX8_made 0 = .ok (.new 38, 3) := by decide +kernel
theorem dX8_made_3 : decode cX8_made 3 = .ok (.dup, 1) := by decide +kernel
theorem dX8_made_4 : decode cX8_made 4 = .ok (.aload_n 0, 1) := by decide +kernel
theorem dX8_made_5 : decode cX8_made 5 = .ok (.getfield 13, 3) := by decide +kernel
theorem dX8_made_8 : decode cX8_made 8 = .ok (.aload_n 0, 1) := by decide +kernel
theorem dX8_made_9 : decode cX8_made 9 = .ok (.getfield 17, 3) := by decide +kernel
theorem dX8_made_12 : decode cX8_made 12 = .ok (.invokestatic 40, 3) := by decide +kernel
theorem dX8_made_15 : decode cX8_made 15 = .ok (.invokespecial 46, 3) := by decide +kernel
theorem dX8_made_18 : decode cX8_made 18 = .ok (.areturn, 1) := by decide +kernel
theorem dX9_fits_0 : decode cX9_fits 0 = .ok (.iload_n 2, 1) := by decide +kernel
theorem dX9_fits_1 : decode cX9_fits 1 = .ok (.aload_n 1, 1) := by decide +kernel
theorem dX9_fits_2 : decode cX9_fits 2 = .ok (.invokevirtual 56, 3) := by decide +kernel
theorem dX9_fits_5 : decode cX9_fits 5 = .ok (.invokestatic 62, 3) := by decide +kernel
theorem dX9_fits_8 : decode cX9_fits 8 = .ok (.istore 4, 2) := by decide +kernel
theorem dX9_fits_10 : decode cX9_fits 10 = .ok (.iconst 0, 1) := by decide +kernel
theorem dX9_fits_11 : decode cX9_fits 11 = .ok (.istore 5, 2) := by decide +kernel
theorem dX9_fits_13 : decode cX9_fits 13 = .ok (.iload 5, 2) := by decide +kernel
theorem dX9_fits_15 : decode cX9_fits 15 = .ok (.iload 4, 2) := by decide +kernel
theorem dX9_fits_17 : decode cX9_fits 17 = .ok (.if_icmp .gt 53, 3) := by decide +kernel
theorem dX9_fits_20 : decode cX9_fits 20 = .ok (.aload_n 0, 1) := by decide +kernel
theorem dX9_fits_21 : decode cX9_fits 21 = .ok (.getfield 68, 3) := by decide +kernel
theorem dX9_fits_24 : decode cX9_fits 24 = .ok (.ifCond .ne 8, 3) := by decide +kernel
theorem dX9_fits_27 : decode cX9_fits 27 = .ok (.aload_n 0, 1) := by decide +kernel
theorem dX9_fits_28 : decode cX9_fits 28 = .ok (.invokevirtual 72, 3) := by decide +kernel
theorem dX9_fits_31 : decode cX9_fits 31 = .ok (.pop, 1) := by decide +kernel
theorem dX9_fits_32 : decode cX9_fits 32 = .ok (.aload_n 1, 1) := by decide +kernel
theorem dX9_fits_33 : decode cX9_fits 33 = .ok (.iload 5, 2) := by decide +kernel
theorem dX9_fits_35 : decode cX9_fits 35 = .ok (.aload_n 0, 1) := by decide +kernel
theorem dX9_fits_36 : decode cX9_fits 36 = .ok (.getfield 75, 3) := by decide +kernel
theorem dX9_fits_39 : decode cX9_fits 39 = .ok (.invokevirtual 77, 3) := by decide +kernel
theorem dX9_fits_42 : decode cX9_fits 42 = .ok (.ifCond .ne 5, 3) := by decide +kernel
theorem dX9_fits_45 : decode cX9_fits 45 = .ok (.iconst 0, 1) := by decide +kernel
theorem dX9_fits_46 : decode cX9_fits 46 = .ok (.ireturn, 1) := by decide +kernel
theorem dX9_fits_47 : decode cX9_fits 47 = .ok (.iload 5, 2) := by decide +kernel
theorem dX9_fits_49 : decode cX9_fits 49 = .ok (.iload_n 2, 1) := by decide +kernel
theorem dX9_fits_50 : decode cX9_fits 50 = .ok (.if_icmp .ne 14, 3) := by decide +kernel
theorem dX9_fits_53 : decode cX9_fits 53 = .ok (.aload_n 0, 1) := by decide +kernel
theorem dX9_fits_54 : decode cX9_fits 54 = .ok (.getfield 75, 3) := by decide +kernel
theorem dX9_fits_57 : decode cX9_fits 57 = .ok (.iconst 0, 1) := by decide +kernel
theorem dX9_fits_58 : decode cX9_fits 58 = .ok (.aload_n 3, 1) := by decide +kernel
theorem dX9_fits_59 : decode cX9_fits 59 = .ok (.iconst 0, 1) := by decide +kernel
theorem dX9_fits_60 : decode cX9_fits 60 = .ok (.iconst 5, 1) := by decide +kernel
theorem dX9_fits_61 : decode cX9_fits 61 = .ok (.invokestatic 81, 3) := by decide +kernel
theorem dX9_fits_64 : decode cX9_fits 64 = .ok (.iinc 5 1, 3) := by decide +kernel
theorem dX9_fits_67 : decode cX9_fits 67 = .ok (.goto (-54), 3) := by decide +kernel
theorem dX9_fits_70 : decode cX9_fits 70 = .ok (.iconst 1, 1) := by decide +kernel
theorem dX9_fits_71 : decode cX9_fits 71 = .ok (.ireturn, 1) := by decide +kernel
theorem dX9_init_0 : decode cX9_init 0 = .ok (.aload_n 0, 1) := by decide +kernel
theorem dX9_init_1 : decode cX9_init 1 = .ok (.invokespecial 3, 3) := by decide +kernel
theorem dX9_init_4 : decode cX9_init 4 = .ok (.aload_n 0, 1) := by decide +kernel
theorem dX9_init_5 : decode cX9_init 5 = .ok (.iconst 0, 1) := by decide +kernel
theorem dX9_init_6 : decode cX9_init 6 = .ok (.putfield 9, 3) := by decide +kernel
theorem dX9_init_9 : decode cX9_init 9 = .ok (.aload_n 0, 1) := by decide +kernel
theorem dX9_init_10 : decode cX9_init 10 = .ok (.iconst (-1), 1) := by decide +kernel
theorem dX9_init_11 : decode cX9_init 11 = .ok (.putfield 15, 3) := by decide +kernel
theorem dX9_init_14 : decode cX9_init 14 = .ok (.aload_n 0, 1) := by decide +kernel
theorem dX9_init_15 : decode cX9_init 15 = .ok (.bipush 7, 2) := by decide +kernel
theorem dX9_init_17 : decode cX9_init 17 = .ok (.iconst 5, 1) := by decide +kernel
theorem dX9_init_18 : decode cX9_init 18 = .ok (.multianewarray 18 2, 4) := by decide +kernel
theorem dX9_init_22 : decode cX9_init 22 = .ok (.putfield 20, 3) := by decide +kernel
theorem dX9_init_25 : decode cX9_init 25 = .ok (.return_, 1) := by decide +kernel
theorem dX10_init_0 : decode cX10_init 0 = .ok (.aload_n 0, 1) := by decide +kernel
theorem dX10_init_1 : decode cX10_init 1 = .ok (.invokespecial 3, 3) := by decide +kernel
theorem dX10_init_4 : decode cX10_init 4 = .ok (.aload_n 0, 1) := by decide +kernel
theorem dX10_init_5 : decode cX10_init 5 = .ok (.sipush 400, 3) := by decide +kernel
theorem dX10_init_8 : decode cX10_init 8 = .ok (.newarray .int, 2) := by decide +kernel
theorem dX10_init_10 : decode cX10_init 10 = .ok (.putfield 11, 3) := by decide +kernel
theorem dX10_init_13 : decode cX10_init 13 = .ok (.aload_n 0, 1) := by decide +kernel
theorem dX10_init_14 : decode cX10_init 14 = .ok (.iconst 0, 1) := by decide +kernel
theorem dX10_init_15 : decode cX10_init 15 = .ok (.putfield 15, 3) := by decide +kernel
theorem dX10_init_18 : decode cX10_init 18 = .ok (.aload_n 0, 1) := by decide +kernel
theorem dX10_init_19 : decode cX10_init 19 = .ok (.sipush 401, 3) := by decide +kernel
theorem dX10_init_22 : decode cX10_init 22 = .ok (.newarray .int, 2) := by decide +kernel
theorem dX10_init_24 : decode cX10_init 24 = .ok (.putfield 19, 3) := by decide +kernel
theorem dX10_init_27 : decode cX10_init 27 = .ok (.aload_n 0, 1) := by decide +kernel
theorem dX10_init_28 : decode cX10_init 28 = .ok (.sipush 401, 3) := by decide +kernel
theorem dX10_init_31 : decode cX10_init 31 = .ok (.newarray .int, 2) := by decide +kernel
theorem dX10_init_33 : decode cX10_init 33 = .ok (.putfield 22, 3) := by decide +kernel
theorem dX10_init_36 : decode cX10_init 36 = .ok (.aload_n 0, 1) := by decide +kernel
theorem dX10_init_37 : decode cX10_init 37 = .ok (.sipush 401, 3) := by decide +kernel
theorem dX10_init_40 : decode cX10_init 40 = .ok (.newarray .int, 2) := by decide +kernel
theorem dX10_init_42 : decode cX10_init 42 = .ok (.putfield 25, 3) := by decide +kernel
theorem dX10_init_45 : decode cX10_init 45 = .ok (.aload_n 0, 1) := by decide +kernel
theorem dX10_init_46 : decode cX10_init 46 = .ok (.iconst 0, 1) := by decide +kernel
theorem dX10_init_47 : decode cX10_init 47 = .ok (.putfield 28, 3) := by decide +kernel
theorem dX10_init_50 : decode cX10_init 50 = .ok (.aload_n 0, 1) := by decide +kernel
theorem dX10_init_51 : decode cX10_init 51 = .ok (.iconst 0, 1) := by decide +kernel
theorem dX10_init_52 : decode cX10_init 52 = .ok (.putfield 31, 3) := by decide +kernel
theorem dX10_init_55 : decode cX10_init 55 = .ok (.aload_n 0, 1) := by decide +kernel
theorem dX10_init_56 : decode cX10_init 56 = .ok (.iconst 0, 1) := by decide +kernel
theorem dX10_init_57 : decode cX10_init 57 = .ok (.putfield 34, 3) := by decide +kernel
theorem dX10_init_60 : decode cX10_init 60 = .ok (.aload_n 0, 1) := by decide +kernel
theorem dX10_init_61 : decode cX10_init 61 = .ok (.iconst 0, 1) := by decide +kernel
theorem dX10_init_62 : decode cX10_init 62 = .ok (.putfield 37, 3) := by decide +kernel
theorem dX10_init_65 : decode cX10_init 65 = .ok (.aload_n 0, 1) := by decide +kernel
theorem dX10_init_66 : decode cX10_init 66 = .ok (.iconst 0, 1) := by decide +kernel
theorem dX10_init_67 : decode cX10_init 67 = .ok (.putfield 40, 3) := by decide +kernel
theorem dX10_init_70 : decode cX10_init 70 = .ok (.aload_n 0, 1) := by decide +kernel
theorem dX10_init_71 : decode cX10_init 71 = .ok (.iconst 0, 1) := by decide +kernel
theorem dX10_init_72 : decode cX10_init 72 = .ok (.putfield 43, 3) := by decide +kernel
theorem dX10_init_75 : decode cX10_init 75 = .ok (.return_, 1) := by decide +kernel
theorem dX10_open_0 : decode cX10_open 0 = .ok (.aload_n 0, 1) := by decide +kernel
theorem dX10_open_1 : decode cX10_open 1 = .ok (.iconst 0, 1) := by decide +kernel
theorem dX10_open_2 : decode cX10_open 2 = .ok (.putfield 28, 3) := by decide +kernel
theorem dX10_open_5 : decode cX10_open 5 = .ok (.iconst 0, 1) := by decide +kernel
theorem dX10_open_6 : decode cX10_open 6 = .ok (.istore_n 1, 1) := by decide +kernel
theorem dX10_open_7 : decode cX10_open 7 = .ok (.iconst 0, 1) := by decide +kernel
theorem dX10_open_8 : decode cX10_open 8 = .ok (.istore_n 2, 1) := by decide +kernel
theorem dX10_open_9 : decode cX10_open 9 = .ok (.iload_n 2, 1) := by decide +kernel
theorem dX10_open_10 : decode cX10_open 10 = .ok (.sipush 400, 3) := by decide +kernel
theorem dX10_open_13 : decode cX10_open 13 = .ok (.if_icmp .ge 40, 3) := by decide +kernel
theorem dX10_open_16 : decode cX10_open 16 = .ok (.iload_n 1, 1) := by decide +kernel
theorem dX10_open_17 : decode cX10_open 17 = .ok (.aload_n 0, 1) := by decide +kernel
theorem dX10_open_18 : decode cX10_open 18 = .ok (.getfield 15, 3) := by decide +kernel
theorem dX10_open_21 : decode cX10_open 21 = .ok (.if_icmp .ge 32, 3) := by decide +kernel
theorem dX10_open_24 : decode cX10_open 24 = .ok (.aload_n 0, 1) := by decide +kernel
theorem dX10_open_25 : decode cX10_open 25 = .ok (.getfield 11, 3) := by decide +kernel
theorem dX10_open_28 : decode cX10_open 28 = .ok (.iload_n 1, 1) := by decide +kernel
theorem dX10_open_29 : decode cX10_open 29 = .ok (.iaload, 1) := by decide +kernel
theorem dX10_open_30 : decode cX10_open 30 = .ok (.bipush 32, 2) := by decide +kernel
theorem dX10_open_32 : decode cX10_open 32 = .ok (.if_icmp .ne 9, 3) := by decide +kernel
theorem dX10_open_35 : decode cX10_open 35 = .ok (.iload_n 1, 1) := by decide +kernel
theorem dX10_open_36 : decode cX10_open 36 = .ok (.iconst 1, 1) := by decide +kernel
theorem dX10_open_37 : decode cX10_open 37 = .ok (.iadd, 1) := by decide +kernel
theorem dX10_open_38 : decode cX10_open 38 = .ok (.goto 8, 3) := by decide +kernel
theorem dX10_open_41 : decode cX10_open 41 = .ok (.aload_n 0, 1) := by decide +kernel
theorem dX10_open_42 : decode cX10_open 42 = .ok (.iload_n 1, 1) := by decide +kernel
theorem dX10_open_43 : decode cX10_open 43 = .ok (.invokevirtual 46, 3) := by decide +kernel
theorem dX10_open_46 : decode cX10_open 46 = .ok (.istore_n 1, 1) := by decide +kernel
theorem dX10_open_47 : decode cX10_open 47 = .ok (.iinc 2 1, 3) := by decide +kernel
theorem dX10_open_50 : decode cX10_open 50 = .ok (.goto (-41), 3) := by decide +kernel
theorem dX10_open_53 : decode cX10_open 53 = .ok (.aload_n 0, 1) := by decide +kernel
theorem dX10_open_54 : decode cX10_open 54 = .ok (.iconst 0, 1) := by decide +kernel
theorem dX10_open_55 : decode cX10_open 55 = .ok (.iconst 0, 1) := by decide +kernel
theorem dX10_open_56 : decode cX10_open 56 = .ok (.aload_n 0, 1) := by decide +kernel
theorem dX10_open_57 : decode cX10_open 57 = .ok (.getfield 15, 3) := by decide +kernel
theorem dX10_open_60 : decode cX10_open 60 = .ok (.invokevirtual 50, 3) := by decide +kernel
theorem dX10_open_63 : decode cX10_open 63 = .ok (.aload_n 0, 1) := by decide +kernel
theorem dX10_open_64 : decode cX10_open 64 = .ok (.iconst 0, 1) := by decide +kernel
theorem dX10_open_65 : decode cX10_open 65 = .ok (.putfield 43, 3) := by decide +kernel
theorem dX10_open_68 : decode cX10_open 68 = .ok (.aload_n 0, 1) := by decide +kernel
theorem dX10_open_69 : decode cX10_open 69 = .ok (.iconst (-1), 1) := by decide +kernel
theorem dX10_open_70 : decode cX10_open 70 = .ok (.putfield 31, 3) := by decide +kernel
theorem dX10_open_73 : decode cX10_open 73 = .ok (.aload_n 0, 1) := by decide +kernel
theorem dX10_open_74 : decode cX10_open 74 = .ok (.invokevirtual 54, 3) := by decide +kernel
theorem dX10_open_77 : decode cX10_open 77 = .ok (.return_, 1) := by decide +kernel
theorem dX11_ails_0 : decode cX11_ails 0 = .ok (.aload_n 0, 1) := by decide +kernel
theorem dX11_ails_1 : decode cX11_ails 1 = .ok (.getfield 43, 3) := by decide +kernel
theorem dX11_ails_4 : decode cX11_ails 4 = .ok (.getfield 111, 3) := by decide +kernel
theorem dX11_ails_7 : decode cX11_ails 7 = .ok (.iload_n 1, 1) := by decide +kernel
theorem dX11_ails_8 : decode cX11_ails 8 = .ok (.invokevirtual 139, 3) := by decide +kernel
theorem dX11_ails_11 : decode cX11_ails 11 = .ok (.ifCond .ne 5, 3) := by decide +kernel
theorem dX11_ails_14 : decode cX11_ails 14 = .ok (.iconst (-1), 1) := by decide +kernel
theorem dX11_ails_15 : decode cX11_ails 15 = .ok (.ireturn, 1) := by decide +kernel
theorem dX11_ails_16 : decode cX11_ails 16 = .ok (.aload_n 0, 1) := by decide +kernel
theorem dX11_ails_17 : decode cX11_ails 17 = .ok (.getfield 43, 3) := by decide +kernel
theorem dX11_ails_20 : decode cX11_ails 20 = .ok (.getfield 111, 3) := by decide +kernel
theorem dX11_ails_23 : decode cX11_ails 23 = .ok (.getfield 124, 3) := by decide +kernel
theorem dX11_ails_26 : decode cX11_ails 26 = .ok (.iconst 3, 1) := by decide +kernel
theorem dX11_ails_27 : decode cX11_ails 27 = .ok (.iaload, 1) := by decide +kernel
theorem dX11_ails_28 : decode cX11_ails 28 = .ok (.iconst 1, 1) := by decide +kernel
theorem dX11_ails_29 : decode cX11_ails 29 = .ok (.isub, 1) := by decide +kernel
theorem dX11_ails_30 : decode cX11_ails 30 = .ok (.istore_n 2, 1) := by decide +kernel
theorem dX11_ails_31 : decode cX11_ails 31 = .ok (.aload_n 0, 1) := by decide +kernel
theorem dX11_ails_32 : decode cX11_ails 32 = .ok (.getfield 75, 3) := by decide +kernel
theorem dX11_ails_35 : decode cX11_ails 35 = .ok (.aload_n 0, 1) := by decide +kernel
theorem dX11_ails_36 : decode cX11_ails 36 = .ok (.getfield 61, 3) := by decide +kernel
theorem dX11_ails_39 : decode cX11_ails 39 = .ok (.aload_n 0, 1) := by decide +kernel
theorem dX11_ails_40 : decode cX11_ails 40 = .ok (.getfield 43, 3) := by decide +kernel
theorem dX11_ails_43 : decode cX11_ails 43 = .ok (.aload_n 0, 1) := by decide +kernel
theorem dX11_ails_44 : decode cX11_ails 44 = .ok (.invokevirtual 159, 3) := by decide +kernel
theorem dX11_ails_47 : decode cX11_ails 47 = .ok (.bipush 38, 2) := by decide +kernel
theorem dX11_ails_49 : decode cX11_ails 49 = .ok (.iload_n 1, 1) := by decide +kernel
theorem dX11_ails_50 : decode cX11_ails 50 = .ok (.iadd, 1) := by decide +kernel
theorem dX11_ails_51 : decode cX11_ails 51 = .ok (.iconst 0, 1) := by decide +kernel
theorem dX11_ails_52 : decode cX11_ails 52 = .ok (.iload_n 2, 1) := by decide +kernel
theorem dX11_ails_53 : decode cX11_ails 53 = .ok (.invokevirtual 239, 3) := by decide +kernel
theorem dX11_ails_56 : decode cX11_ails 56 = .ok (.ireturn, 1) := by decide +kernel
theorem dX11_back_0 : decode cX11_back 0 = .ok (.iload_n 1, 1) := by decide +kernel
theorem dX11_back_1 : decode cX11_back 1 = .ok (.iconst 0, 1) := by decide +kernel
theorem dX11_back_2 : decode cX11_back 2 = .ok (.iconst 3, 1) := by decide +kernel
theorem dX11_back_3 : decode cX11_back 3 = .ok (.invokestatic 90, 3) := by decide +kernel
theorem dX11_back_6 : decode cX11_back 6 = .ok (.ifCond .eq 15, 3) := by decide +kernel
theorem dX11_back_9 : decode cX11_back 9 = .ok (.aload_n 0, 1) := by decide +kernel
theorem dX11_back_10 : decode cX11_back 10 = .ok (.getfield 47, 3) := by decide +kernel
theorem dX11_back_13 : decode cX11_back 13 = .ok (.iload_n 1, 1) := by decide +kernel
theorem dX11_back_14 : decode cX11_back 14 = .ok (.aaload, 1) := by decide +kernel
theorem dX11_back_15 : decode cX11_back 15 = .ok (.getfield 273, 3) := by decide +kernel
theorem dX11_back_18 : decode cX11_back 18 = .ok (.ifCond .ne 5, 3) := by decide +kernel
theorem dX11_back_21 : decode cX11_back 21 = .ok (.iconst (-1), 1) := by decide +kernel
theorem dX11_back_22 : decode cX11_back 22 = .ok (.ireturn, 1) := by decide +kernel
theorem dX11_back_23 : decode cX11_back 23 = .ok (.aload_n 0, 1) := by decide +kernel
theorem dX11_back_24 : decode cX11_back 24 = .ok (.getfield 43, 3) := by decide +kernel
theorem dX11_back_27 : decode cX11_back 27 = .ok (.aload_n 0, 1) := by decide +kernel
theorem dX11_back_28 : decode cX11_back 28 = .ok (.getfield 47, 3) := by decide +kernel
theorem dX11_back_31 : decode cX11_back 31 = .ok (.iload_n 1, 1) := by decide +kernel
theorem dX11_back_32 : decode cX11_back 32 = .ok (.aaload, 1) := by decide +kernel
theorem dX11_back_33 : decode cX11_back 33 = .ok (.invokevirtual 270, 3) := by decide +kernel
theorem dX11_back_36 : decode cX11_back 36 = .ok (.aload_n 0, 1) := by decide +kernel
theorem dX11_back_37 : decode cX11_back 37 = .ok (.getfield 54, 3) := by decide +kernel
theorem dX11_back_40 : decode cX11_back 40 = .ok (.iconst 0, 1) := by decide +kernel
theorem dX11_back_41 : decode cX11_back 41 = .ok (.putfield 123, 3) := by decide +kernel
theorem dX11_back_44 : decode cX11_back 44 = .ok (.aload_n 0, 1) := by decide +kernel
theorem dX11_back_45 : decode cX11_back 45 = .ok (.getfield 43, 3) := by decide +kernel
theorem dX11_back_48 : decode cX11_back 48 = .ok (.getfield 111, 3) := by decide +kernel
theorem dX11_back_51 : decode cX11_back 51 = .ok (.getfield 124, 3) := by decide +kernel
theorem dX11_back_54 : decode cX11_back 54 = .ok (.iconst 5, 1) := by decide +kernel
theorem dX11_back_55 : decode cX11_back 55 = .ok (.iaload, 1) := by decide +kernel
theorem dX11_back_56 : decode cX11_back 56 = .ok (.ireturn, 1) := by decide +kernel
theorem dX11_down_0 : decode cX11_down 0 = .ok (.aload_n 0, 1) := by decide +kernel
theorem dX11_down_1 : decode cX11_down 1 = .ok (.getfield 43, 3) := by decide +kernel
theorem dX11_down_4 : decode cX11_down 4 = .ok (.getfield 111, 3) := by decide +kernel
theorem dX11_down_7 : decode cX11_down 7 = .ok (.astore_n 3, 1) := by decide +kernel
theorem dX11_down_8 : decode cX11_down 8 = .ok (.aload_n 3, 1) := by decide +kernel
theorem dX11_down_9 : decode cX11_down 9 = .ok (.iload_n 1, 1) := by decide +kernel
theorem dX11_down_10 : decode cX11_down 10 = .ok (.invokevirtual 139, 3) := by decide +kernel
theorem dX11_down_13 : decode cX11_down 13 = .ok (.ifCond .eq 11, 3) := by decide +kernel
theorem dX11_down_16 : decode cX11_down 16 = .ok (.aload_n 3, 1) := by decide +kernel
theorem dX11_down_17 : decode cX11_down 17 = .ok (.iload_n 2, 1) := by decide +kernel
theorem dX11_down_18 : decode cX11_down 18 = .ok (.invokevirtual 136, 3) := by decide +kernel
theorem dX11_down_21 : decode cX11_down 21 = .ok (.ifCond .ne 5, 3) := by decide +kernel
theorem dX11_down_24 : decode cX11_down 24 = .ok (.iconst (-1), 1) := by decide +kernel
theorem dX11_down_25 : decode cX11_down 25 = .ok (.ireturn, 1) := by decide +kernel
theorem dX11_down_26 : decode cX11_down 26 = .ok (.aload_n 3, 1) := by decide +kernel
theorem dX11_down_27 : decode cX11_down 27 = .ok (.iload_n 1, 1) := by decide +kernel
theorem dX11_down_28 : decode cX11_down 28 = .ok (.iload_n 2, 1) := by decide +kernel
theorem dX11_down_29 : decode cX11_down 29 = .ok (.aload_n 3, 1) := by decide +kernel
theorem dX11_down_30 : decode cX11_down 30 = .ok (.aload_n 3, 1) := by decide +kernel
theorem dX11_down_31 : decode cX11_down 31 = .ok (.getfield 124, 3) := by decide +kernel
theorem dX11_down_34 : decode cX11_down 34 = .ok (.bipush 6, 2) := by decide +kernel
theorem dX11_down_36 : decode cX11_down 36 = .ok (.iaload, 1) := by decide +kernel
theorem dX11_down_37 : decode cX11_down 37 = .ok (.invokevirtual 142, 3) := by decide +kernel
theorem dX11_down_40 : decode cX11_down 40 = .ok (.invokevirtual 194, 3) := by decide +kernel
theorem dX11_down_43 : decode cX11_down 43 = .ok (.invokestatic 175, 3) := by decide +kernel
theorem dX11_down_46 : decode cX11_down 46 = .ok (.ireturn, 1) := by decide +kernel
theorem dX11_feed_0 : decode cX11_feed 0 = .ok (.aload_n 0, 1) := by decide +kernel
theorem dX11_feed_1 : decode cX11_feed 1 = .ok (.getfield 10, 3) := by decide +kernel
theorem dX11_feed_4 : decode cX11_feed 4 = .ok (.bipush 20, 2) := by decide +kernel
theorem dX11_feed_6 : decode cX11_feed 6 = .ok (.invokevirtual 79, 3) := by decide +kernel
theorem dX11_feed_9 : decode cX11_feed 9 = .ok (.ifCond .ne 5, 3) := by decide +kernel
theorem dX11_feed_12 : decode cX11_feed 12 = .ok (.iconst (-1), 1) := by decide +kernel
theorem dX11_feed_13 : decode cX11_feed 13 = .ok (.ireturn, 1) := by decide +kernel
theorem dX11_feed_14 : decode cX11_feed 14 = .ok (.aload_n 0, 1) := by decide +kernel
theorem dX11_feed_15 : decode cX11_feed 15 = .ok (.getfield 10, 3) := by decide +kernel
theorem dX11_feed_18 : decode cX11_feed 18 = .ok (.iload_n 1, 1) := by decide +kernel
theorem dX11_feed_19 : decode cX11_feed 19 = .ok (.invokevirtual 83, 3) := by decide +kernel
theorem dX11_feed_22 : decode cX11_feed 22 = .ok (.aload_n 0, 1) := by decide +kernel
theorem dX11_feed_23 : decode cX11_feed 23 = .ok (.getfield 10, 3) := by decide +kernel
theorem dX11_feed_26 : decode cX11_feed 26 = .ok (.iload_n 2, 1) := by decide +kernel
theorem dX11_feed_27 : decode cX11_feed 27 = .ok (.invokevirtual 83, 3) := by decide +kernel
theorem dX11_feed_30 : decode cX11_feed 30 = .ok (.aload_n 0, 1) := by decide +kernel
theorem dX11_feed_31 : decode cX11_feed 31 = .ok (.getfield 10, 3) := by decide +kernel
theorem dX11_feed_34 : decode cX11_feed 34 = .ok (.iload_n 3, 1) := by decide +kernel
theorem dX11_feed_35 : decode cX11_feed 35 = .ok (.invokevirtual 83, 3) := by decide +kernel
theorem dX11_feed_38 : decode cX11_feed 38 = .ok (.aload_n 0, 1) := by decide +kernel
theorem dX11_feed_39 : decode cX11_feed 39 = .ok (.getfield 10, 3) := by decide +kernel
theorem dX11_feed_42 : decode cX11_feed 42 = .ok (.iload 4, 2) := by decide +kernel
theorem dX11_feed_44 : decode cX11_feed 44 = .ok (.invokevirtual 83, 3) := by decide +kernel
theorem dX11_feed_47 : decode cX11_feed 47 = .ok (.aload_n 0, 1) := by decide +kernel
theorem dX11_feed_48 : decode cX11_feed 48 = .ok (.getfield 10, 3) := by decide +kernel
theorem dX11_feed_51 : decode cX11_feed 51 = .ok (.iload 5, 2) := by decide +kernel
theorem dX11_feed_53 : decode cX11_feed 53 = .ok (.invokevirtual 83, 3) := by decide +kernel
theorem dX11_feed_56 : decode cX11_feed 56 = .ok (.aload_n 0, 1) := by decide +kernel
theorem dX11_feed_57 : decode cX11_feed 57 = .ok (.getfield 10, 3) := by decide +kernel
theorem dX11_feed_60 : decode cX11_feed 60 = .ok (.getfield 87, 3) := by decide +kernel
theorem dX11_feed_63 : decode cX11_feed 63 = .ok (.ireturn, 1) := by decide +kernel
theorem dX11_hold_0 : decode cX11_hold 0 = .ok (.aload_n 0, 1) := by decide +kernel
theorem dX11_hold_1 : decode cX11_hold 1 = .ok (.getfield 43, 3) := by decide +kernel
theorem dX11_hold_4 : decode cX11_hold 4 = .ok (.getfield 111, 3) := by decide +kernel
theorem dX11_hold_7 : decode cX11_hold 7 = .ok (.astore_n 2, 1) := by decide +kernel
theorem dX11_hold_8 : decode cX11_hold 8 = .ok (.aload_n 2, 1) := by decide +kernel
theorem dX11_hold_9 : decode cX11_hold 9 = .ok (.iload_n 1, 1) := by decide +kernel
theorem dX11_hold_10 : decode cX11_hold 10 = .ok (.invokevirtual 139, 3) := by decide +kernel
theorem dX11_hold_13 : decode cX11_hold 13 = .ok (.ifCond .ne 5, 3) := by decide +kernel
theorem dX11_hold_16 : decode cX11_hold 16 = .ok (.iconst (-1), 1) := by decide +kernel
theorem dX11_hold_17 : decode cX11_hold 17 = .ok (.ireturn, 1) := by decide +kernel
theorem dX11_hold_18 : decode cX11_hold 18 = .ok (.aload_n 2, 1) := by decide +kernel
theorem dX11_hold_19 : decode cX11_hold 19 = .ok (.getfield 124, 3) := by decide +kernel
theorem dX11_hold_22 : decode cX11_hold 22 = .ok (.bipush 6, 2) := by decide +kernel
theorem dX11_hold_24 : decode cX11_hold 24 = .ok (.iaload, 1) := by decide +kernel
theorem dX11_hold_25 : decode cX11_hold 25 = .ok (.istore_n 3, 1) := by decide +kernel
theorem dX11_hold_26 : decode cX11_hold 26 = .ok (.iconst 0, 1) := by decide +kernel
theorem dX11_hold_27 : decode cX11_hold 27 = .ok (.istore 4, 2) := by decide +kernel
theorem dX11_hold_29 : decode cX11_hold 29 = .ok (.iload 4, 2) := by decide +kernel
theorem dX11_hold_31 : decode cX11_hold 31 = .ok (.bipush 60, 2) := by decide +kernel
theorem dX11_hold_33 : decode cX11_hold 33 = .ok (.if_icmp .gt 28, 3) := by decide +kernel
theorem dX11_hold_36 : decode cX11_hold 36 = .ok (.aload_n 2, 1) := by decide +kernel
