theorem dX11_round_20 : decode cX11_round 20 = .ok (.getfield 124, 3) := by decide +kernel
theorem dX11_round_23 : decode cX11_round 23 = .ok (.iconst 5, 1) := by decide +kernel
theorem dX11_round_24 : decode cX11_round 24 = .ok (.iaload, 1) := by decide +kernel
theorem dX11_round_25 : decode cX11_round 25 = .ok (.sipush 999, 3) := by decide +kernel
theorem dX11_round_28 : decode cX11_round 28 = .ok (.if_icmp .lt 5, 3) := by decide +kernel
theorem dX11_round_31 : decode cX11_round 31 = .ok (.iconst (-1), 1) := by decide +kernel
theorem dX11_round_32 : decode cX11_round 32 = .ok (.ireturn, 1) := by decide +kernel
theorem dX11_round_33 : decode cX11_round 33 = .ok (.aload_n 0, 1) := by decide +kernel
theorem dX11_round_34 : decode cX11_round 34 = .ok (.getfield 54, 3) := by decide +kernel
theorem dX11_round_37 : decode cX11_round 37 = .ok (.aload_n 0, 1) := by decide +kernel
theorem dX11_round_38 : decode cX11_round 38 = .ok (.getfield 43, 3) := by decide +kernel
theorem dX11_round_41 : decode cX11_round 41 = .ok (.getfield 111, 3) := by decide +kernel
theorem dX11_round_44 : decode cX11_round 44 = .ok (.invokevirtual 156, 3) := by decide +kernel
theorem dX11_round_47 : decode cX11_round 47 = .ok (.aload_n 0, 1) := by decide +kernel
theorem dX11_round_48 : decode cX11_round 48 = .ok (.getfield 61, 3) := by decide +kernel
theorem dX11_round_51 : decode cX11_round 51 = .ok (.aload_n 0, 1) := by decide +kernel
theorem dX11_round_52 : decode cX11_round 52 = .ok (.getfield 43, 3) := by decide +kernel
theorem dX11_round_55 : decode cX11_round 55 = .ok (.getfield 111, 3) := by decide +kernel
theorem dX11_round_58 : decode cX11_round 58 = .ok (.aload_n 0, 1) := by decide +kernel
theorem dX11_round_59 : decode cX11_round 59 = .ok (.invokevirtual 159, 3) := by decide +kernel
theorem dX11_round_62 : decode cX11_round 62 = .ok (.invokevirtual 162, 3) := by decide +kernel
theorem dX11_round_65 : decode cX11_round 65 = .ok (.aload_n 0, 1) := by decide +kernel
theorem dX11_round_66 : decode cX11_round 66 = .ok (.getfield 61, 3) := by decide +kernel
theorem dX11_round_69 : decode cX11_round 69 = .ok (.invokevirtual 166, 3) := by decide +kernel
theorem dX11_round_72 : decode cX11_round 72 = .ok (.istore_n 1, 1) := by decide +kernel
theorem dX11_round_73 : decode cX11_round 73 = .ok (.aload_n 0, 1) := by decide +kernel
theorem dX11_round_74 : decode cX11_round 74 = .ok (.getfield 43, 3) := by decide +kernel
theorem dX11_round_77 : decode cX11_round 77 = .ok (.getfield 111, 3) := by decide +kernel
theorem dX11_round_80 : decode cX11_round 80 = .ok (.aload_n 0, 1) := by decide +kernel
theorem dX11_round_81 : decode cX11_round 81 = .ok (.getfield 61, 3) := by decide +kernel
theorem dX11_round_84 : decode cX11_round 84 = .ok (.getfield 170, 3) := by decide +kernel
theorem dX11_round_87 : decode cX11_round 87 = .ok (.invokevirtual 105, 3) := by decide +kernel
theorem dX11_round_90 : decode cX11_round 90 = .ok (.iload_n 1, 1) := by decide +kernel
theorem dX11_round_91 : decode cX11_round 91 = .ok (.ireturn, 1) := by decide +kernel
theorem dX11_ruled_0 : decode cX11_ruled 0 = .ok (.aload_n 0, 1) := by decide +kernel
theorem dX11_ruled_1 : decode cX11_ruled 1 = .ok (.getfield 43, 3) := by decide +kernel
theorem dX11_ruled_4 : decode cX11_ruled 4 = .ok (.getfield 111, 3) := by decide +kernel
theorem dX11_ruled_7 : decode cX11_ruled 7 = .ok (.invokevirtual 152, 3) := by decide +kernel
theorem dX11_ruled_10 : decode cX11_ruled 10 = .ok (.ifCond .eq 12, 3) := by decide +kernel
theorem dX11_ruled_13 : decode cX11_ruled 13 = .ok (.iload_n 1, 1) := by decide +kernel
theorem dX11_ruled_14 : decode cX11_ruled 14 = .ok (.iconst 0, 1) := by decide +kernel
theorem dX11_ruled_15 : decode cX11_ruled 15 = .ok (.iconst 1, 1) := by decide +kernel
theorem dX11_ruled_16 : decode cX11_ruled 16 = .ok (.invokestatic 90, 3) := by decide +kernel
theorem dX11_ruled_19 : decode cX11_ruled 19 = .ok (.ifCond .ne 6, 3) := by decide +kernel
theorem dX11_ruled_22 : decode cX11_ruled 22 = .ok (.bipush (-3), 2) := by decide +kernel
theorem dX11_ruled_24 : decode cX11_ruled 24 = .ok (.ireturn, 1) := by decide +kernel
theorem dX11_ruled_25 : decode cX11_ruled 25 = .ok (.aload_n 0, 1) := by decide +kernel
theorem dX11_ruled_26 : decode cX11_ruled 26 = .ok (.getfield 75, 3) := by decide +kernel
theorem dX11_ruled_29 : decode cX11_ruled 29 = .ok (.aload_n 0, 1) := by decide +kernel
theorem dX11_ruled_30 : decode cX11_ruled 30 = .ok (.getfield 61, 3) := by decide +kernel
theorem dX11_ruled_33 : decode cX11_ruled 33 = .ok (.aload_n 0, 1) := by decide +kernel
theorem dX11_ruled_34 : decode cX11_ruled 34 = .ok (.getfield 43, 3) := by decide +kernel
theorem dX11_ruled_37 : decode cX11_ruled 37 = .ok (.aload_n 0, 1) := by decide +kernel
theorem dX11_ruled_38 : decode cX11_ruled 38 = .ok (.getfield 32, 3) := by decide +kernel
theorem dX11_ruled_41 : decode cX11_ruled 41 = .ok (.aload_n 0, 1) := by decide +kernel
theorem dX11_ruled_42 : decode cX11_ruled 42 = .ok (.getfield 36, 3) := by decide +kernel
theorem dX11_ruled_45 : decode cX11_ruled 45 = .ok (.iconst (-1), 1) := by decide +kernel
theorem dX11_ruled_46 : decode cX11_ruled 46 = .ok (.invokevirtual 243, 3) := by decide +kernel
theorem dX11_ruled_49 : decode cX11_ruled 49 = .ok (.iload_n 1, 1) := by decide +kernel
theorem dX11_ruled_50 : decode cX11_ruled 50 = .ok (.ifCond .ne 11, 3) := by decide +kernel
theorem dX11_ruled_53 : decode cX11_ruled 53 = .ok (.aload_n 0, 1) := by decide +kernel
theorem dX11_ruled_54 : decode cX11_ruled 54 = .ok (.getfield 75, 3) := by decide +kernel
theorem dX11_ruled_57 : decode cX11_ruled 57 = .ok (.getfield 247, 3) := by decide +kernel
theorem dX11_ruled_60 : decode cX11_ruled 60 = .ok (.ireturn, 1) := by decide +kernel
theorem dX11_ruled_61 : decode cX11_ruled 61 = .ok (.aload_n 0, 1) := by decide +kernel
theorem dX11_ruled_62 : decode cX11_ruled 62 = .ok (.getfield 75, 3) := by decide +kernel
theorem dX11_ruled_65 : decode cX11_ruled 65 = .ok (.getfield 247, 3) := by decide +kernel
theorem dX11_ruled_68 : decode cX11_ruled 68 = .ok (.ifCond .ne 8, 3) := by decide +kernel
theorem dX11_ruled_71 : decode cX11_ruled 71 = .ok (.bipush (-2), 2) := by decide +kernel
theorem dX11_ruled_73 : decode cX11_ruled 73 = .ok (.goto 10, 3) := by decide +kernel
theorem dX11_ruled_76 : decode cX11_ruled 76 = .ok (.aload_n 0, 1) := by decide +kernel
theorem dX11_ruled_77 : decode cX11_ruled 77 = .ok (.getfield 75, 3) := by decide +kernel
theorem dX11_ruled_80 : decode cX11_ruled 80 = .ok (.getfield 250, 3) := by decide +kernel
theorem dX11_ruled_83 : decode cX11_ruled 83 = .ok (.ireturn, 1) := by decide +kernel
theorem dX11_shoot_0 : decode cX11_shoot 0 = .ok (.aload_n 0, 1) := by decide +kernel
theorem dX11_shoot_1 : decode cX11_shoot 1 = .ok (.getfield 43, 3) := by decide +kernel
theorem dX11_shoot_4 : decode cX11_shoot 4 = .ok (.getfield 111, 3) := by decide +kernel
theorem dX11_shoot_7 : decode cX11_shoot 7 = .ok (.astore_n 3, 1) := by decide +kernel
theorem dX11_shoot_8 : decode cX11_shoot 8 = .ok (.aload_n 3, 1) := by decide +kernel
theorem dX11_shoot_9 : decode cX11_shoot 9 = .ok (.iload_n 1, 1) := by decide +kernel
theorem dX11_shoot_10 : decode cX11_shoot 10 = .ok (.invokevirtual 139, 3) := by decide +kernel
theorem dX11_shoot_13 : decode cX11_shoot 13 = .ok (.ifCond .eq 24, 3) := by decide +kernel
theorem dX11_shoot_16 : decode cX11_shoot 16 = .ok (.aload_n 3, 1) := by decide +kernel
theorem dX11_shoot_17 : decode cX11_shoot 17 = .ok (.iload_n 2, 1) := by decide +kernel
theorem dX11_shoot_18 : decode cX11_shoot 18 = .ok (.invokevirtual 136, 3) := by decide +kernel
theorem dX11_shoot_21 : decode cX11_shoot 21 = .ok (.ifCond .eq 16, 3) := by decide +kernel
theorem dX11_shoot_24 : decode cX11_shoot 24 = .ok (.aload_n 3, 1) := by decide +kernel
theorem dX11_shoot_25 : decode cX11_shoot 25 = .ok (.getfield 124, 3) := by decide +kernel
theorem dX11_shoot_28 : decode cX11_shoot 28 = .ok (.bipush 58, 2) := by decide +kernel
theorem dX11_shoot_30 : decode cX11_shoot 30 = .ok (.iload_n 1, 1) := by decide +kernel
theorem dX11_shoot_31 : decode cX11_shoot 31 = .ok (.iadd, 1) := by decide +kernel
theorem dX11_shoot_32 : decode cX11_shoot 32 = .ok (.iaload, 1) := by decide +kernel
theorem dX11_shoot_33 : decode cX11_shoot 33 = .ok (.iconst 1, 1) := by decide +kernel
theorem dX11_shoot_34 : decode cX11_shoot 34 = .ok (.if_icmp .ge 5, 3) := by decide +kernel
theorem dX11_shoot_37 : decode cX11_shoot 37 = .ok (.iconst (-1), 1) := by decide +kernel
theorem dX11_shoot_38 : decode cX11_shoot 38 = .ok (.ireturn, 1) := by decide +kernel
theorem dX11_shoot_39 : decode cX11_shoot 39 = .ok (.aload_n 0, 1) := by decide +kernel
theorem dX11_shoot_40 : decode cX11_shoot 40 = .ok (.getfield 54, 3) := by decide +kernel
theorem dX11_shoot_43 : decode cX11_shoot 43 = .ok (.aload_n 3, 1) := by decide +kernel
theorem dX11_shoot_44 : decode cX11_shoot 44 = .ok (.invokevirtual 156, 3) := by decide +kernel
theorem dX11_shoot_47 : decode cX11_shoot 47 = .ok (.aload_n 3, 1) := by decide +kernel
theorem dX11_shoot_48 : decode cX11_shoot 48 = .ok (.iload_n 1, 1) := by decide +kernel
theorem dX11_shoot_49 : decode cX11_shoot 49 = .ok (.iload_n 2, 1) := by decide +kernel
theorem dX11_shoot_50 : decode cX11_shoot 50 = .ok (.aload_n 3, 1) := by decide +kernel
theorem dX11_shoot_51 : decode cX11_shoot 51 = .ok (.aload_n 3, 1) := by decide +kernel
theorem dX11_shoot_52 : decode cX11_shoot 52 = .ok (.getfield 124, 3) := by decide +kernel
theorem dX11_shoot_55 : decode cX11_shoot 55 = .ok (.bipush 6, 2) := by decide +kernel
theorem dX11_shoot_57 : decode cX11_shoot 57 = .ok (.iaload, 1) := by decide +kernel
theorem dX11_shoot_58 : decode cX11_shoot 58 = .ok (.invokevirtual 142, 3) := by decide +kernel
theorem dX11_shoot_61 : decode cX11_shoot 61 = .ok (.invokevirtual 171, 3) := by decide +kernel
theorem dX11_shoot_64 : decode cX11_shoot 64 = .ok (.invokestatic 175, 3) := by decide +kernel
theorem dX11_shoot_67 : decode cX11_shoot 67 = .ok (.ireturn, 1) := by decide +kernel
theorem dX11_teach_0 : decode cX11_teach 0 = .ok (.aload_n 0, 1) := by decide +kernel
theorem dX11_teach_1 : decode cX11_teach 1 = .ok (.getfield 43, 3) := by decide +kernel
theorem dX11_teach_4 : decode cX11_teach 4 = .ok (.getfield 111, 3) := by decide +kernel
theorem dX11_teach_7 : decode cX11_teach 7 = .ok (.astore_n 3, 1) := by decide +kernel
theorem dX11_teach_8 : decode cX11_teach 8 = .ok (.aload_n 3, 1) := by decide +kernel
theorem dX11_teach_9 : decode cX11_teach 9 = .ok (.iload_n 1, 1) := by decide +kernel
theorem dX11_teach_10 : decode cX11_teach 10 = .ok (.invokevirtual 139, 3) := by decide +kernel
theorem dX11_teach_13 : decode cX11_teach 13 = .ok (.ifCond .eq 13, 3) := by decide +kernel
theorem dX11_teach_16 : decode cX11_teach 16 = .ok (.iload_n 2, 1) := by decide +kernel
theorem dX11_teach_17 : decode cX11_teach 17 = .ok (.iconst 1, 1) := by decide +kernel
theorem dX11_teach_18 : decode cX11_teach 18 = .ok (.bipush 9, 2) := by decide +kernel
theorem dX11_teach_20 : decode cX11_teach 20 = .ok (.invokestatic 90, 3) := by decide +kernel
theorem dX11_teach_23 : decode cX11_teach 23 = .ok (.ifCond .ne 5, 3) := by decide +kernel
theorem dX11_teach_26 : decode cX11_teach 26 = .ok (.iconst (-1), 1) := by decide +kernel
theorem dX11_teach_27 : decode cX11_teach 27 = .ok (.ireturn, 1) := by decide +kernel
theorem dX11_teach_28 : decode cX11_teach 28 = .ok (.aload_n 3, 1) := by decide +kernel
theorem dX11_teach_29 : decode cX11_teach 29 = .ok (.getfield 124, 3) := by decide +kernel
theorem dX11_teach_32 : decode cX11_teach 32 = .ok (.bipush 43, 2) := by decide +kernel
theorem dX11_teach_34 : decode cX11_teach 34 = .ok (.iload_n 1, 1) := by decide +kernel
theorem dX11_teach_35 : decode cX11_teach 35 = .ok (.iadd, 1) := by decide +kernel
theorem dX11_teach_36 : decode cX11_teach 36 = .ok (.iaload, 1) := by decide +kernel
theorem dX11_teach_37 : decode cX11_teach 37 = .ok (.istore 4, 2) := by decide +kernel
theorem dX11_teach_39 : decode cX11_teach 39 = .ok (.iload 4, 2) := by decide +kernel
theorem dX11_teach_41 : decode cX11_teach 41 = .ok (.iload_n 2, 1) := by decide +kernel
theorem dX11_teach_42 : decode cX11_teach 42 = .ok (.if_icmp .ne 5, 3) := by decide +kernel
theorem dX11_teach_45 : decode cX11_teach 45 = .ok (.iconst (-1), 1) := by decide +kernel
theorem dX11_teach_46 : decode cX11_teach 46 = .ok (.ireturn, 1) := by decide +kernel
theorem dX11_teach_47 : decode cX11_teach 47 = .ok (.aload_n 0, 1) := by decide +kernel
theorem dX11_teach_48 : decode cX11_teach 48 = .ok (.getfield 54, 3) := by decide +kernel
theorem dX11_teach_51 : decode cX11_teach 51 = .ok (.aload_n 3, 1) := by decide +kernel
theorem dX11_teach_52 : decode cX11_teach 52 = .ok (.invokevirtual 156, 3) := by decide +kernel
theorem dX11_teach_55 : decode cX11_teach 55 = .ok (.aload_n 3, 1) := by decide +kernel
theorem dX11_teach_56 : decode cX11_teach 56 = .ok (.getfield 124, 3) := by decide +kernel
theorem dX11_teach_59 : decode cX11_teach 59 = .ok (.bipush 43, 2) := by decide +kernel
theorem dX11_teach_61 : decode cX11_teach 61 = .ok (.iload_n 1, 1) := by decide +kernel
theorem dX11_teach_62 : decode cX11_teach 62 = .ok (.iadd, 1) := by decide +kernel
theorem dX11_teach_63 : decode cX11_teach 63 = .ok (.iload_n 2, 1) := by decide +kernel
theorem dX11_teach_64 : decode cX11_teach 64 = .ok (.iastore, 1) := by decide +kernel
theorem dX11_teach_65 : decode cX11_teach 65 = .ok (.iload 4, 2) := by decide +kernel
theorem dX11_teach_67 : decode cX11_teach 67 = .ok (.ireturn, 1) := by decide +kernel
theorem dX12_ahead_0 : decode cX12_ahead 0 = .ok (.aload_n 0, 1) := by decide +kernel
theorem dX12_ahead_1 : decode cX12_ahead 1 = .ok (.invokevirtual 294, 3) := by decide +kernel
theorem dX12_ahead_4 : decode cX12_ahead 4 = .ok (.ifCond .eq 40, 3) := by decide +kernel
theorem dX12_ahead_7 : decode cX12_ahead 7 = .ok (.iload_n 2, 1) := by decide +kernel
theorem dX12_ahead_8 : decode cX12_ahead 8 = .ok (.i2l, 1) := by decide +kernel
theorem dX12_ahead_9 : decode cX12_ahead 9 = .ok (.lconst 0, 1) := by decide +kernel
theorem dX12_ahead_10 : decode cX12_ahead 10 = .ok (.ldc2_w 370, 3) := by decide +kernel
theorem dX12_ahead_13 : decode cX12_ahead 13 = .ok (.invokestatic 127, 3) := by decide +kernel
theorem dX12_ahead_16 : decode cX12_ahead 16 = .ok (.ifCond .eq 28, 3) := by decide +kernel
theorem dX12_ahead_19 : decode cX12_ahead 19 = .ok (.iload_n 3, 1) := by decide +kernel
theorem dX12_ahead_20 : decode cX12_ahead 20 = .ok (.i2l, 1) := by decide +kernel
theorem dX12_ahead_21 : decode cX12_ahead 21 = .ok (.lconst 0, 1) := by decide +kernel
theorem dX12_ahead_22 : decode cX12_ahead 22 = .ok (.ldc2_w 312, 3) := by decide +kernel
theorem dX12_ahead_25 : decode cX12_ahead 25 = .ok (.invokestatic 127, 3) := by decide +kernel
theorem dX12_ahead_28 : decode cX12_ahead 28 = .ok (.ifCond .eq 16, 3) := by decide +kernel
theorem dX12_ahead_31 : decode cX12_ahead 31 = .ok (.iload_n 3, 1) := by decide +kernel
theorem dX12_ahead_32 : decode cX12_ahead 32 = .ok (.iconst 2, 1) := by decide +kernel
theorem dX12_ahead_33 : decode cX12_ahead 33 = .ok (.if_icmp .ge 13, 3) := by decide +kernel
theorem dX12_ahead_36 : decode cX12_ahead 36 = .ok (.aload_n 0, 1) := by decide +kernel
theorem dX12_ahead_37 : decode cX12_ahead 37 = .ok (.iload_n 1, 1) := by decide +kernel
theorem dX12_ahead_38 : decode cX12_ahead 38 = .ok (.invokevirtual 314, 3) := by decide +kernel
theorem dX12_ahead_41 : decode cX12_ahead 41 = .ok (.ifCond .ne 5, 3) := by decide +kernel
theorem dX12_ahead_44 : decode cX12_ahead 44 = .ok (.iconst (-1), 1) := by decide +kernel
theorem dX12_ahead_45 : decode cX12_ahead 45 = .ok (.ireturn, 1) := by decide +kernel
theorem dX12_ahead_46 : decode cX12_ahead 46 = .ok (.aload_n 0, 1) := by decide +kernel
theorem dX12_ahead_47 : decode cX12_ahead 47 = .ok (.invokevirtual 372, 3) := by decide +kernel
theorem dX12_ahead_50 : decode cX12_ahead 50 = .ok (.aload_n 0, 1) := by decide +kernel
theorem dX12_ahead_51 : decode cX12_ahead 51 = .ok (.iload_n 2, 1) := by decide +kernel
theorem dX12_ahead_52 : decode cX12_ahead 52 = .ok (.invokevirtual 375, 3) := by decide +kernel
theorem dX12_ahead_55 : decode cX12_ahead 55 = .ok (.iload_n 3, 1) := by decide +kernel
theorem dX12_ahead_56 : decode cX12_ahead 56 = .ok (.ifCond .ne 11, 3) := by decide +kernel
theorem dX12_ahead_59 : decode cX12_ahead 59 = .ok (.aload_n 0, 1) := by decide +kernel
theorem dX12_ahead_60 : decode cX12_ahead 60 = .ok (.iload_n 1, 1) := by decide +kernel
theorem dX12_ahead_61 : decode cX12_ahead 61 = .ok (.invokevirtual 317, 3) := by decide +kernel
theorem dX12_ahead_64 : decode cX12_ahead 64 = .ok (.goto 23, 3) := by decide +kernel
theorem dX12_ahead_67 : decode cX12_ahead 67 = .ok (.iload_n 3, 1) := by decide +kernel
theorem dX12_ahead_68 : decode cX12_ahead 68 = .ok (.iconst 1, 1) := by decide +kernel
theorem dX12_ahead_69 : decode cX12_ahead 69 = .ok (.if_icmp .ne 11, 3) := by decide +kernel
theorem dX12_ahead_72 : decode cX12_ahead 72 = .ok (.aload_n 0, 1) := by decide +kernel
theorem dX12_ahead_73 : decode cX12_ahead 73 = .ok (.iload_n 1, 1) := by decide +kernel
theorem dX12_ahead_74 : decode cX12_ahead 74 = .ok (.invokevirtual 320, 3) := by decide +kernel
theorem dX12_ahead_77 : decode cX12_ahead 77 = .ok (.goto 10, 3) := by decide +kernel
theorem dX12_ahead_80 : decode cX12_ahead 80 = .ok (.aload_n 0, 1) := by decide +kernel
theorem dX12_ahead_81 : decode cX12_ahead 81 = .ok (.getfield 39, 3) := by decide +kernel
theorem dX12_ahead_84 : decode cX12_ahead 84 = .ok (.bipush 12, 2) := by decide +kernel
theorem dX12_ahead_86 : decode cX12_ahead 86 = .ok (.iaload, 1) := by decide +kernel
theorem dX12_ahead_87 : decode cX12_ahead 87 = .ok (.istore 4, 2) := by decide +kernel
theorem dX12_ahead_89 : decode cX12_ahead 89 = .ok (.aload_n 0, 1) := by decide +kernel
theorem dX12_ahead_90 : decode cX12_ahead 90 = .ok (.invokevirtual 378, 3) := by decide +kernel
theorem dX12_ahead_93 : decode cX12_ahead 93 = .ok (.iload 4, 2) := by decide +kernel
theorem dX12_ahead_95 : decode cX12_ahead 95 = .ok (.ireturn, 1) := by decide +kernel
theorem dX12_count_0 : decode cX12_count 0 = .ok (.iload_n 1, 1) := by decide +kernel
theorem dX12_count_1 : decode cX12_count 1 = .ok (.tableswitch 171 0 15 #[79, 79, 88, 93, 93, 102, 107, 112, 120, 128, 134, 140, 148, 156, 161, 166], 79) := by decide +kernel
theorem dX12_count_80 : decode cX12_count 80 = .ok (.aload_n 0, 1) := by decide +kernel
theorem dX12_count_81 : decode cX12_count 81 = .ok (.getfield 39, 3) := by decide +kernel
theorem dX12_count_84 : decode cX12_count 84 = .ok (.iload_n 1, 1) := by decide +kernel
theorem dX12_count_85 : decode cX12_count 85 = .ok (.iconst 1, 1) := by decide +kernel
theorem dX12_count_86 : decode cX12_count 86 = .ok (.iadd, 1) := by decide +kernel
theorem dX12_count_87 : decode cX12_count 87 = .ok (.iaload, 1) := by decide +kernel
theorem dX12_count_88 : decode cX12_count 88 = .ok (.ireturn, 1) := by decide +kernel
theorem dX12_count_89 : decode cX12_count 89 = .ok (.aload_n 0, 1) := by decide +kernel
theorem dX12_count_90 : decode cX12_count 90 = .ok (.invokevirtual 323, 3) := by decide +kernel
theorem dX12_count_93 : decode cX12_count 93 = .ok (.ireturn, 1) := by decide +kernel
theorem dX12_count_94 : decode cX12_count 94 = .ok (.aload_n 0, 1) := by decide +kernel
theorem dX12_count_95 : decode cX12_count 95 = .ok (.getfield 39, 3) := by decide +kernel
theorem dX12_count_98 : decode cX12_count 98 = .ok (.iload_n 1, 1) := by decide +kernel
theorem dX12_count_99 : decode cX12_count 99 = .ok (.iconst 1, 1) := by decide +kernel
theorem dX12_count_100 : decode cX12_count 100 = .ok (.iadd, 1) := by decide +kernel
theorem dX12_count_101 : decode cX12_count 101 = .ok (.iaload, 1) := by decide +kernel
theorem dX12_count_102 : decode cX12_count 102 = .ok (.ireturn, 1) := by decide +kernel
theorem dX12_count_103 : decode cX12_count 103 = .ok (.aload_n 0, 1) := by decide +kernel
theorem dX12_count_104 : decode cX12_count 104 = .ok (.getfield 267, 3) := by decide +kernel
theorem dX12_count_107 : decode cX12_count 107 = .ok (.ireturn, 1) := by decide +kernel
theorem dX12_count_108 : decode cX12_count 108 = .ok (.aload_n 0, 1) := by decide +kernel
theorem dX12_count_109 : decode cX12_count 109 = .ok (.getfield 42, 3) := by decide +kernel
theorem dX12_count_112 : decode cX12_count 112 = .ok (.ireturn, 1) := by decide +kernel
theorem dX12_count_113 : decode cX12_count 113 = .ok (.aload_n 0, 1) := by decide +kernel
theorem dX12_count_114 : decode cX12_count 114 = .ok (.getfield 39, 3) := by decide +kernel
theorem dX12_count_117 : decode cX12_count 117 = .ok (.bipush 10, 2) := by decide +kernel
theorem dX12_count_119 : decode cX12_count 119 = .ok (.iaload, 1) := by decide +kernel
theorem dX12_count_120 : decode cX12_count 120 = .ok (.ireturn, 1) := by decide +kernel
theorem dX12_count_121 : decode cX12_count 121 = .ok (.aload_n 0, 1) := by decide +kernel
theorem dX12_count_122 : decode cX12_count 122 = .ok (.getfield 39, 3) := by decide +kernel
theorem dX12_count_125 : decode cX12_count 125 = .ok (.bipush 11, 2) := by decide +kernel
theorem dX12_count_127 : decode cX12_count 127 = .ok (.iaload, 1) := by decide +kernel
theorem dX12_count_128 : decode cX12_count 128 = .ok (.ireturn, 1) := by decide +kernel
theorem dX12_count_129 : decode cX12_count 129 = .ok (.aload_n 0, 1) := by decide +kernel
theorem dX12_count_130 : decode cX12_count 130 = .ok (.iconst 1, 1) := by decide +kernel
theorem dX12_count_131 : decode cX12_count 131 = .ok (.invokevirtual 381, 3) := by decide +kernel
theorem dX12_count_134 : decode cX12_count 134 = .ok (.ireturn, 1) := by decide +kernel
theorem dX12_count_135 : decode cX12_count 135 = .ok (.aload_n 0, 1) := by decide +kernel
theorem dX12_count_136 : decode cX12_count 136 = .ok (.iconst 2, 1) := by decide +kernel
theorem dX12_count_137 : decode cX12_count 137 = .ok (.invokevirtual 381, 3) := by decide +kernel
theorem dX12_count_140 : decode cX12_count 140 = .ok (.ireturn, 1) := by decide +kernel
theorem dX12_count_141 : decode cX12_count 141 = .ok (.aload_n 0, 1) := by decide +kernel
theorem dX12_count_142 : decode cX12_count 142 = .ok (.getfield 39, 3) := by decide +kernel
theorem dX12_count_145 : decode cX12_count 145 = .ok (.bipush 12, 2) := by decide +kernel
theorem dX12_count_147 : decode cX12_count 147 = .ok (.iaload, 1) := by decide +kernel
theorem dX12_count_148 : decode cX12_count 148 = .ok (.ireturn, 1) := by decide +kernel
theorem dX12_count_149 : decode cX12_count 149 = .ok (.aload_n 0, 1) := by decide +kernel
theorem dX12_count_150 : decode cX12_count 150 = .ok (.getfield 39, 3) := by decide +kernel
theorem dX12_count_153 : decode cX12_count 153 = .ok (.bipush 114, 2) := by decide +kernel
theorem dX12_count_155 : decode cX12_count 155 = .ok (.iaload, 1) := by decide +kernel
theorem dX12_count_156 : decode cX12_count 156 = .ok (.ireturn, 1) := by decide +kernel
theorem dX12_count_157 : decode cX12_count 157 = .ok (.aload_n 0, 1) := by decide +kernel
theorem dX12_count_158 : decode cX12_count 158 = .ok (.getfield 276, 3) := by decide +kernel
theorem dX12_count_161 : decode cX12_count 161 = .ok (.ireturn, 1) := by decide +kernel
theorem dX12_count_162 : decode cX12_count 162 = .ok (.aload_n 0, 1) := by decide +kernel
theorem dX12_count_163 : decode cX12_count 163 = .ok (.getfield 442, 3) := by decide +kernel
theorem dX12_count_166 : decode cX12_count 166 = .ok (.ireturn, 1) := by decide +kernel
theorem dX12_count_167 : decode cX12_count 167 = .ok (.aload_n 0, 1) := by decide +kernel
theorem dX12_count_168 : decode cX12_count 168 = .ok (.getfield 89, 3) := by decide +kernel
theorem dX12_count_171 : decode cX12_count 171 = .ok (.ireturn, 1) := by decide +kernel
theorem dX12_count_172 : decode cX12_count 172 = .ok (.iconst (-1), 1) := by decide +kernel
theorem dX12_count_173 : decode cX12_count 173 = .ok (.ireturn, 1) := by decide +kernel
theorem dX12_eased_0 : decode cX12_eased 0 = .ok (.aload_n 0, 1) := by decide +kernel
theorem dX12_eased_1 : decode cX12_eased 1 = .ok (.iload_n 1, 1) := by decide +kernel
theorem dX12_eased_2 : decode cX12_eased 2 = .ok (.invokevirtual 314, 3) := by decide +kernel
theorem dX12_eased_5 : decode cX12_eased 5 = .ok (.ifCond .eq 11, 3) := by decide +kernel
theorem dX12_eased_8 : decode cX12_eased 8 = .ok (.aload_n 0, 1) := by decide +kernel
theorem dX12_eased_9 : decode cX12_eased 9 = .ok (.iload_n 1, 1) := by decide +kernel
theorem dX12_eased_10 : decode cX12_eased 10 = .ok (.invokevirtual 384, 3) := by decide +kernel
theorem dX12_eased_13 : decode cX12_eased 13 = .ok (.goto 4, 3) := by decide +kernel
theorem dX12_eased_16 : decode cX12_eased 16 = .ok (.iconst (-1), 1) := by decide +kernel
theorem dX12_eased_17 : decode cX12_eased 17 = .ok (.ireturn, 1) := by decide +kernel
theorem dX12_fails_0 : decode cX12_fails 0 = .ok (.aload_n 0, 1) := by decide +kernel
theorem dX12_fails_1 : decode cX12_fails 1 = .ok (.getfield 96, 3) := by decide +kernel
theorem dX12_fails_4 : decode cX12_fails 4 = .ok (.ifCond .ne 15, 3) := by decide +kernel
theorem dX12_fails_7 : decode cX12_fails 7 = .ok (.aload_n 0, 1) := by decide +kernel
theorem dX12_fails_8 : decode cX12_fails 8 = .ok (.iconst 1, 1) := by decide +kernel
theorem dX12_fails_9 : decode cX12_fails 9 = .ok (.bipush 8, 2) := by decide +kernel
theorem dX12_fails_11 : decode cX12_fails 11 = .ok (.iload_n 2, 1) := by decide +kernel
theorem dX12_fails_12 : decode cX12_fails 12 = .ok (.imul, 1) := by decide +kernel
theorem dX12_fails_13 : decode cX12_fails 13 = .ok (.iadd, 1) := by decide +kernel
theorem dX12_fails_14 : decode cX12_fails 14 = .ok (.iload_n 1, 1) := by decide +kernel
theorem dX12_fails_15 : decode cX12_fails 15 = .ok (.iadd, 1) := by decide +kernel
theorem dX12_fails_16 : decode cX12_fails 16 = .ok (.putfield 96, 3) := by decide +kernel
theorem dX12_fails_19 : decode cX12_fails 19 = .ok (.iconst 0, 1) := by decide +kernel
theorem dX12_fails_20 : decode cX12_fails 20 = .ok (.ireturn, 1) := by decide +kernel
theorem dX12_force_0 : decode cX12_force 0 = .ok (.iload_n 1, 1) := by decide +kernel
theorem dX12_force_1 : decode cX12_force 1 = .ok (.iconst (-1), 1) := by decide +kernel
theorem dX12_force_2 : decode cX12_force 2 = .ok (.if_icmp .eq 14, 3) := by decide +kernel
theorem dX12_force_5 : decode cX12_force 5 = .ok (.aload_n 0, 1) := by decide +kernel
theorem dX12_force_6 : decode cX12_force 6 = .ok (.iload_n 1, 1) := by decide +kernel
theorem dX12_force_7 : decode cX12_force 7 = .ok (.invokevirtual 306, 3) := by decide +kernel
theorem dX12_force_10 : decode cX12_force 10 = .ok (.ifCond .ne 6, 3) := by decide +kernel
theorem dX12_force_13 : decode cX12_force 13 = .ok (.bipush (-2), 2) := by decide +kernel
theorem dX12_force_15 : decode cX12_force 15 = .ok (.ireturn, 1) := by decide +kernel
theorem dX12_force_16 : decode cX12_force 16 = .ok (.aload_n 0, 1) := by decide +kernel
theorem dX12_force_17 : decode cX12_force 17 = .ok (.getfield 42, 3) := by decide +kernel
theorem dX12_force_20 : decode cX12_force 20 = .ok (.istore_n 2, 1) := by decide +kernel
theorem dX12_force_21 : decode cX12_force 21 = .ok (.aload_n 0, 1) := by decide +kernel
theorem dX12_force_22 : decode cX12_force 22 = .ok (.iload_n 1, 1) := by decide +kernel
theorem dX12_force_23 : decode cX12_force 23 = .ok (.putfield 42, 3) := by decide +kernel
theorem dX12_force_26 : decode cX12_force 26 = .ok (.iload_n 2, 1) := by decide +kernel
theorem dX12_force_27 : decode cX12_force 27 = .ok (.ireturn, 1) := by decide +kernel
theorem dX12_given_0 : decode cX12_given 0 = .ok (.aload_n 0, 1) := by decide +kernel
theorem dX12_given_1 : decode cX12_given 1 = .ok (.invokevirtual 294, 3) := by decide +kernel
theorem dX12_given_4 : decode cX12_given 4 = .ok (.ifCond .eq 25, 3) := by decide +kernel
theorem dX12_given_7 : decode cX12_given 7 = .ok (.iload_n 1, 1) := by decide +kernel
theorem dX12_given_8 : decode cX12_given 8 = .ok (.i2l, 1) := by decide +kernel
theorem dX12_given_9 : decode cX12_given 9 = .ok (.lconst 1, 1) := by decide +kernel
theorem dX12_given_10 : decode cX12_given 10 = .ok (.ldc2_w 404, 3) := by decide +kernel
theorem dX12_given_13 : decode cX12_given 13 = .ok (.invokestatic 127, 3) := by decide +kernel
theorem dX12_given_16 : decode cX12_given 16 = .ok (.ifCond .eq 13, 3) := by decide +kernel
theorem dX12_given_19 : decode cX12_given 19 = .ok (.iload_n 2, 1) := by decide +kernel
theorem dX12_given_20 : decode cX12_given 20 = .ok (.i2l, 1) := by decide +kernel
theorem dX12_given_21 : decode cX12_given 21 = .ok (.lconst 0, 1) := by decide +kernel
theorem dX12_given_22 : decode cX12_given 22 = .ok (.lconst 1, 1) := by decide +kernel
theorem dX12_given_23 : decode cX12_given 23 = .ok (.invokestatic 127, 3) := by decide +kernel
theorem dX12_given_26 : decode cX12_given 26 = .ok (.ifCond .ne 6, 3) := by decide +kernel
theorem dX12_given_29 : decode cX12_given 29 = .ok (.bipush (-2), 2) := by decide +kernel
theorem dX12_given_31 : decode cX12_given 31 = .ok (.ireturn, 1) := by decide +kernel
theorem dX12_given_32 : decode cX12_given 32 = .ok (.aload_n 0, 1) := by decide +kernel
theorem dX12_given_33 : decode cX12_given 33 = .ok (.invokevirtual 372, 3) := by decide +kernel
theorem dX12_given_36 : decode cX12_given 36 = .ok (.iconst (-1), 1) := by decide +kernel
theorem dX12_given_37 : decode cX12_given 37 = .ok (.istore_n 3, 1) := by decide +kernel
theorem dX12_given_38 : decode cX12_given 38 = .ok (.aload_n 0, 1) := by decide +kernel
theorem dX12_given_39 : decode cX12_given 39 = .ok (.iload_n 1, 1) := by decide +kernel
theorem dX12_given_40 : decode cX12_given 40 = .ok (.invokevirtual 406, 3) := by decide +kernel
theorem dX12_given_43 : decode cX12_given 43 = .ok (.istore 4, 2) := by decide +kernel
theorem dX12_given_45 : decode cX12_given 45 = .ok (.iconst 0, 1) := by decide +kernel
theorem dX12_given_46 : decode cX12_given 46 = .ok (.istore 5, 2) := by decide +kernel
theorem dX12_given_48 : decode cX12_given 48 = .ok (.iload 5, 2) := by decide +kernel
theorem dX12_given_50 : decode cX12_given 50 = .ok (.aload_n 0, 1) := by decide +kernel
theorem dX12_given_51 : decode cX12_given 51 = .ok (.getfield 39, 3) := by decide +kernel
theorem dX12_given_54 : decode cX12_given 54 = .ok (.iconst 5, 1) := by decide +kernel
theorem dX12_given_55 : decode cX12_given 55 = .ok (.iaload, 1) := by decide +kernel
theorem dX12_given_56 : decode cX12_given 56 = .ok (.if_icmp .ge 39, 3) := by decide +kernel
theorem dX12_given_59 : decode cX12_given 59 = .ok (.aload_n 0, 1) := by decide +kernel
theorem dX12_given_60 : decode cX12_given 60 = .ok (.iload 5, 2) := by decide +kernel
theorem dX12_given_62 : decode cX12_given 62 = .ok (.invokevirtual 409, 3) := by decide +kernel
theorem dX12_given_65 : decode cX12_given 65 = .ok (.aload_n 0, 1) := by decide +kernel
theorem dX12_given_66 : decode cX12_given 66 = .ok (.iload_n 1, 1) := by decide +kernel
theorem dX12_given_67 : decode cX12_given 67 = .ok (.invokevirtual 406, 3) := by decide +kernel
theorem dX12_given_70 : decode cX12_given 70 = .ok (.istore 6, 2) := by decide +kernel
theorem dX12_given_72 : decode cX12_given 72 = .ok (.iload 6, 2) := by decide +kernel
theorem dX12_given_74 : decode cX12_given 74 = .ok (.iload 4, 2) := by decide +kernel
theorem dX12_given_76 : decode cX12_given 76 = .ok (.if_icmp .gt 6, 3) := by decide +kernel
theorem dX12_given_79 : decode cX12_given 79 = .ok (.goto 10, 3) := by decide +kernel
theorem dX12_given_82 : decode cX12_given 82 = .ok (.iload 5, 2) := by decide +kernel
theorem dX12_given_84 : decode cX12_given 84 = .ok (.istore_n 3, 1) := by decide +kernel
theorem dX12_given_85 : decode cX12_given 85 = .ok (.iload 6, 2) := by decide +kernel
theorem dX12_given_87 : decode cX12_given 87 = .ok (.istore 4, 2) := by decide +kernel
theorem dX12_given_89 : decode cX12_given 89 = .ok (.iinc 5 1, 3) := by decide +kernel
theorem dX12_given_92 : decode cX12_given 92 = .ok (.goto (-44), 3) := by decide +kernel
theorem dX12_given_95 : decode cX12_given 95 = .ok (.iload_n 2, 1) := by decide +kernel
theorem dX12_given_96 : decode cX12_given 96 = .ok (.ifCond .ne 7, 3) := by decide +kernel
theorem dX12_given_99 : decode cX12_given 99 = .ok (.iload_n 3, 1) := by decide +kernel
theorem dX12_given_100 : decode cX12_given 100 = .ok (.goto 5, 3) := by decide +kernel
theorem dX12_given_103 : decode cX12_given 103 = .ok (.iload 4, 2) := by decide +kernel
theorem dX12_given_105 : decode cX12_given 105 = .ok (.ireturn, 1) := by decide +kernel
theorem dX12_green_0 : decode cX12_green 0 = .ok (.aload_n 0, 1) := by decide +kernel
theorem dX12_green_1 : decode cX12_green 1 = .ok (.bipush 6, 2) := by decide +kernel
theorem dX12_green_3 : decode cX12_green 3 = .ok (.putfield 157, 3) := by decide +kernel
theorem dX12_green_6 : decode cX12_green 6 = .ok (.iconst 0, 1) := by decide +kernel
theorem dX12_green_7 : decode cX12_green 7 = .ok (.istore_n 1, 1) := by decide +kernel
theorem dX12_green_8 : decode cX12_green 8 = .ok (.iload_n 1, 1) := by decide +kernel
theorem dX12_green_9 : decode cX12_green 9 = .ok (.bipush 84, 2) := by decide +kernel
theorem dX12_green_11 : decode cX12_green 11 = .ok (.if_icmp .ge 16, 3) := by decide +kernel
theorem dX12_green_14 : decode cX12_green 14 = .ok (.aload_n 0, 1) := by decide +kernel
theorem dX12_green_15 : decode cX12_green 15 = .ok (.getfield 26, 3) := by decide +kernel
theorem dX12_green_18 : decode cX12_green 18 = .ok (.iload_n 1, 1) := by decide +kernel
theorem dX12_green_19 : decode cX12_green 19 = .ok (.iconst 0, 1) := by decide +kernel
theorem dX12_green_20 : decode cX12_green 20 = .ok (.iastore, 1) := by decide +kernel
theorem dX12_green_21 : decode cX12_green 21 = .ok (.iinc 1 1, 3) := by decide +kernel
theorem dX12_green_24 : decode cX12_green 24 = .ok (.goto (-16), 3) := by decide +kernel
theorem dX12_green_27 : decode cX12_green 27 = .ok (.aload_n 0, 1) := by decide +kernel
theorem dX12_green_28 : decode cX12_green 28 = .ok (.invokevirtual 270, 3) := by decide +kernel
theorem dX12_green_31 : decode cX12_green 31 = .ok (.ifCond .ne 11, 3) := by decide +kernel
theorem dX12_green_34 : decode cX12_green 34 = .ok (.bipush (-2), 2) := by decide +kernel
theorem dX12_green_36 : decode cX12_green 36 = .ok (.aload_n 0, 1) := by decide +kernel
theorem dX12_green_37 : decode cX12_green 37 = .ok (.getfield 96, 3) := by decide +kernel
theorem dX12_green_40 : decode cX12_green 40 = .ok (.isub, 1) := by decide +kernel
theorem dX12_green_41 : decode cX12_green 41 = .ok (.ireturn, 1) := by decide +kernel
theorem dX12_green_42 : decode cX12_green 42 = .ok (.iconst 0, 1) := by decide +kernel
theorem dX12_green_43 : decode cX12_green 43 = .ok (.istore_n 1, 1) := by decide +kernel
theorem dX12_green_44 : decode cX12_green 44 = .ok (.iload_n 1, 1) := by decide +kernel
theorem dX12_green_45 : decode cX12_green 45 = .ok (.bipush 115, 2) := by decide +kernel
theorem dX12_green_47 : decode cX12_green 47 = .ok (.if_icmp .ge 31, 3) := by decide +kernel
theorem dX12_green_50 : decode cX12_green 50 = .ok (.aload_n 0, 1) := by decide +kernel
theorem dX12_green_51 : decode cX12_green 51 = .ok (.getfield 39, 3) := by decide +kernel
theorem dX12_green_54 : decode cX12_green 54 = .ok (.iload_n 1, 1) := by decide +kernel
theorem dX12_green_55 : decode cX12_green 55 = .ok (.iload_n 1, 1) := by decide +kernel
theorem dX12_green_56 : decode cX12_green 56 = .ok (.bipush 84, 2) := by decide +kernel
theorem dX12_green_58 : decode cX12_green 58 = .ok (.if_icmp .ge 12, 3) := by decide +kernel
theorem dX12_green_61 : decode cX12_green 61 = .ok (.aload_n 0, 1) := by decide +kernel
theorem dX12_green_62 : decode cX12_green 62 = .ok (.getfield 26, 3) := by decide +kernel
theorem dX12_green_65 : decode cX12_green 65 = .ok (.iload_n 1, 1) := by decide +kernel
theorem dX12_green_66 : decode cX12_green 66 = .ok (.iaload, 1) := by decide +kernel
theorem dX12_green_67 : decode cX12_green 67 = .ok (.goto 4, 3) := by decide +kernel
theorem dX12_green_70 : decode cX12_green 70 = .ok (.iconst 0, 1) := by decide +kernel
theorem dX12_green_71 : decode cX12_green 71 = .ok (.iastore, 1) := by decide +kernel
theorem dX12_green_72 : decode cX12_green 72 = .ok (.iinc 1 1, 3) := by decide +kernel
theorem dX12_green_75 : decode cX12_green 75 = .ok (.goto (-31), 3) := by decide +kernel
theorem dX12_green_78 : decode cX12_green 78 = .ok (.aload_n 0, 1) := by decide +kernel
theorem dX12_green_79 : decode cX12_green 79 = .ok (.invokevirtual 273, 3) := by decide +kernel
theorem dX12_green_82 : decode cX12_green 82 = .ok (.aload_n 0, 1) := by decide +kernel
theorem dX12_green_83 : decode cX12_green 83 = .ok (.iconst 0, 1) := by decide +kernel
theorem dX12_green_84 : decode cX12_green 84 = .ok (.putfield 276, 3) := by decide +kernel
theorem dX12_green_87 : decode cX12_green 87 = .ok (.aload_n 0, 1) := by decide +kernel
theorem dX12_green_88 : decode cX12_green 88 = .ok (.getfield 39, 3) := by decide +kernel
theorem dX12_green_91 : decode cX12_green 91 = .ok (.iconst 5, 1) := by decide +kernel
theorem dX12_green_92 : decode cX12_green 92 = .ok (.iaload, 1) := by decide +kernel
theorem dX12_green_93 : decode cX12_green 93 = .ok (.ireturn, 1) := by decide +kernel
theorem dX12_gusts_0 : decode cX12_gusts 0 = .ok (.aload_n 0, 1) := by decide +kernel
theorem dX12_gusts_1 : decode cX12_gusts 1 = .ok (.invokevirtual 294, 3) := by decide +kernel
theorem dX12_gusts_4 : decode cX12_gusts 4 = .ok (.ifCond .eq 50, 3) := by decide +kernel
theorem dX12_gusts_7 : decode cX12_gusts 7 = .ok (.iload_n 1, 1) := by decide +kernel
theorem dX12_gusts_8 : decode cX12_gusts 8 = .ok (.i2l, 1) := by decide +kernel
theorem dX12_gusts_9 : decode cX12_gusts 9 = .ok (.lconst 1, 1) := by decide +kernel
theorem dX12_gusts_10 : decode cX12_gusts 10 = .ok (.ldc2_w 457, 3) := by decide +kernel
theorem dX12_gusts_13 : decode cX12_gusts 13 = .ok (.invokestatic 127, 3) := by decide +kernel
theorem dX12_gusts_16 : decode cX12_gusts 16 = .ok (.ifCond .eq 38, 3) := by decide +kernel
theorem dX12_gusts_19 : decode cX12_gusts 19 = .ok (.iload_n 2, 1) := by decide +kernel
theorem dX12_gusts_20 : decode cX12_gusts 20 = .ok (.i2l, 1) := by decide +kernel
theorem dX12_gusts_21 : decode cX12_gusts 21 = .ok (.lconst 1, 1) := by decide +kernel
theorem dX12_gusts_22 : decode cX12_gusts 22 = .ok (.ldc2_w 404, 3) := by decide +kernel
theorem dX12_gusts_25 : decode cX12_gusts 25 = .ok (.invokestatic 127, 3) := by decide +kernel
theorem dX12_gusts_28 : decode cX12_gusts 28 = .ok (.ifCond .eq 26, 3) := by decide +kernel
theorem dX12_gusts_31 : decode cX12_gusts 31 = .ok (.iload_n 3, 1) := by decide +kernel
theorem dX12_gusts_32 : decode cX12_gusts 32 = .ok (.i2l, 1) := by decide +kernel
theorem dX12_gusts_33 : decode cX12_gusts 33 = .ok (.lconst 0, 1) := by decide +kernel
theorem dX12_gusts_34 : decode cX12_gusts 34 = .ok (.ldc2_w 370, 3) := by decide +kernel
theorem dX12_gusts_37 : decode cX12_gusts 37 = .ok (.invokestatic 127, 3) := by decide +kernel
theorem dX12_gusts_40 : decode cX12_gusts 40 = .ok (.ifCond .eq 14, 3) := by decide +kernel
theorem dX12_gusts_43 : decode cX12_gusts 43 = .ok (.iload 4, 2) := by decide +kernel
theorem dX12_gusts_45 : decode cX12_gusts 45 = .ok (.i2l, 1) := by decide +kernel
theorem dX12_gusts_46 : decode cX12_gusts 46 = .ok (.lconst 0, 1) := by decide +kernel
theorem dX12_gusts_47 : decode cX12_gusts 47 = .ok (.lconst 1, 1) := by decide +kernel
theorem dX12_gusts_48 : decode cX12_gusts 48 = .ok (.invokestatic 127, 3) := by decide +kernel
theorem dX12_gusts_51 : decode cX12_gusts 51 = .ok (.ifCond .ne 5, 3) := by decide +kernel
theorem dX12_gusts_54 : decode cX12_gusts 54 = .ok (.iconst (-1), 1) := by decide +kernel
theorem dX12_gusts_55 : decode cX12_gusts 55 = .ok (.ireturn, 1) := by decide +kernel
theorem dX12_gusts_56 : decode cX12_gusts 56 = .ok (.aload_n 0, 1) := by decide +kernel
theorem dX12_gusts_57 : decode cX12_gusts 57 = .ok (.aload_n 0, 1) := by decide +kernel
theorem dX12_gusts_58 : decode cX12_gusts 58 = .ok (.getfield 442, 3) := by decide +kernel
theorem dX12_gusts_61 : decode cX12_gusts 61 = .ok (.i2l, 1) := by decide +kernel
theorem dX12_gusts_62 : decode cX12_gusts 62 = .ok (.putfield 445, 3) := by decide +kernel
theorem dX12_gusts_65 : decode cX12_gusts 65 = .ok (.iconst 0, 1) := by decide +kernel
theorem dX12_gusts_66 : decode cX12_gusts 66 = .ok (.istore 5, 2) := by decide +kernel
theorem dX12_gusts_68 : decode cX12_gusts 68 = .ok (.iconst 0, 1) := by decide +kernel
theorem dX12_gusts_69 : decode cX12_gusts 69 = .ok (.istore 6, 2) := by decide +kernel
theorem dX12_gusts_71 : decode cX12_gusts 71 = .ok (.aload_n 0, 1) := by decide +kernel
theorem dX12_gusts_72 : decode cX12_gusts 72 = .ok (.iconst 1, 1) := by decide +kernel
theorem dX12_gusts_73 : decode cX12_gusts 73 = .ok (.invokevirtual 381, 3) := by decide +kernel
theorem dX12_gusts_76 : decode cX12_gusts 76 = .ok (.istore 7, 2) := by decide +kernel
theorem dX12_gusts_78 : decode cX12_gusts 78 = .ok (.aload_n 0, 1) := by decide +kernel
theorem dX12_gusts_79 : decode cX12_gusts 79 = .ok (.invokevirtual 372, 3) := by decide +kernel
theorem dX12_gusts_82 : decode cX12_gusts 82 = .ok (.iconst 0, 1) := by decide +kernel
theorem dX12_gusts_83 : decode cX12_gusts 83 = .ok (.istore 8, 2) := by decide +kernel
theorem dX12_gusts_85 : decode cX12_gusts 85 = .ok (.iload 8, 2) := by decide +kernel
theorem dX12_gusts_87 : decode cX12_gusts 87 = .ok (.iload_n 1, 1) := by decide +kernel
theorem dX12_gusts_88 : decode cX12_gusts 88 = .ok (.if_icmp .ge 78, 3) := by decide +kernel
theorem dX12_gusts_91 : decode cX12_gusts 91 = .ok (.iconst 0, 1) := by decide +kernel
theorem dX12_gusts_92 : decode cX12_gusts 92 = .ok (.istore 9, 2) := by decide +kernel
theorem dX12_gusts_94 : decode cX12_gusts 94 = .ok (.iload 9, 2) := by decide +kernel
theorem dX12_gusts_96 : decode cX12_gusts 96 = .ok (.iload_n 2, 1) := by decide +kernel
theorem dX12_gusts_97 : decode cX12_gusts 97 = .ok (.if_icmp .ge 34, 3) := by decide +kernel
theorem dX12_gusts_100 : decode cX12_gusts 100 = .ok (.aload_n 0, 1) := by decide +kernel
theorem dX12_gusts_101 : decode cX12_gusts 101 = .ok (.bipush 100, 2) := by decide +kernel
theorem dX12_gusts_103 : decode cX12_gusts 103 = .ok (.invokevirtual 459, 3) := by decide +kernel
theorem dX12_gusts_106 : decode cX12_gusts 106 = .ok (.iload_n 3, 1) := by decide +kernel
theorem dX12_gusts_107 : decode cX12_gusts 107 = .ok (.if_icmp .ge 13, 3) := by decide +kernel
theorem dX12_gusts_110 : decode cX12_gusts 110 = .ok (.aload_n 0, 1) := by decide +kernel
theorem dX12_gusts_111 : decode cX12_gusts 111 = .ok (.aload_n 0, 1) := by decide +kernel
theorem dX12_gusts_112 : decode cX12_gusts 112 = .ok (.bipush 9, 2) := by decide +kernel
theorem dX12_gusts_114 : decode cX12_gusts 114 = .ok (.invokevirtual 459, 3) := by decide +kernel
theorem dX12_gusts_117 : decode cX12_gusts 117 = .ok (.putfield 46, 3) := by decide +kernel
theorem dX12_gusts_120 : decode cX12_gusts 120 = .ok (.aload_n 0, 1) := by decide +kernel
theorem dX12_gusts_121 : decode cX12_gusts 121 = .ok (.invokevirtual 360, 3) := by decide +kernel
theorem dX12_gusts_124 : decode cX12_gusts 124 = .ok (.pop, 1) := by decide +kernel
theorem dX12_gusts_125 : decode cX12_gusts 125 = .ok (.iinc 9 1, 3) := by decide +kernel
theorem dX12_gusts_128 : decode cX12_gusts 128 = .ok (.goto (-34), 3) := by decide +kernel
theorem dX12_gusts_131 : decode cX12_gusts 131 = .ok (.iload 5, 2) := by decide +kernel
theorem dX12_gusts_133 : decode cX12_gusts 133 = .ok (.iload 7, 2) := by decide +kernel
theorem dX12_gusts_135 : decode cX12_gusts 135 = .ok (.aload_n 0, 1) := by decide +kernel
theorem dX12_gusts_136 : decode cX12_gusts 136 = .ok (.iconst 1, 1) := by decide +kernel
theorem dX12_gusts_137 : decode cX12_gusts 137 = .ok (.invokevirtual 381, 3) := by decide +kernel
theorem dX12_gusts_140 : decode cX12_gusts 140 = .ok (.isub, 1) := by decide +kernel
theorem dX12_gusts_141 : decode cX12_gusts 141 = .ok (.iadd, 1) := by decide +kernel
theorem dX12_gusts_142 : decode cX12_gusts 142 = .ok (.istore 5, 2) := by decide +kernel
theorem dX12_gusts_144 : decode cX12_gusts 144 = .ok (.iload 6, 2) := by decide +kernel
theorem dX12_gusts_146 : decode cX12_gusts 146 = .ok (.aload_n 0, 1) := by decide +kernel
theorem dX12_gusts_147 : decode cX12_gusts 147 = .ok (.getfield 39, 3) := by decide +kernel
theorem dX12_gusts_150 : decode cX12_gusts 150 = .ok (.bipush 12, 2) := by decide +kernel
theorem dX12_gusts_152 : decode cX12_gusts 152 = .ok (.iaload, 1) := by decide +kernel
theorem dX12_gusts_153 : decode cX12_gusts 153 = .ok (.iadd, 1) := by decide +kernel
theorem dX12_gusts_154 : decode cX12_gusts 154 = .ok (.istore 6, 2) := by decide +kernel
theorem dX12_gusts_156 : decode cX12_gusts 156 = .ok (.aload_n 0, 1) := by decide +kernel
theorem dX12_gusts_157 : decode cX12_gusts 157 = .ok (.invokevirtual 378, 3) := by decide +kernel
theorem dX12_gusts_160 : decode cX12_gusts 160 = .ok (.iinc 8 1, 3) := by decide +kernel
theorem dX12_gusts_163 : decode cX12_gusts 163 = .ok (.goto (-78), 3) := by decide +kernel
theorem dX12_gusts_166 : decode cX12_gusts 166 = .ok (.iload 4, 2) := by decide +kernel
theorem dX12_gusts_168 : decode cX12_gusts 168 = .ok (.ifCond .ne 8, 3) := by decide +kernel
theorem dX12_gusts_171 : decode cX12_gusts 171 = .ok (.iload 5, 2) := by decide +kernel
theorem dX12_gusts_173 : decode cX12_gusts 173 = .ok (.goto 5, 3) := by decide +kernel
theorem dX12_gusts_176 : decode cX12_gusts 176 = .ok (.iload 6, 2) := by decide +kernel
theorem dX12_gusts_178 : decode cX12_gusts 178 = .ok (.ireturn, 1) := by decide +kernel
theorem dX12_image_0 : decode cX12_image 0 = .ok (.iload_n 1, 1) := by decide +kernel
theorem dX12_image_1 : decode cX12_image 1 = .ok (.i2l, 1) := by decide +kernel
theorem dX12_image_2 : decode cX12_image 2 = .ok (.lconst 0, 1) := by decide +kernel
theorem dX12_image_3 : decode cX12_image 3 = .ok (.ldc2_w 462, 3) := by decide +kernel
theorem dX12_image_6 : decode cX12_image 6 = .ok (.invokestatic 127, 3) := by decide +kernel
theorem dX12_image_9 : decode cX12_image 9 = .ok (.ifCond .ne 5, 3) := by decide +kernel
theorem dX12_image_12 : decode cX12_image 12 = .ok (.iconst (-1), 1) := by decide +kernel
theorem dX12_image_13 : decode cX12_image 13 = .ok (.ireturn, 1) := by decide +kernel
theorem dX12_image_14 : decode cX12_image 14 = .ok (.aload_n 0, 1) := by decide +kernel
theorem dX12_image_15 : decode cX12_image 15 = .ok (.getfield 86, 3) := by decide +kernel
theorem dX12_image_18 : decode cX12_image 18 = .ok (.iload_n 1, 1) := by decide +kernel
theorem dX12_image_19 : decode cX12_image 19 = .ok (.iconst 1, 1) := by decide +kernel
theorem dX12_image_20 : decode cX12_image 20 = .ok (.bastore, 1) := by decide +kernel
theorem dX12_image_21 : decode cX12_image 21 = .ok (.aload_n 0, 1) := by decide +kernel
theorem dX12_image_22 : decode cX12_image 22 = .ok (.getfield 80, 3) := by decide +kernel
theorem dX12_image_25 : decode cX12_image 25 = .ok (.iload_n 1, 1) := by decide +kernel
theorem dX12_image_26 : decode cX12_image 26 = .ok (.aload_n 0, 1) := by decide +kernel
theorem dX12_image_27 : decode cX12_image 27 = .ok (.getfield 42, 3) := by decide +kernel
theorem dX12_image_30 : decode cX12_image 30 = .ok (.iastore, 1) := by decide +kernel
theorem dX12_image_31 : decode cX12_image 31 = .ok (.aload_n 0, 1) := by decide +kernel
theorem dX12_image_32 : decode cX12_image 32 = .ok (.getfield 83, 3) := by decide +kernel
theorem dX12_image_35 : decode cX12_image 35 = .ok (.iload_n 1, 1) := by decide +kernel
theorem dX12_image_36 : decode cX12_image 36 = .ok (.aload_n 0, 1) := by decide +kernel
theorem dX12_image_37 : decode cX12_image 37 = .ok (.getfield 442, 3) := by decide +kernel
theorem dX12_image_40 : decode cX12_image 40 = .ok (.iastore, 1) := by decide +kernel
theorem dX12_image_41 : decode cX12_image 41 = .ok (.iconst 0, 1) := by decide +kernel
theorem dX12_image_42 : decode cX12_image 42 = .ok (.istore_n 2, 1) := by decide +kernel
theorem dX12_image_43 : decode cX12_image 43 = .ok (.iload_n 2, 1) := by decide +kernel
theorem dX12_image_44 : decode cX12_image 44 = .ok (.bipush 115, 2) := by decide +kernel
theorem dX12_image_46 : decode cX12_image 46 = .ok (.if_icmp .ge 26, 3) := by decide +kernel
theorem dX12_image_49 : decode cX12_image 49 = .ok (.aload_n 0, 1) := by decide +kernel
theorem dX12_image_50 : decode cX12_image 50 = .ok (.getfield 77, 3) := by decide +kernel
theorem dX12_image_53 : decode cX12_image 53 = .ok (.bipush 115, 2) := by decide +kernel
theorem dX12_image_55 : decode cX12_image 55 = .ok (.iload_n 1, 1) := by decide +kernel
theorem dX12_image_56 : decode cX12_image 56 = .ok (.imul, 1) := by decide +kernel
theorem dX12_image_57 : decode cX12_image 57 = .ok (.iload_n 2, 1) := by decide +kernel
theorem dX12_image_58 : decode cX12_image 58 = .ok (.iadd, 1) := by decide +kernel
theorem dX12_image_59 : decode cX12_image 59 = .ok (.aload_n 0, 1) := by decide +kernel
theorem dX12_image_60 : decode cX12_image 60 = .ok (.getfield 39, 3) := by decide +kernel
theorem dX12_image_63 : decode cX12_image 63 = .ok (.iload_n 2, 1) := by decide +kernel
theorem dX12_image_64 : decode cX12_image 64 = .ok (.iaload, 1) := by decide +kernel
theorem dX12_image_65 : decode cX12_image 65 = .ok (.iastore, 1) := by decide +kernel
theorem dX12_image_66 : decode cX12_image 66 = .ok (.iinc 2 1, 3) := by decide +kernel
theorem dX12_image_69 : decode cX12_image 69 = .ok (.goto (-26), 3) := by decide +kernel
theorem dX12_image_72 : decode cX12_image 72 = .ok (.aload_n 0, 1) := by decide +kernel
theorem dX12_image_73 : decode cX12_image 73 = .ok (.getfield 39, 3) := by decide +kernel
theorem dX12_image_76 : decode cX12_image 76 = .ok (.bipush 10, 2) := by decide +kernel
theorem dX12_image_78 : decode cX12_image 78 = .ok (.iaload, 1) := by decide +kernel
theorem dX12_image_79 : decode cX12_image 79 = .ok (.ireturn, 1) := by decide +kernel
theorem dX12_pence_0 : decode cX12_pence 0 = .ok (.aload_n 0, 1) := by decide +kernel
theorem dX12_pence_1 : decode cX12_pence 1 = .ok (.iload_n 2, 1) := by decide +kernel
theorem dX12_pence_2 : decode cX12_pence 2 = .ok (.invokevirtual 309, 3) := by decide +kernel
theorem dX12_pence_5 : decode cX12_pence 5 = .ok (.ifCond .eq 15, 3) := by decide +kernel
theorem dX12_pence_8 : decode cX12_pence 8 = .ok (.iload_n 1, 1) := by decide +kernel
theorem dX12_pence_9 : decode cX12_pence 9 = .ok (.i2l, 1) := by decide +kernel
theorem dX12_pence_10 : decode cX12_pence 10 = .ok (.lconst 0, 1) := by decide +kernel
theorem dX12_pence_11 : decode cX12_pence 11 = .ok (.ldc2_w 422, 3) := by decide +kernel
theorem dX12_pence_14 : decode cX12_pence 14 = .ok (.invokestatic 127, 3) := by decide +kernel
theorem dX12_pence_17 : decode cX12_pence 17 = .ok (.ifCond .ne 5, 3) := by decide +kernel
theorem dX12_pence_20 : decode cX12_pence 20 = .ok (.iconst (-1), 1) := by decide +kernel
theorem dX12_pence_21 : decode cX12_pence 21 = .ok (.ireturn, 1) := by decide +kernel
theorem dX12_pence_22 : decode cX12_pence 22 = .ok (.lconst 0, 1) := by decide +kernel
theorem dX12_pence_23 : decode cX12_pence 23 = .ok (.lstore_n 3, 1) := by decide +kernel
theorem dX12_pence_24 : decode cX12_pence 24 = .ok (.iconst 0, 1) := by decide +kernel
theorem dX12_pence_25 : decode cX12_pence 25 = .ok (.istore 5, 2) := by decide +kernel
theorem dX12_pence_27 : decode cX12_pence 27 = .ok (.iload 5, 2) := by decide +kernel
theorem dX12_pence_29 : decode cX12_pence 29 = .ok (.aload_n 0, 1) := by decide +kernel
theorem dX12_pence_30 : decode cX12_pence 30 = .ok (.getfield 39, 3) := by decide +kernel
theorem dX12_pence_33 : decode cX12_pence 33 = .ok (.iconst 4, 1) := by decide +kernel
theorem dX12_pence_34 : decode cX12_pence 34 = .ok (.iaload, 1) := by decide +kernel
theorem dX12_pence_35 : decode cX12_pence 35 = .ok (.if_icmp .ge 23, 3) := by decide +kernel
theorem dX12_pence_38 : decode cX12_pence 38 = .ok (.lload_n 3, 1) := by decide +kernel
theorem dX12_pence_39 : decode cX12_pence 39 = .ok (.aload_n 0, 1) := by decide +kernel
theorem dX12_pence_40 : decode cX12_pence 40 = .ok (.getfield 39, 3) := by decide +kernel
theorem dX12_pence_43 : decode cX12_pence 43 = .ok (.bipush 19, 2) := by decide +kernel
theorem dX12_pence_45 : decode cX12_pence 45 = .ok (.iload 5, 2) := by decide +kernel
theorem dX12_pence_47 : decode cX12_pence 47 = .ok (.iadd, 1) := by decide +kernel
theorem dX12_pence_48 : decode cX12_pence 48 = .ok (.iaload, 1) := by decide +kernel
theorem dX12_pence_49 : decode cX12_pence 49 = .ok (.i2l, 1) := by decide +kernel
theorem dX12_pence_50 : decode cX12_pence 50 = .ok (.ladd, 1) := by decide +kernel
theorem dX12_pence_51 : decode cX12_pence 51 = .ok (.lstore_n 3, 1) := by decide +kernel
theorem dX12_pence_52 : decode cX12_pence 52 = .ok (.iinc 5 1, 3) := by decide +kernel
theorem dX12_pence_55 : decode cX12_pence 55 = .ok (.goto (-28), 3) := by decide +kernel
theorem dX12_pence_58 : decode cX12_pence 58 = .ok (.lload_n 3, 1) := by decide +kernel
theorem dX12_pence_59 : decode cX12_pence 59 = .ok (.lconst 0, 1) := by decide +kernel
theorem dX12_pence_60 : decode cX12_pence 60 = .ok (.lcmp, 1) := by decide +kernel
theorem dX12_pence_61 : decode cX12_pence 61 = .ok (.ifCond .ne 5, 3) := by decide +kernel
theorem dX12_pence_64 : decode cX12_pence 64 = .ok (.iconst 0, 1) := by decide +kernel
theorem dX12_pence_65 : decode cX12_pence 65 = .ok (.ireturn, 1) := by decide +kernel
theorem dX12_pence_66 : decode cX12_pence 66 = .ok (.iload_n 1, 1) := by decide +kernel
theorem dX12_pence_67 : decode cX12_pence 67 = .ok (.i2l, 1) := by decide +kernel
theorem dX12_pence_68 : decode cX12_pence 68 = .ok (.aload_n 0, 1) := by decide +kernel
theorem dX12_pence_69 : decode cX12_pence 69 = .ok (.getfield 39, 3) := by decide +kernel
theorem dX12_pence_72 : decode cX12_pence 72 = .ok (.bipush 19, 2) := by decide +kernel
theorem dX12_pence_74 : decode cX12_pence 74 = .ok (.iload_n 2, 1) := by decide +kernel
theorem dX12_pence_75 : decode cX12_pence 75 = .ok (.iadd, 1) := by decide +kernel
theorem dX12_pence_76 : decode cX12_pence 76 = .ok (.iaload, 1) := by decide +kernel
theorem dX12_pence_77 : decode cX12_pence 77 = .ok (.i2l, 1) := by decide +kernel
theorem dX12_pence_78 : decode cX12_pence 78 = .ok (.lmul, 1) := by decide +kernel
theorem dX12_pence_79 : decode cX12_pence 79 = .ok (.lstore 5, 2) := by decide +kernel
theorem dX12_pence_81 : decode cX12_pence 81 = .ok (.iload_n 1, 1) := by decide +kernel
theorem dX12_pence_82 : decode cX12_pence 82 = .ok (.i2l, 1) := by decide +kernel
theorem dX12_pence_83 : decode cX12_pence 83 = .ok (.lstore 7, 2) := by decide +kernel
theorem dX12_pence_85 : decode cX12_pence 85 = .ok (.iconst 0, 1) := by decide +kernel
theorem dX12_pence_86 : decode cX12_pence 86 = .ok (.istore 9, 2) := by decide +kernel
theorem dX12_pence_88 : decode cX12_pence 88 = .ok (.iconst 0, 1) := by decide +kernel
theorem dX12_pence_89 : decode cX12_pence 89 = .ok (.istore 10, 2) := by decide +kernel
theorem dX12_pence_91 : decode cX12_pence 91 = .ok (.iload 10, 2) := by decide +kernel
theorem dX12_pence_93 : decode cX12_pence 93 = .ok (.aload_n 0, 1) := by decide +kernel
theorem dX12_pence_94 : decode cX12_pence 94 = .ok (.getfield 39, 3) := by decide +kernel
theorem dX12_pence_97 : decode cX12_pence 97 = .ok (.iconst 4, 1) := by decide +kernel
theorem dX12_pence_98 : decode cX12_pence 98 = .ok (.iaload, 1) := by decide +kernel
theorem dX12_pence_99 : decode cX12_pence 99 = .ok (.if_icmp .ge 74, 3) := by decide +kernel
theorem dX12_pence_102 : decode cX12_pence 102 = .ok (.iload_n 1, 1) := by decide +kernel
theorem dX12_pence_103 : decode cX12_pence 103 = .ok (.i2l, 1) := by decide +kernel
theorem dX12_pence_104 : decode cX12_pence 104 = .ok (.aload_n 0, 1) := by decide +kernel
theorem dX12_pence_105 : decode cX12_pence 105 = .ok (.getfield 39, 3) := by decide +kernel
theorem dX12_pence_108 : decode cX12_pence 108 = .ok (.bipush 19, 2) := by decide +kernel
theorem dX12_pence_110 : decode cX12_pence 110 = .ok (.iload 10, 2) := by decide +kernel
theorem dX12_pence_112 : decode cX12_pence 112 = .ok (.iadd, 1) := by decide +kernel
theorem dX12_pence_113 : decode cX12_pence 113 = .ok (.iaload, 1) := by decide +kernel
theorem dX12_pence_114 : decode cX12_pence 114 = .ok (.i2l, 1) := by decide +kernel
theorem dX12_pence_115 : decode cX12_pence 115 = .ok (.lmul, 1) := by decide +kernel
theorem dX12_pence_116 : decode cX12_pence 116 = .ok (.lstore 11, 2) := by decide +kernel
theorem dX12_pence_118 : decode cX12_pence 118 = .ok (.lload 7, 2) := by decide +kernel
theorem dX12_pence_120 : decode cX12_pence 120 = .ok (.lload 11, 2) := by decide +kernel
theorem dX12_pence_122 : decode cX12_pence 122 = .ok (.lload_n 3, 1) := by decide +kernel
theorem dX12_pence_123 : decode cX12_pence 123 = .ok (.ldiv, 1) := by decide +kernel
theorem dX12_pence_124 : decode cX12_pence 124 = .ok (.lsub, 1) := by decide +kernel
theorem dX12_pence_125 : decode cX12_pence 125 = .ok (.lstore 7, 2) := by decide +kernel
theorem dX12_pence_127 : decode cX12_pence 127 = .ok (.iload 9, 2) := by decide +kernel
theorem dX12_pence_129 : decode cX12_pence 129 = .ok (.lload 11, 2) := by decide +kernel
theorem dX12_pence_131 : decode cX12_pence 131 = .ok (.lload_n 3, 1) := by decide +kernel
theorem dX12_pence_132 : decode cX12_pence 132 = .ok (.lrem, 1) := by decide +kernel
theorem dX12_pence_133 : decode cX12_pence 133 = .ok (.lload 5, 2) := by decide +kernel
theorem dX12_pence_135 : decode cX12_pence 135 = .ok (.lload_n 3, 1) := by decide +kernel
theorem dX12_pence_136 : decode cX12_pence 136 = .ok (.lrem, 1) := by decide +kernel
theorem dX12_pence_137 : decode cX12_pence 137 = .ok (.lcmp, 1) := by decide +kernel
theorem dX12_pence_138 : decode cX12_pence 138 = .ok (.ifCond .gt 21, 3) := by decide +kernel
theorem dX12_pence_141 : decode cX12_pence 141 = .ok (.lload 11, 2) := by decide +kernel
theorem dX12_pence_143 : decode cX12_pence 143 = .ok (.lload_n 3, 1) := by decide +kernel
theorem dX12_pence_144 : decode cX12_pence 144 = .ok (.lrem, 1) := by decide +kernel
theorem dX12_pence_145 : decode cX12_pence 145 = .ok (.lload 5, 2) := by decide +kernel
theorem dX12_pence_147 : decode cX12_pence 147 = .ok (.lload_n 3, 1) := by decide +kernel
theorem dX12_pence_148 : decode cX12_pence 148 = .ok (.lrem, 1) := by decide +kernel
theorem dX12_pence_149 : decode cX12_pence 149 = .ok (.lcmp, 1) := by decide +kernel
theorem dX12_pence_150 : decode cX12_pence 150 = .ok (.ifCond .ne 13, 3) := by decide +kernel
theorem dX12_pence_153 : decode cX12_pence 153 = .ok (.iload 10, 2) := by decide +kernel
theorem dX12_pence_155 : decode cX12_pence 155 = .ok (.iload_n 2, 1) := by decide +kernel
theorem dX12_pence_156 : decode cX12_pence 156 = .ok (.if_icmp .ge 7, 3) := by decide +kernel
theorem dX12_pence_159 : decode cX12_pence 159 = .ok (.iconst 1, 1) := by decide +kernel
theorem dX12_pence_160 : decode cX12_pence 160 = .ok (.goto 4, 3) := by decide +kernel
theorem dX12_pence_163 : decode cX12_pence 163 = .ok (.iconst 0, 1) := by decide +kernel
theorem dX12_pence_164 : decode cX12_pence 164 = .ok (.iadd, 1) := by decide +kernel
theorem dX12_pence_165 : decode cX12_pence 165 = .ok (.istore 9, 2) := by decide +kernel
theorem dX12_pence_167 : decode cX12_pence 167 = .ok (.iinc 10 1, 3) := by decide +kernel
theorem dX12_pence_170 : decode cX12_pence 170 = .ok (.goto (-79), 3) := by decide +kernel
theorem dX12_pence_173 : decode cX12_pence 173 = .ok (.lload 5, 2) := by decide +kernel
theorem dX12_pence_175 : decode cX12_pence 175 = .ok (.lload_n 3, 1) := by decide +kernel
theorem dX12_pence_176 : decode cX12_pence 176 = .ok (.ldiv, 1) := by decide +kernel
theorem dX12_pence_177 : decode cX12_pence 177 = .ok (.l2i, 1) := by decide +kernel
theorem dX12_pence_178 : decode cX12_pence 178 = .ok (.iload 9, 2) := by decide +kernel
theorem dX12_pence_180 : decode cX12_pence 180 = .ok (.i2l, 1) := by decide +kernel
theorem dX12_pence_181 : decode cX12_pence 181 = .ok (.lload 7, 2) := by decide +kernel
theorem dX12_pence_183 : decode cX12_pence 183 = .ok (.lcmp, 1) := by decide +kernel
theorem dX12_pence_184 : decode cX12_pence 184 = .ok (.ifCond .ge 7, 3) := by decide +kernel
theorem dX12_pence_187 : decode cX12_pence 187 = .ok (.iconst 1, 1) := by decide +kernel
theorem dX12_pence_188 : decode cX12_pence 188 = .ok (.goto 4, 3) := by decide +kernel
theorem dX12_pence_191 : decode cX12_pence 191 = .ok (.iconst 0, 1) := by decide +kernel
theorem dX12_pence_192 : decode cX12_pence 192 = .ok (.iadd, 1) := by decide +kernel
theorem dX12_pence_193 : decode cX12_pence 193 = .ok (.ireturn, 1) := by decide +kernel
theorem dX12_rests_0 : decode cX12_rests 0 = .ok (.aload_n 0, 1) := by decide +kernel
theorem dX12_rests_1 : decode cX12_rests 1 = .ok (.iload_n 1, 1) := by decide +kernel
theorem dX12_rests_2 : decode cX12_rests 2 = .ok (.invokevirtual 314, 3) := by decide +kernel
theorem dX12_rests_5 : decode cX12_rests 5 = .ok (.ifCond .eq 41, 3) := by decide +kernel
theorem dX12_rests_8 : decode cX12_rests 8 = .ok (.aload_n 0, 1) := by decide +kernel
theorem dX12_rests_9 : decode cX12_rests 9 = .ok (.iload_n 2, 1) := by decide +kernel
theorem dX12_rests_10 : decode cX12_rests 10 = .ok (.invokevirtual 314, 3) := by decide +kernel
theorem dX12_rests_13 : decode cX12_rests 13 = .ok (.ifCond .eq 33, 3) := by decide +kernel
theorem dX12_rests_16 : decode cX12_rests 16 = .ok (.iload_n 1, 1) := by decide +kernel
theorem dX12_rests_17 : decode cX12_rests 17 = .ok (.iload_n 2, 1) := by decide +kernel
theorem dX12_rests_18 : decode cX12_rests 18 = .ok (.if_icmp .eq 28, 3) := by decide +kernel
theorem dX12_rests_21 : decode cX12_rests 21 = .ok (.iload_n 3, 1) := by decide +kernel
theorem dX12_rests_22 : decode cX12_rests 22 = .ok (.i2l, 1) := by decide +kernel
theorem dX12_rests_23 : decode cX12_rests 23 = .ok (.lconst 1, 1) := by decide +kernel
theorem dX12_rests_24 : decode cX12_rests 24 = .ok (.ldc2_w 366, 3) := by decide +kernel
theorem dX12_rests_27 : decode cX12_rests 27 = .ok (.invokestatic 127, 3) := by decide +kernel
theorem dX12_rests_30 : decode cX12_rests 30 = .ok (.ifCond .eq 16, 3) := by decide +kernel
theorem dX12_rests_33 : decode cX12_rests 33 = .ok (.iload 4, 2) := by decide +kernel
theorem dX12_rests_35 : decode cX12_rests 35 = .ok (.i2l, 1) := by decide +kernel
theorem dX12_rests_36 : decode cX12_rests 36 = .ok (.lconst 0, 1) := by decide +kernel
theorem dX12_rests_37 : decode cX12_rests 37 = .ok (.ldc2_w 312, 3) := by decide +kernel
theorem dX12_rests_40 : decode cX12_rests 40 = .ok (.invokestatic 127, 3) := by decide +kernel
theorem dX12_rests_43 : decode cX12_rests 43 = .ok (.ifCond .ne 5, 3) := by decide +kernel
theorem dX12_rests_46 : decode cX12_rests 46 = .ok (.iconst (-1), 1) := by decide +kernel
theorem dX12_rests_47 : decode cX12_rests 47 = .ok (.ireturn, 1) := by decide +kernel
theorem dX12_rests_48 : decode cX12_rests 48 = .ok (.aload_n 0, 1) := by decide +kernel
theorem dX12_rests_49 : decode cX12_rests 49 = .ok (.invokevirtual 372, 3) := by decide +kernel
theorem dX12_rests_52 : decode cX12_rests 52 = .ok (.iconst 0, 1) := by decide +kernel
theorem dX12_rests_53 : decode cX12_rests 53 = .ok (.istore 5, 2) := by decide +kernel
theorem dX12_rests_55 : decode cX12_rests 55 = .ok (.iload 5, 2) := by decide +kernel
theorem dX12_rests_57 : decode cX12_rests 57 = .ok (.aload_n 0, 1) := by decide +kernel
theorem dX12_rests_58 : decode cX12_rests 58 = .ok (.getfield 39, 3) := by decide +kernel
theorem dX12_rests_61 : decode cX12_rests 61 = .ok (.iconst 4, 1) := by decide +kernel
theorem dX12_rests_62 : decode cX12_rests 62 = .ok (.iaload, 1) := by decide +kernel
theorem dX12_rests_63 : decode cX12_rests 63 = .ok (.if_icmp .ge 40, 3) := by decide +kernel
theorem dX12_rests_66 : decode cX12_rests 66 = .ok (.iconst 0, 1) := by decide +kernel
theorem dX12_rests_67 : decode cX12_rests 67 = .ok (.istore 6, 2) := by decide +kernel
theorem dX12_rests_69 : decode cX12_rests 69 = .ok (.iload 6, 2) := by decide +kernel
theorem dX12_rests_71 : decode cX12_rests 71 = .ok (.aload_n 0, 1) := by decide +kernel
theorem dX12_rests_72 : decode cX12_rests 72 = .ok (.getfield 39, 3) := by decide +kernel
theorem dX12_rests_75 : decode cX12_rests 75 = .ok (.iconst 4, 1) := by decide +kernel
theorem dX12_rests_76 : decode cX12_rests 76 = .ok (.iaload, 1) := by decide +kernel
theorem dX12_rests_77 : decode cX12_rests 77 = .ok (.if_icmp .ge 20, 3) := by decide +kernel
theorem dX12_rests_80 : decode cX12_rests 80 = .ok (.aload_n 0, 1) := by decide +kernel
theorem dX12_rests_81 : decode cX12_rests 81 = .ok (.iload_n 1, 1) := by decide +kernel
theorem dX12_rests_82 : decode cX12_rests 82 = .ok (.iload_n 2, 1) := by decide +kernel
theorem dX12_rests_83 : decode cX12_rests 83 = .ok (.iload 5, 2) := by decide +kernel
theorem dX12_rests_85 : decode cX12_rests 85 = .ok (.iload 6, 2) := by decide +kernel
theorem dX12_rests_87 : decode cX12_rests 87 = .ok (.iload_n 3, 1) := by decide +kernel
theorem dX12_rests_88 : decode cX12_rests 88 = .ok (.invokevirtual 415, 3) := by decide +kernel
theorem dX12_rests_91 : decode cX12_rests 91 = .ok (.iinc 6 1, 3) := by decide +kernel
theorem dX12_rests_94 : decode cX12_rests 94 = .ok (.goto (-25), 3) := by decide +kernel
theorem dX12_rests_97 : decode cX12_rests 97 = .ok (.iinc 5 1, 3) := by decide +kernel
theorem dX12_rests_100 : decode cX12_rests 100 = .ok (.goto (-45), 3) := by decide +kernel
theorem dX12_rests_103 : decode cX12_rests 103 = .ok (.iconst 0, 1) := by decide +kernel
theorem dX12_rests_104 : decode cX12_rests 104 = .ok (.istore 5, 2) := by decide +kernel
theorem dX12_rests_106 : decode cX12_rests 106 = .ok (.iconst (-1), 1) := by decide +kernel
theorem dX12_rests_107 : decode cX12_rests 107 = .ok (.istore 6, 2) := by decide +kernel
theorem dX12_rests_109 : decode cX12_rests 109 = .ok (.aload_n 0, 1) := by decide +kernel
theorem dX12_rests_110 : decode cX12_rests 110 = .ok (.getfield 39, 3) := by decide +kernel
theorem dX12_rests_113 : decode cX12_rests 113 = .ok (.iconst 4, 1) := by decide +kernel
theorem dX12_rests_114 : decode cX12_rests 114 = .ok (.iaload, 1) := by decide +kernel
theorem dX12_rests_115 : decode cX12_rests 115 = .ok (.iconst 1, 1) := by decide +kernel
theorem dX12_rests_116 : decode cX12_rests 116 = .ok (.isub, 1) := by decide +kernel
theorem dX12_rests_117 : decode cX12_rests 117 = .ok (.istore 7, 2) := by decide +kernel
theorem dX12_rests_119 : decode cX12_rests 119 = .ok (.iload 7, 2) := by decide +kernel
theorem dX12_rests_121 : decode cX12_rests 121 = .ok (.ifCond .lt 57, 3) := by decide +kernel
theorem dX12_rests_124 : decode cX12_rests 124 = .ok (.aload_n 0, 1) := by decide +kernel
theorem dX12_rests_125 : decode cX12_rests 125 = .ok (.getfield 39, 3) := by decide +kernel
theorem dX12_rests_128 : decode cX12_rests 128 = .ok (.iconst 4, 1) := by decide +kernel
theorem dX12_rests_129 : decode cX12_rests 129 = .ok (.iaload, 1) := by decide +kernel
theorem dX12_rests_130 : decode cX12_rests 130 = .ok (.iconst 1, 1) := by decide +kernel
theorem dX12_rests_131 : decode cX12_rests 131 = .ok (.isub, 1) := by decide +kernel
theorem dX12_rests_132 : decode cX12_rests 132 = .ok (.istore 8, 2) := by decide +kernel
theorem dX12_rests_134 : decode cX12_rests 134 = .ok (.iload 8, 2) := by decide +kernel
theorem dX12_rests_136 : decode cX12_rests 136 = .ok (.ifCond .lt 36, 3) := by decide +kernel
theorem dX12_rests_139 : decode cX12_rests 139 = .ok (.aload_n 0, 1) := by decide +kernel
theorem dX12_rests_140 : decode cX12_rests 140 = .ok (.iload 7, 2) := by decide +kernel
theorem dX12_rests_142 : decode cX12_rests 142 = .ok (.iload 8, 2) := by decide +kernel
theorem dX12_rests_144 : decode cX12_rests 144 = .ok (.invokevirtual 419, 3) := by decide +kernel
theorem dX12_rests_147 : decode cX12_rests 147 = .ok (.ifCond .ne 6, 3) := by decide +kernel
theorem dX12_rests_150 : decode cX12_rests 150 = .ok (.goto 16, 3) := by decide +kernel
theorem dX12_rests_153 : decode cX12_rests 153 = .ok (.bipush 6, 2) := by decide +kernel
theorem dX12_rests_155 : decode cX12_rests 155 = .ok (.iload 7, 2) := by decide +kernel
theorem dX12_rests_157 : decode cX12_rests 157 = .ok (.imul, 1) := by decide +kernel
theorem dX12_rests_158 : decode cX12_rests 158 = .ok (.iload 8, 2) := by decide +kernel
theorem dX12_rests_160 : decode cX12_rests 160 = .ok (.iadd, 1) := by decide +kernel
theorem dX12_rests_161 : decode cX12_rests 161 = .ok (.istore 6, 2) := by decide +kernel
theorem dX12_rests_163 : decode cX12_rests 163 = .ok (.iinc 5 1, 3) := by decide +kernel
theorem dX12_rests_166 : decode cX12_rests 166 = .ok (.iinc 8 (-1), 3) := by decide +kernel
theorem dX12_rests_169 : decode cX12_rests 169 = .ok (.goto (-35), 3) := by decide +kernel
theorem dX12_rests_172 : decode cX12_rests 172 = .ok (.iinc 7 (-1), 3) := by decide +kernel
theorem dX12_rests_175 : decode cX12_rests 175 = .ok (.goto (-56), 3) := by decide +kernel
theorem dX12_rests_178 : decode cX12_rests 178 = .ok (.iload 4, 2) := by decide +kernel
theorem dX12_rests_180 : decode cX12_rests 180 = .ok (.ifCond .ne 6, 3) := by decide +kernel
theorem dX12_rests_183 : decode cX12_rests 183 = .ok (.iload 5, 2) := by decide +kernel
theorem dX12_rests_185 : decode cX12_rests 185 = .ok (.ireturn, 1) := by decide +kernel
theorem dX12_rests_186 : decode cX12_rests 186 = .ok (.iload 6, 2) := by decide +kernel
theorem dX12_rests_188 : decode cX12_rests 188 = .ok (.ifCond .ge 8, 3) := by decide +kernel
theorem dX12_rests_191 : decode cX12_rests 191 = .ok (.bipush (-2), 2) := by decide +kernel
theorem dX12_rests_193 : decode cX12_rests 193 = .ok (.goto 22, 3) := by decide +kernel
theorem dX12_rests_196 : decode cX12_rests 196 = .ok (.iload 4, 2) := by decide +kernel
theorem dX12_rests_198 : decode cX12_rests 198 = .ok (.iconst 1, 1) := by decide +kernel
theorem dX12_rests_199 : decode cX12_rests 199 = .ok (.if_icmp .ne 11, 3) := by decide +kernel
theorem dX12_rests_202 : decode cX12_rests 202 = .ok (.iload 6, 2) := by decide +kernel
theorem dX12_rests_204 : decode cX12_rests 204 = .ok (.bipush 6, 2) := by decide +kernel
theorem dX12_rests_206 : decode cX12_rests 206 = .ok (.idiv, 1) := by decide +kernel
theorem dX12_rests_207 : decode cX12_rests 207 = .ok (.goto 8, 3) := by decide +kernel
theorem dX12_rests_210 : decode cX12_rests 210 = .ok (.iload 6, 2) := by decide +kernel
theorem dX12_rests_212 : decode cX12_rests 212 = .ok (.bipush 6, 2) := by decide +kernel
theorem dX12_rests_214 : decode cX12_rests 214 = .ok (.irem, 1) := by decide +kernel
theorem dX12_rests_215 : decode cX12_rests 215 = .ok (.ireturn, 1) := by decide +kernel
theorem dX12_round_0 : decode cX12_round 0 = .ok (.aload_n 0, 1) := by decide +kernel
theorem dX12_round_1 : decode cX12_round 1 = .ok (.invokevirtual 294, 3) := by decide +kernel
theorem dX12_round_4 : decode cX12_round 4 = .ok (.ifCond .eq 16, 3) := by decide +kernel
theorem dX12_round_7 : decode cX12_round 7 = .ok (.aload_n 0, 1) := by decide +kernel
theorem dX12_round_8 : decode cX12_round 8 = .ok (.getfield 39, 3) := by decide +kernel
theorem dX12_round_11 : decode cX12_round 11 = .ok (.bipush 10, 2) := by decide +kernel
theorem dX12_round_13 : decode cX12_round 13 = .ok (.iaload, 1) := by decide +kernel
theorem dX12_round_14 : decode cX12_round 14 = .ok (.sipush 999, 3) := by decide +kernel
theorem dX12_round_17 : decode cX12_round 17 = .ok (.if_icmp .ne 5, 3) := by decide +kernel
theorem dX12_round_20 : decode cX12_round 20 = .ok (.iconst (-1), 1) := by decide +kernel
theorem dX12_round_21 : decode cX12_round 21 = .ok (.ireturn, 1) := by decide +kernel
theorem dX12_round_22 : decode cX12_round 22 = .ok (.aload_n 0, 1) := by decide +kernel
theorem dX12_round_23 : decode cX12_round 23 = .ok (.invokevirtual 363, 3) := by decide +kernel
theorem dX12_round_26 : decode cX12_round 26 = .ok (.aload_n 0, 1) := by decide +kernel
theorem dX12_round_27 : decode cX12_round 27 = .ok (.invokevirtual 360, 3) := by decide +kernel
theorem dX12_round_30 : decode cX12_round 30 = .ok (.ireturn, 1) := by decide +kernel
theorem dX12_ruled_0 : decode cX12_ruled 0 = .ok (.aload_n 0, 1) := by decide +kernel
theorem dX12_ruled_1 : decode cX12_ruled 1 = .ok (.invokevirtual 294, 3) := by decide +kernel
theorem dX12_ruled_4 : decode cX12_ruled 4 = .ok (.ifCond .eq 13, 3) := by decide +kernel
theorem dX12_ruled_7 : decode cX12_ruled 7 = .ok (.iload_n 1, 1) := by decide +kernel
theorem dX12_ruled_8 : decode cX12_ruled 8 = .ok (.i2l, 1) := by decide +kernel
theorem dX12_ruled_9 : decode cX12_ruled 9 = .ok (.lconst 0, 1) := by decide +kernel
theorem dX12_ruled_10 : decode cX12_ruled 10 = .ok (.lconst 1, 1) := by decide +kernel
theorem dX12_ruled_11 : decode cX12_ruled 11 = .ok (.invokestatic 127, 3) := by decide +kernel
theorem dX12_ruled_14 : decode cX12_ruled 14 = .ok (.ifCond .ne 6, 3) := by decide +kernel
theorem dX12_ruled_17 : decode cX12_ruled 17 = .ok (.bipush (-3), 2) := by decide +kernel
theorem dX12_ruled_19 : decode cX12_ruled 19 = .ok (.ireturn, 1) := by decide +kernel
theorem dX12_ruled_20 : decode cX12_ruled 20 = .ok (.aload_n 0, 1) := by decide +kernel
theorem dX12_ruled_21 : decode cX12_ruled 21 = .ok (.iconst 0, 1) := by decide +kernel
theorem dX12_ruled_22 : decode cX12_ruled 22 = .ok (.invokevirtual 432, 3) := by decide +kernel
theorem dX12_ruled_25 : decode cX12_ruled 25 = .ok (.iconst 0, 1) := by decide +kernel
theorem dX12_ruled_26 : decode cX12_ruled 26 = .ok (.istore_n 2, 1) := by decide +kernel
theorem dX12_ruled_27 : decode cX12_ruled 27 = .ok (.bipush (-2), 2) := by decide +kernel
theorem dX12_ruled_29 : decode cX12_ruled 29 = .ok (.istore_n 3, 1) := by decide +kernel
theorem dX12_ruled_30 : decode cX12_ruled 30 = .ok (.aload_n 0, 1) := by decide +kernel
theorem dX12_ruled_31 : decode cX12_ruled 31 = .ok (.getfield 267, 3) := by decide +kernel
theorem dX12_ruled_34 : decode cX12_ruled 34 = .ok (.istore 4, 2) := by decide +kernel
theorem dX12_ruled_36 : decode cX12_ruled 36 = .ok (.iload 4, 2) := by decide +kernel
theorem dX12_ruled_38 : decode cX12_ruled 38 = .ok (.ifCond .lt 30, 3) := by decide +kernel
theorem dX12_ruled_41 : decode cX12_ruled 41 = .ok (.aload_n 0, 1) := by decide +kernel
theorem dX12_ruled_42 : decode cX12_ruled 42 = .ok (.getfield 70, 3) := by decide +kernel
theorem dX12_ruled_45 : decode cX12_ruled 45 = .ok (.iload 4, 2) := by decide +kernel
theorem dX12_ruled_47 : decode cX12_ruled 47 = .ok (.baload, 1) := by decide +kernel
theorem dX12_ruled_48 : decode cX12_ruled 48 = .ok (.ifCond .ne 6, 3) := by decide +kernel
theorem dX12_ruled_51 : decode cX12_ruled 51 = .ok (.goto 11, 3) := by decide +kernel
theorem dX12_ruled_54 : decode cX12_ruled 54 = .ok (.iload 4, 2) := by decide +kernel
theorem dX12_ruled_56 : decode cX12_ruled 56 = .ok (.iconst 1, 1) := by decide +kernel
theorem dX12_ruled_57 : decode cX12_ruled 57 = .ok (.isub, 1) := by decide +kernel
theorem dX12_ruled_58 : decode cX12_ruled 58 = .ok (.istore_n 3, 1) := by decide +kernel
theorem dX12_ruled_59 : decode cX12_ruled 59 = .ok (.iinc 2 1, 3) := by decide +kernel
theorem dX12_ruled_62 : decode cX12_ruled 62 = .ok (.iinc 4 (-1), 3) := by decide +kernel
theorem dX12_ruled_65 : decode cX12_ruled 65 = .ok (.goto (-29), 3) := by decide +kernel
theorem dX12_ruled_68 : decode cX12_ruled 68 = .ok (.iload_n 1, 1) := by decide +kernel
theorem dX12_ruled_69 : decode cX12_ruled 69 = .ok (.ifCond .ne 7, 3) := by decide +kernel
theorem dX12_ruled_72 : decode cX12_ruled 72 = .ok (.iload_n 2, 1) := by decide +kernel
theorem dX12_ruled_73 : decode cX12_ruled 73 = .ok (.goto 4, 3) := by decide +kernel
theorem dX12_ruled_76 : decode cX12_ruled 76 = .ok (.iload_n 3, 1) := by decide +kernel
theorem dX12_ruled_77 : decode cX12_ruled 77 = .ok (.ireturn, 1) := by decide +kernel
theorem dX12_shoot_0 : decode cX12_shoot 0 = .ok (.aload_n 0, 1) := by decide +kernel
theorem dX12_shoot_1 : decode cX12_shoot 1 = .ok (.iload_n 1, 1) := by decide +kernel
theorem dX12_shoot_2 : decode cX12_shoot 2 = .ok (.invokevirtual 314, 3) := by decide +kernel
theorem dX12_shoot_5 : decode cX12_shoot 5 = .ok (.ifCond .eq 19, 3) := by decide +kernel
theorem dX12_shoot_8 : decode cX12_shoot 8 = .ok (.aload_n 0, 1) := by decide +kernel
theorem dX12_shoot_9 : decode cX12_shoot 9 = .ok (.iload_n 2, 1) := by decide +kernel
theorem dX12_shoot_10 : decode cX12_shoot 10 = .ok (.invokevirtual 309, 3) := by decide +kernel
theorem dX12_shoot_13 : decode cX12_shoot 13 = .ok (.ifCond .eq 11, 3) := by decide +kernel
theorem dX12_shoot_16 : decode cX12_shoot 16 = .ok (.aload_n 0, 1) := by decide +kernel
theorem dX12_shoot_17 : decode cX12_shoot 17 = .ok (.iload_n 1, 1) := by decide +kernel
theorem dX12_shoot_18 : decode cX12_shoot 18 = .ok (.invokevirtual 320, 3) := by decide +kernel
theorem dX12_shoot_21 : decode cX12_shoot 21 = .ok (.ifCond .ne 5, 3) := by decide +kernel
theorem dX12_shoot_24 : decode cX12_shoot 24 = .ok (.iconst (-1), 1) := by decide +kernel
theorem dX12_shoot_25 : decode cX12_shoot 25 = .ok (.ireturn, 1) := by decide +kernel
theorem dX12_shoot_26 : decode cX12_shoot 26 = .ok (.aload_n 0, 1) := by decide +kernel
theorem dX12_shoot_27 : decode cX12_shoot 27 = .ok (.invokevirtual 363, 3) := by decide +kernel
theorem dX12_shoot_30 : decode cX12_shoot 30 = .ok (.aload_n 0, 1) := by decide +kernel
theorem dX12_shoot_31 : decode cX12_shoot 31 = .ok (.iload_n 1, 1) := by decide +kernel
theorem dX12_shoot_32 : decode cX12_shoot 32 = .ok (.iload_n 2, 1) := by decide +kernel
theorem dX12_shoot_33 : decode cX12_shoot 33 = .ok (.invokevirtual 354, 3) := by decide +kernel
theorem dX12_shoot_36 : decode cX12_shoot 36 = .ok (.istore_n 3, 1) := by decide +kernel
theorem dX12_shoot_37 : decode cX12_shoot 37 = .ok (.iload_n 3, 1) := by decide +kernel
theorem dX12_shoot_38 : decode cX12_shoot 38 = .ok (.ifCond .ge 8, 3) := by decide +kernel
theorem dX12_shoot_41 : decode cX12_shoot 41 = .ok (.bipush (-2), 2) := by decide +kernel
theorem dX12_shoot_43 : decode cX12_shoot 43 = .ok (.goto 4, 3) := by decide +kernel
theorem dX12_shoot_46 : decode cX12_shoot 46 = .ok (.iload_n 3, 1) := by decide +kernel
theorem dX12_shoot_47 : decode cX12_shoot 47 = .ok (.ireturn, 1) := by decide +kernel
theorem dX12_teach_0 : decode cX12_teach 0 = .ok (.aload_n 0, 1) := by decide +kernel
theorem dX12_teach_1 : decode cX12_teach 1 = .ok (.iload_n 1, 1) := by decide +kernel
theorem dX12_teach_2 : decode cX12_teach 2 = .ok (.invokevirtual 314, 3) := by decide +kernel
theorem dX12_teach_5 : decode cX12_teach 5 = .ok (.ifCond .eq 24, 3) := by decide +kernel
theorem dX12_teach_8 : decode cX12_teach 8 = .ok (.iload_n 2, 1) := by decide +kernel
theorem dX12_teach_9 : decode cX12_teach 9 = .ok (.i2l, 1) := by decide +kernel
theorem dX12_teach_10 : decode cX12_teach 10 = .ok (.lconst 1, 1) := by decide +kernel
theorem dX12_teach_11 : decode cX12_teach 11 = .ok (.ldc2_w 368, 3) := by decide +kernel
theorem dX12_teach_14 : decode cX12_teach 14 = .ok (.invokestatic 127, 3) := by decide +kernel
theorem dX12_teach_17 : decode cX12_teach 17 = .ok (.ifCond .eq 12, 3) := by decide +kernel
theorem dX12_teach_20 : decode cX12_teach 20 = .ok (.aload_n 0, 1) := by decide +kernel
theorem dX12_teach_21 : decode cX12_teach 21 = .ok (.iload_n 1, 1) := by decide +kernel
theorem dX12_teach_22 : decode cX12_teach 22 = .ok (.invokevirtual 303, 3) := by decide +kernel
theorem dX12_teach_25 : decode cX12_teach 25 = .ok (.iload_n 2, 1) := by decide +kernel
theorem dX12_teach_26 : decode cX12_teach 26 = .ok (.if_icmp .ne 5, 3) := by decide +kernel
theorem dX12_teach_29 : decode cX12_teach 29 = .ok (.iconst (-1), 1) := by decide +kernel
theorem dX12_teach_30 : decode cX12_teach 30 = .ok (.ireturn, 1) := by decide +kernel
theorem dX12_teach_31 : decode cX12_teach 31 = .ok (.aload_n 0, 1) := by decide +kernel
theorem dX12_teach_32 : decode cX12_teach 32 = .ok (.invokevirtual 363, 3) := by decide +kernel
theorem dX12_teach_35 : decode cX12_teach 35 = .ok (.aload_n 0, 1) := by decide +kernel
theorem dX12_teach_36 : decode cX12_teach 36 = .ok (.iload_n 1, 1) := by decide +kernel
