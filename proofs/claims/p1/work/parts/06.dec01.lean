theorem dX0_init_21 : decode cX0_init 21 = .ok (.aload_n 0, 1) := by decide +kernel
theorem dX0_init_22 : decode cX0_init 22 = .ok (.iconst 0, 1) := by decide +kernel
theorem dX0_init_23 : decode cX0_init 23 = .ok (.putfield 20, 3) := by decide +kernel
theorem dX0_init_26 : decode cX0_init 26 = .ok (.return_, 1) := by decide +kernel
theorem dX11_end_0 : decode cX11_end 0 = .ok (.iload_n 1, 1) := by decide +kernel
theorem dX11_end_1 : decode cX11_end 1 = .ok (.iconst 0, 1) := by decide +kernel
theorem dX11_end_2 : decode cX11_end 2 = .ok (.aload_n 0, 1) := by decide +kernel
theorem dX11_end_3 : decode cX11_end 3 = .ok (.getfield 10, 3) := by decide +kernel
theorem dX11_end_6 : decode cX11_end 6 = .ok (.getfield 87, 3) := by decide +kernel
theorem dX11_end_9 : decode cX11_end 9 = .ok (.invokestatic 90, 3) := by decide +kernel
theorem dX11_end_12 : decode cX11_end 12 = .ok (.ifCond .ne 5, 3) := by decide +kernel
theorem dX11_end_15 : decode cX11_end 15 = .ok (.iconst (-1), 1) := by decide +kernel
theorem dX11_end_16 : decode cX11_end 16 = .ok (.ireturn, 1) := by decide +kernel
theorem dX11_end_17 : decode cX11_end 17 = .ok (.aload_n 0, 1) := by decide +kernel
theorem dX11_end_18 : decode cX11_end 18 = .ok (.getfield 10, 3) := by decide +kernel
theorem dX11_end_21 : decode cX11_end 21 = .ok (.iload_n 1, 1) := by decide +kernel
theorem dX11_end_22 : decode cX11_end 22 = .ok (.putfield 87, 3) := by decide +kernel
theorem dX11_end_25 : decode cX11_end 25 = .ok (.iload_n 1, 1) := by decide +kernel
theorem dX11_end_26 : decode cX11_end 26 = .ok (.ireturn, 1) := by decide +kernel
theorem dX11_row_0 : decode cX11_row 0 = .ok (.aload_n 0, 1) := by decide +kernel
theorem dX11_row_1 : decode cX11_row 1 = .ok (.getfield 43, 3) := by decide +kernel
theorem dX11_row_4 : decode cX11_row 4 = .ok (.getfield 111, 3) := by decide +kernel
theorem dX11_row_7 : decode cX11_row 7 = .ok (.iload_n 1, 1) := by decide +kernel
theorem dX11_row_8 : decode cX11_row 8 = .ok (.invokevirtual 139, 3) := by decide +kernel
theorem dX11_row_11 : decode cX11_row 11 = .ok (.ifCond .eq 21, 3) := by decide +kernel
theorem dX11_row_14 : decode cX11_row 14 = .ok (.iload_n 2, 1) := by decide +kernel
theorem dX11_row_15 : decode cX11_row 15 = .ok (.iconst 1, 1) := by decide +kernel
theorem dX11_row_16 : decode cX11_row 16 = .ok (.iconst 5, 1) := by decide +kernel
theorem dX11_row_17 : decode cX11_row 17 = .ok (.invokestatic 90, 3) := by decide +kernel
theorem dX11_row_20 : decode cX11_row 20 = .ok (.ifCond .eq 12, 3) := by decide +kernel
theorem dX11_row_23 : decode cX11_row 23 = .ok (.iload_n 3, 1) := by decide +kernel
theorem dX11_row_24 : decode cX11_row 24 = .ok (.iconst 0, 1) := by decide +kernel
theorem dX11_row_25 : decode cX11_row 25 = .ok (.iconst 5, 1) := by decide +kernel
theorem dX11_row_26 : decode cX11_row 26 = .ok (.invokestatic 90, 3) := by decide +kernel
theorem dX11_row_29 : decode cX11_row 29 = .ok (.ifCond .ne 6, 3) := by decide +kernel
theorem dX11_row_32 : decode cX11_row 32 = .ok (.bipush (-3), 2) := by decide +kernel
theorem dX11_row_34 : decode cX11_row 34 = .ok (.ireturn, 1) := by decide +kernel
theorem dX11_row_35 : decode cX11_row 35 = .ok (.aload_n 0, 1) := by decide +kernel
theorem dX11_row_36 : decode cX11_row 36 = .ok (.getfield 43, 3) := by decide +kernel
theorem dX11_row_39 : decode cX11_row 39 = .ok (.getfield 111, 3) := by decide +kernel
theorem dX11_row_42 : decode cX11_row 42 = .ok (.getfield 124, 3) := by decide +kernel
theorem dX11_row_45 : decode cX11_row 45 = .ok (.bipush 58, 2) := by decide +kernel
theorem dX11_row_47 : decode cX11_row 47 = .ok (.iload_n 1, 1) := by decide +kernel
theorem dX11_row_48 : decode cX11_row 48 = .ok (.iadd, 1) := by decide +kernel
theorem dX11_row_49 : decode cX11_row 49 = .ok (.iaload, 1) := by decide +kernel
theorem dX11_row_50 : decode cX11_row 50 = .ok (.iconst 1, 1) := by decide +kernel
theorem dX11_row_51 : decode cX11_row 51 = .ok (.if_icmp .ge 6, 3) := by decide +kernel
theorem dX11_row_54 : decode cX11_row 54 = .ok (.bipush (-3), 2) := by decide +kernel
theorem dX11_row_56 : decode cX11_row 56 = .ok (.ireturn, 1) := by decide +kernel
theorem dX11_row_57 : decode cX11_row 57 = .ok (.iload_n 3, 1) := by decide +kernel
theorem dX11_row_58 : decode cX11_row 58 = .ok (.iload_n 2, 1) := by decide +kernel
theorem dX11_row_59 : decode cX11_row 59 = .ok (.if_icmp .le 8, 3) := by decide +kernel
theorem dX11_row_62 : decode cX11_row 62 = .ok (.bipush (-2), 2) := by decide +kernel
theorem dX11_row_64 : decode cX11_row 64 = .ok (.goto 20, 3) := by decide +kernel
theorem dX11_row_67 : decode cX11_row 67 = .ok (.aload_n 0, 1) := by decide +kernel
theorem dX11_row_68 : decode cX11_row 68 = .ok (.getfield 68, 3) := by decide +kernel
theorem dX11_row_71 : decode cX11_row 71 = .ok (.aload_n 0, 1) := by decide +kernel
theorem dX11_row_72 : decode cX11_row 72 = .ok (.getfield 43, 3) := by decide +kernel
theorem dX11_row_75 : decode cX11_row 75 = .ok (.getfield 111, 3) := by decide +kernel
theorem dX11_row_78 : decode cX11_row 78 = .ok (.iload_n 1, 1) := by decide +kernel
theorem dX11_row_79 : decode cX11_row 79 = .ok (.iload_n 2, 1) := by decide +kernel
theorem dX11_row_80 : decode cX11_row 80 = .ok (.iload_n 3, 1) := by decide +kernel
theorem dX11_row_81 : decode cX11_row 81 = .ok (.invokevirtual 200, 3) := by decide +kernel
theorem dX11_row_84 : decode cX11_row 84 = .ok (.ireturn, 1) := by decide +kernel
theorem dX11_set_0 : decode cX11_set 0 = .ok (.aload_n 0, 1) := by decide +kernel
theorem dX11_set_1 : decode cX11_set 1 = .ok (.getfield 43, 3) := by decide +kernel
theorem dX11_set_4 : decode cX11_set 4 = .ok (.getfield 111, 3) := by decide +kernel
theorem dX11_set_7 : decode cX11_set 7 = .ok (.iload_n 1, 1) := by decide +kernel
theorem dX11_set_8 : decode cX11_set 8 = .ok (.invokevirtual 136, 3) := by decide +kernel
theorem dX11_set_11 : decode cX11_set 11 = .ok (.ifCond .eq 22, 3) := by decide +kernel
theorem dX11_set_14 : decode cX11_set 14 = .ok (.iload_n 2, 1) := by decide +kernel
theorem dX11_set_15 : decode cX11_set 15 = .ok (.iconst 1, 1) := by decide +kernel
theorem dX11_set_16 : decode cX11_set 16 = .ok (.bipush 40, 2) := by decide +kernel
theorem dX11_set_18 : decode cX11_set 18 = .ok (.invokestatic 90, 3) := by decide +kernel
theorem dX11_set_21 : decode cX11_set 21 = .ok (.ifCond .eq 12, 3) := by decide +kernel
theorem dX11_set_24 : decode cX11_set 24 = .ok (.iload_n 3, 1) := by decide +kernel
theorem dX11_set_25 : decode cX11_set 25 = .ok (.iconst 0, 1) := by decide +kernel
theorem dX11_set_26 : decode cX11_set 26 = .ok (.iconst 1, 1) := by decide +kernel
theorem dX11_set_27 : decode cX11_set 27 = .ok (.invokestatic 90, 3) := by decide +kernel
theorem dX11_set_30 : decode cX11_set 30 = .ok (.ifCond .ne 5, 3) := by decide +kernel
theorem dX11_set_33 : decode cX11_set 33 = .ok (.iconst (-1), 1) := by decide +kernel
theorem dX11_set_34 : decode cX11_set 34 = .ok (.ireturn, 1) := by decide +kernel
theorem dX11_set_35 : decode cX11_set 35 = .ok (.aload_n 0, 1) := by decide +kernel
theorem dX11_set_36 : decode cX11_set 36 = .ok (.getfield 68, 3) := by decide +kernel
theorem dX11_set_39 : decode cX11_set 39 = .ok (.aload_n 0, 1) := by decide +kernel
theorem dX11_set_40 : decode cX11_set 40 = .ok (.getfield 61, 3) := by decide +kernel
theorem dX11_set_43 : decode cX11_set 43 = .ok (.aload_n 0, 1) := by decide +kernel
theorem dX11_set_44 : decode cX11_set 44 = .ok (.getfield 43, 3) := by decide +kernel
theorem dX11_set_47 : decode cX11_set 47 = .ok (.getfield 111, 3) := by decide +kernel
theorem dX11_set_50 : decode cX11_set 50 = .ok (.aload_n 0, 1) := by decide +kernel
theorem dX11_set_51 : decode cX11_set 51 = .ok (.invokevirtual 159, 3) := by decide +kernel
theorem dX11_set_54 : decode cX11_set 54 = .ok (.iload_n 1, 1) := by decide +kernel
theorem dX11_set_55 : decode cX11_set 55 = .ok (.iload_n 2, 1) := by decide +kernel
theorem dX11_set_56 : decode cX11_set 56 = .ok (.invokevirtual 207, 3) := by decide +kernel
theorem dX11_set_59 : decode cX11_set 59 = .ok (.iload_n 3, 1) := by decide +kernel
theorem dX11_set_60 : decode cX11_set 60 = .ok (.ifCond .ne 13, 3) := by decide +kernel
theorem dX11_set_63 : decode cX11_set 63 = .ok (.aload_n 0, 1) := by decide +kernel
theorem dX11_set_64 : decode cX11_set 64 = .ok (.getfield 68, 3) := by decide +kernel
theorem dX11_set_67 : decode cX11_set 67 = .ok (.getfield 211, 3) := by decide +kernel
theorem dX11_set_70 : decode cX11_set 70 = .ok (.goto 10, 3) := by decide +kernel
theorem dX11_set_73 : decode cX11_set 73 = .ok (.aload_n 0, 1) := by decide +kernel
theorem dX11_set_74 : decode cX11_set 74 = .ok (.getfield 68, 3) := by decide +kernel
theorem dX11_set_77 : decode cX11_set 77 = .ok (.getfield 214, 3) := by decide +kernel
theorem dX11_set_80 : decode cX11_set 80 = .ok (.ireturn, 1) := by decide +kernel
theorem dX12_end_0 : decode cX12_end 0 = .ok (.iload_n 1, 1) := by decide +kernel
theorem dX12_end_1 : decode cX12_end 1 = .ok (.ifCond .lt 11, 3) := by decide +kernel
theorem dX12_end_4 : decode cX12_end 4 = .ok (.iload_n 1, 1) := by decide +kernel
theorem dX12_end_5 : decode cX12_end 5 = .ok (.aload_n 0, 1) := by decide +kernel
theorem dX12_end_6 : decode cX12_end 6 = .ok (.getfield 89, 3) := by decide +kernel
theorem dX12_end_9 : decode cX12_end 9 = .ok (.if_icmp .le 5, 3) := by decide +kernel
theorem dX12_end_12 : decode cX12_end 12 = .ok (.iconst (-1), 1) := by decide +kernel
theorem dX12_end_13 : decode cX12_end 13 = .ok (.ireturn, 1) := by decide +kernel
theorem dX12_end_14 : decode cX12_end 14 = .ok (.aload_n 0, 1) := by decide +kernel
theorem dX12_end_15 : decode cX12_end 15 = .ok (.iload_n 1, 1) := by decide +kernel
theorem dX12_end_16 : decode cX12_end 16 = .ok (.putfield 89, 3) := by decide +kernel
theorem dX12_end_19 : decode cX12_end 19 = .ok (.iload_n 1, 1) := by decide +kernel
theorem dX12_end_20 : decode cX12_end 20 = .ok (.ireturn, 1) := by decide +kernel
theorem dX12_row_0 : decode cX12_row 0 = .ok (.aload_n 0, 1) := by decide +kernel
theorem dX12_row_1 : decode cX12_row 1 = .ok (.iload_n 1, 1) := by decide +kernel
theorem dX12_row_2 : decode cX12_row 2 = .ok (.invokevirtual 314, 3) := by decide +kernel
theorem dX12_row_5 : decode cX12_row 5 = .ok (.ifCond .eq 35, 3) := by decide +kernel
theorem dX12_row_8 : decode cX12_row 8 = .ok (.aload_n 0, 1) := by decide +kernel
theorem dX12_row_9 : decode cX12_row 9 = .ok (.iload_n 1, 1) := by decide +kernel
theorem dX12_row_10 : decode cX12_row 10 = .ok (.invokevirtual 320, 3) := by decide +kernel
theorem dX12_row_13 : decode cX12_row 13 = .ok (.ifCond .eq 27, 3) := by decide +kernel
theorem dX12_row_16 : decode cX12_row 16 = .ok (.iload_n 2, 1) := by decide +kernel
theorem dX12_row_17 : decode cX12_row 17 = .ok (.i2l, 1) := by decide +kernel
theorem dX12_row_18 : decode cX12_row 18 = .ok (.lconst 1, 1) := by decide +kernel
theorem dX12_row_19 : decode cX12_row 19 = .ok (.ldc2_w 399, 3) := by decide +kernel
theorem dX12_row_22 : decode cX12_row 22 = .ok (.invokestatic 127, 3) := by decide +kernel
theorem dX12_row_25 : decode cX12_row 25 = .ok (.ifCond .eq 15, 3) := by decide +kernel
theorem dX12_row_28 : decode cX12_row 28 = .ok (.iload_n 3, 1) := by decide +kernel
theorem dX12_row_29 : decode cX12_row 29 = .ok (.i2l, 1) := by decide +kernel
theorem dX12_row_30 : decode cX12_row 30 = .ok (.lconst 0, 1) := by decide +kernel
theorem dX12_row_31 : decode cX12_row 31 = .ok (.ldc2_w 399, 3) := by decide +kernel
theorem dX12_row_34 : decode cX12_row 34 = .ok (.invokestatic 127, 3) := by decide +kernel
theorem dX12_row_37 : decode cX12_row 37 = .ok (.ifCond .ne 6, 3) := by decide +kernel
theorem dX12_row_40 : decode cX12_row 40 = .ok (.bipush (-3), 2) := by decide +kernel
theorem dX12_row_42 : decode cX12_row 42 = .ok (.ireturn, 1) := by decide +kernel
theorem dX12_row_43 : decode cX12_row 43 = .ok (.aload_n 0, 1) := by decide +kernel
theorem dX12_row_44 : decode cX12_row 44 = .ok (.iload_n 1, 1) := by decide +kernel
theorem dX12_row_45 : decode cX12_row 45 = .ok (.iload_n 2, 1) := by decide +kernel
theorem dX12_row_46 : decode cX12_row 46 = .ok (.invokevirtual 401, 3) := by decide +kernel
theorem dX12_row_49 : decode cX12_row 49 = .ok (.istore 4, 2) := by decide +kernel
theorem dX12_row_51 : decode cX12_row 51 = .ok (.iload_n 3, 1) := by decide +kernel
theorem dX12_row_52 : decode cX12_row 52 = .ok (.ifCond .ne 8, 3) := by decide +kernel
theorem dX12_row_55 : decode cX12_row 55 = .ok (.iload 4, 2) := by decide +kernel
theorem dX12_row_57 : decode cX12_row 57 = .ok (.goto 21, 3) := by decide +kernel
theorem dX12_row_60 : decode cX12_row 60 = .ok (.iload_n 3, 1) := by decide +kernel
theorem dX12_row_61 : decode cX12_row 61 = .ok (.iload_n 2, 1) := by decide +kernel
theorem dX12_row_62 : decode cX12_row 62 = .ok (.if_icmp .gt 14, 3) := by decide +kernel
theorem dX12_row_65 : decode cX12_row 65 = .ok (.aload_n 0, 1) := by decide +kernel
theorem dX12_row_66 : decode cX12_row 66 = .ok (.getfield 64, 3) := by decide +kernel
theorem dX12_row_69 : decode cX12_row 69 = .ok (.iload_n 3, 1) := by decide +kernel
theorem dX12_row_70 : decode cX12_row 70 = .ok (.iconst 1, 1) := by decide +kernel
theorem dX12_row_71 : decode cX12_row 71 = .ok (.isub, 1) := by decide +kernel
theorem dX12_row_72 : decode cX12_row 72 = .ok (.iaload, 1) := by decide +kernel
theorem dX12_row_73 : decode cX12_row 73 = .ok (.goto 5, 3) := by decide +kernel
theorem dX12_row_76 : decode cX12_row 76 = .ok (.bipush (-2), 2) := by decide +kernel
theorem dX12_row_78 : decode cX12_row 78 = .ok (.ireturn, 1) := by decide +kernel
theorem dX12_see_0 : decode cX12_see 0 = .ok (.aload_n 0, 1) := by decide +kernel
theorem dX12_see_1 : decode cX12_see 1 = .ok (.getfield 99, 3) := by decide +kernel
theorem dX12_see_4 : decode cX12_see 4 = .ok (.aload_n 0, 1) := by decide +kernel
theorem dX12_see_5 : decode cX12_see 5 = .ok (.getfield 89, 3) := by decide +kernel
theorem dX12_see_8 : decode cX12_see 8 = .ok (.if_icmp .ge 30, 3) := by decide +kernel
theorem dX12_see_11 : decode cX12_see 11 = .ok (.aload_n 0, 1) := by decide +kernel
theorem dX12_see_12 : decode cX12_see 12 = .ok (.getfield 7, 3) := by decide +kernel
theorem dX12_see_15 : decode cX12_see 15 = .ok (.aload_n 0, 1) := by decide +kernel
theorem dX12_see_16 : decode cX12_see 16 = .ok (.getfield 99, 3) := by decide +kernel
theorem dX12_see_19 : decode cX12_see 19 = .ok (.baload, 1) := by decide +kernel
theorem dX12_see_20 : decode cX12_see 20 = .ok (.bipush 32, 2) := by decide +kernel
theorem dX12_see_22 : decode cX12_see 22 = .ok (.if_icmp .ne 16, 3) := by decide +kernel
theorem dX12_see_25 : decode cX12_see 25 = .ok (.aload_n 0, 1) := by decide +kernel
theorem dX12_see_26 : decode cX12_see 26 = .ok (.dup, 1) := by decide +kernel
theorem dX12_see_27 : decode cX12_see 27 = .ok (.getfield 99, 3) := by decide +kernel
theorem dX12_see_30 : decode cX12_see 30 = .ok (.iconst 1, 1) := by decide +kernel
theorem dX12_see_31 : decode cX12_see 31 = .ok (.iadd, 1) := by decide +kernel
theorem dX12_see_32 : decode cX12_see 32 = .ok (.putfield 99, 3) := by decide +kernel
theorem dX12_see_35 : decode cX12_see 35 = .ok (.goto (-35), 3) := by decide +kernel
theorem dX12_see_38 : decode cX12_see 38 = .ok (.aload_n 0, 1) := by decide +kernel
theorem dX12_see_39 : decode cX12_see 39 = .ok (.getfield 99, 3) := by decide +kernel
theorem dX12_see_42 : decode cX12_see 42 = .ok (.aload_n 0, 1) := by decide +kernel
theorem dX12_see_43 : decode cX12_see 43 = .ok (.getfield 89, 3) := by decide +kernel
theorem dX12_see_46 : decode cX12_see 46 = .ok (.if_icmp .ge 19, 3) := by decide +kernel
theorem dX12_see_49 : decode cX12_see 49 = .ok (.aload_n 0, 1) := by decide +kernel
theorem dX12_see_50 : decode cX12_see 50 = .ok (.getfield 7, 3) := by decide +kernel
theorem dX12_see_53 : decode cX12_see 53 = .ok (.aload_n 0, 1) := by decide +kernel
theorem dX12_see_54 : decode cX12_see 54 = .ok (.getfield 99, 3) := by decide +kernel
theorem dX12_see_57 : decode cX12_see 57 = .ok (.baload, 1) := by decide +kernel
theorem dX12_see_58 : decode cX12_see 58 = .ok (.sipush 255, 3) := by decide +kernel
theorem dX12_see_61 : decode cX12_see 61 = .ok (.iand, 1) := by decide +kernel
theorem dX12_see_62 : decode cX12_see 62 = .ok (.goto 4, 3) := by decide +kernel
theorem dX12_see_65 : decode cX12_see 65 = .ok (.iconst (-1), 1) := by decide +kernel
theorem dX12_see_66 : decode cX12_see 66 = .ok (.ireturn, 1) := by decide +kernel
theorem dX12_set_0 : decode cX12_set 0 = .ok (.aload_n 0, 1) := by decide +kernel
theorem dX12_set_1 : decode cX12_set 1 = .ok (.iload_n 1, 1) := by decide +kernel
theorem dX12_set_2 : decode cX12_set 2 = .ok (.invokevirtual 309, 3) := by decide +kernel
theorem dX12_set_5 : decode cX12_set 5 = .ok (.ifCond .eq 25, 3) := by decide +kernel
theorem dX12_set_8 : decode cX12_set 8 = .ok (.iload_n 2, 1) := by decide +kernel
theorem dX12_set_9 : decode cX12_set 9 = .ok (.i2l, 1) := by decide +kernel
theorem dX12_set_10 : decode cX12_set 10 = .ok (.lconst 1, 1) := by decide +kernel
theorem dX12_set_11 : decode cX12_set 11 = .ok (.ldc2_w 404, 3) := by decide +kernel
theorem dX12_set_14 : decode cX12_set 14 = .ok (.invokestatic 127, 3) := by decide +kernel
theorem dX12_set_17 : decode cX12_set 17 = .ok (.ifCond .eq 13, 3) := by decide +kernel
theorem dX12_set_20 : decode cX12_set 20 = .ok (.iload_n 3, 1) := by decide +kernel
theorem dX12_set_21 : decode cX12_set 21 = .ok (.i2l, 1) := by decide +kernel
theorem dX12_set_22 : decode cX12_set 22 = .ok (.lconst 0, 1) := by decide +kernel
theorem dX12_set_23 : decode cX12_set 23 = .ok (.lconst 1, 1) := by decide +kernel
theorem dX12_set_24 : decode cX12_set 24 = .ok (.invokestatic 127, 3) := by decide +kernel
theorem dX12_set_27 : decode cX12_set 27 = .ok (.ifCond .ne 5, 3) := by decide +kernel
theorem dX12_set_30 : decode cX12_set 30 = .ok (.iconst (-1), 1) := by decide +kernel
theorem dX12_set_31 : decode cX12_set 31 = .ok (.ireturn, 1) := by decide +kernel
theorem dX12_set_32 : decode cX12_set 32 = .ok (.aload_n 0, 1) := by decide +kernel
theorem dX12_set_33 : decode cX12_set 33 = .ok (.invokevirtual 372, 3) := by decide +kernel
theorem dX12_set_36 : decode cX12_set 36 = .ok (.aload_n 0, 1) := by decide +kernel
theorem dX12_set_37 : decode cX12_set 37 = .ok (.getfield 39, 3) := by decide +kernel
theorem dX12_set_40 : decode cX12_set 40 = .ok (.bipush 13, 2) := by decide +kernel
theorem dX12_set_42 : decode cX12_set 42 = .ok (.iload_n 1, 1) := by decide +kernel
theorem dX12_set_43 : decode cX12_set 43 = .ok (.iadd, 1) := by decide +kernel
theorem dX12_set_44 : decode cX12_set 44 = .ok (.iaload, 1) := by decide +kernel
theorem dX12_set_45 : decode cX12_set 45 = .ok (.istore 4, 2) := by decide +kernel
theorem dX12_set_47 : decode cX12_set 47 = .ok (.aload_n 0, 1) := by decide +kernel
theorem dX12_set_48 : decode cX12_set 48 = .ok (.iload_n 2, 1) := by decide +kernel
theorem dX12_set_49 : decode cX12_set 49 = .ok (.invokevirtual 406, 3) := by decide +kernel
theorem dX12_set_52 : decode cX12_set 52 = .ok (.istore 5, 2) := by decide +kernel
theorem dX12_set_54 : decode cX12_set 54 = .ok (.iconst 0, 1) := by decide +kernel
theorem dX12_set_55 : decode cX12_set 55 = .ok (.istore 6, 2) := by decide +kernel
theorem dX12_set_57 : decode cX12_set 57 = .ok (.iload 6, 2) := by decide +kernel
theorem dX12_set_59 : decode cX12_set 59 = .ok (.aload_n 0, 1) := by decide +kernel
theorem dX12_set_60 : decode cX12_set 60 = .ok (.getfield 39, 3) := by decide +kernel
theorem dX12_set_63 : decode cX12_set 63 = .ok (.iconst 1, 1) := by decide +kernel
theorem dX12_set_64 : decode cX12_set 64 = .ok (.iaload, 1) := by decide +kernel
theorem dX12_set_65 : decode cX12_set 65 = .ok (.if_icmp .ge 57, 3) := by decide +kernel
theorem dX12_set_68 : decode cX12_set 68 = .ok (.aload_n 0, 1) := by decide +kernel
theorem dX12_set_69 : decode cX12_set 69 = .ok (.iload 6, 2) := by decide +kernel
theorem dX12_set_71 : decode cX12_set 71 = .ok (.invokevirtual 345, 3) := by decide +kernel
theorem dX12_set_74 : decode cX12_set 74 = .ok (.ifCond .lt 6, 3) := by decide +kernel
theorem dX12_set_77 : decode cX12_set 77 = .ok (.goto 39, 3) := by decide +kernel
theorem dX12_set_80 : decode cX12_set 80 = .ok (.aload_n 0, 1) := by decide +kernel
theorem dX12_set_81 : decode cX12_set 81 = .ok (.getfield 39, 3) := by decide +kernel
theorem dX12_set_84 : decode cX12_set 84 = .ok (.bipush 13, 2) := by decide +kernel
theorem dX12_set_86 : decode cX12_set 86 = .ok (.iload_n 1, 1) := by decide +kernel
theorem dX12_set_87 : decode cX12_set 87 = .ok (.iadd, 1) := by decide +kernel
theorem dX12_set_88 : decode cX12_set 88 = .ok (.iload 6, 2) := by decide +kernel
theorem dX12_set_90 : decode cX12_set 90 = .ok (.iastore, 1) := by decide +kernel
theorem dX12_set_91 : decode cX12_set 91 = .ok (.aload_n 0, 1) := by decide +kernel
theorem dX12_set_92 : decode cX12_set 92 = .ok (.iload_n 2, 1) := by decide +kernel
theorem dX12_set_93 : decode cX12_set 93 = .ok (.invokevirtual 406, 3) := by decide +kernel
theorem dX12_set_96 : decode cX12_set 96 = .ok (.istore 7, 2) := by decide +kernel
theorem dX12_set_98 : decode cX12_set 98 = .ok (.iload 7, 2) := by decide +kernel
theorem dX12_set_100 : decode cX12_set 100 = .ok (.iload 5, 2) := by decide +kernel
theorem dX12_set_102 : decode cX12_set 102 = .ok (.if_icmp .gt 6, 3) := by decide +kernel
theorem dX12_set_105 : decode cX12_set 105 = .ok (.goto 11, 3) := by decide +kernel
theorem dX12_set_108 : decode cX12_set 108 = .ok (.iload 6, 2) := by decide +kernel
theorem dX12_set_110 : decode cX12_set 110 = .ok (.istore 4, 2) := by decide +kernel
theorem dX12_set_112 : decode cX12_set 112 = .ok (.iload 7, 2) := by decide +kernel
theorem dX12_set_114 : decode cX12_set 114 = .ok (.istore 5, 2) := by decide +kernel
theorem dX12_set_116 : decode cX12_set 116 = .ok (.iinc 6 1, 3) := by decide +kernel
theorem dX12_set_119 : decode cX12_set 119 = .ok (.goto (-62), 3) := by decide +kernel
theorem dX12_set_122 : decode cX12_set 122 = .ok (.iload_n 3, 1) := by decide +kernel
theorem dX12_set_123 : decode cX12_set 123 = .ok (.ifCond .ne 8, 3) := by decide +kernel
theorem dX12_set_126 : decode cX12_set 126 = .ok (.iload 4, 2) := by decide +kernel
theorem dX12_set_128 : decode cX12_set 128 = .ok (.goto 5, 3) := by decide +kernel
theorem dX12_set_131 : decode cX12_set 131 = .ok (.iload 5, 2) := by decide +kernel
theorem dX12_set_133 : decode cX12_set 133 = .ok (.ireturn, 1) := by decide +kernel
theorem dX1_init_0 : decode cX1_init 0 = .ok (.aload_n 0, 1) := by decide +kernel
theorem dX1_init_1 : decode cX1_init 1 = .ok (.invokespecial 5, 3) := by decide +kernel
theorem dX1_init_4 : decode cX1_init 4 = .ok (.aload_n 0, 1) := by decide +kernel
theorem dX1_init_5 : decode cX1_init 5 = .ok (.bipush 63, 2) := by decide +kernel
theorem dX1_init_7 : decode cX1_init 7 = .ok (.newarray .int, 2) := by decide +kernel
theorem dX1_init_9 : decode cX1_init 9 = .ok (.putfield 11, 3) := by decide +kernel
theorem dX1_init_12 : decode cX1_init 12 = .ok (.return_, 1) := by decide +kernel
theorem dX2_init_0 : decode cX2_init 0 = .ok (.aload_n 0, 1) := by decide +kernel
theorem dX2_init_1 : decode cX2_init 1 = .ok (.invokespecial 3, 3) := by decide +kernel
theorem dX2_init_4 : decode cX2_init 4 = .ok (.aload_n 0, 1) := by decide +kernel
theorem dX2_init_5 : decode cX2_init 5 = .ok (.iconst (-1), 1) := by decide +kernel
theorem dX2_init_6 : decode cX2_init 6 = .ok (.putfield 9, 3) := by decide +kernel
theorem dX2_init_9 : decode cX2_init 9 = .ok (.aload_n 0, 1) := by decide +kernel
theorem dX2_init_10 : decode cX2_init 10 = .ok (.iconst 0, 1) := by decide +kernel
theorem dX2_init_11 : decode cX2_init 11 = .ok (.putfield 15, 3) := by decide +kernel
theorem dX2_init_14 : decode cX2_init 14 = .ok (.aload_n 0, 1) := by decide +kernel
theorem dX2_init_15 : decode cX2_init 15 = .ok (.iconst 0, 1) := by decide +kernel
theorem dX2_init_16 : decode cX2_init 16 = .ok (.putfield 18, 3) := by decide +kernel
theorem dX2_init_19 : decode cX2_init 19 = .ok (.aload_n 0, 1) := by decide +kernel
theorem dX2_init_20 : decode cX2_init 20 = .ok (.bipush 36, 2) := by decide +kernel
theorem dX2_init_22 : decode cX2_init 22 = .ok (.newarray .int, 2) := by decide +kernel
theorem dX2_init_24 : decode cX2_init 24 = .ok (.putfield 21, 3) := by decide +kernel
theorem dX2_init_27 : decode cX2_init 27 = .ok (.aload_n 0, 1) := by decide +kernel
theorem dX2_init_28 : decode cX2_init 28 = .ok (.bipush 36, 2) := by decide +kernel
theorem dX2_init_30 : decode cX2_init 30 = .ok (.newarray .int, 2) := by decide +kernel
theorem dX2_init_32 : decode cX2_init 32 = .ok (.putfield 25, 3) := by decide +kernel
theorem dX2_init_35 : decode cX2_init 35 = .ok (.return_, 1) := by decide +kernel
theorem dX3_init_0 : decode cX3_init 0 = .ok (.aload_n 0, 1) := by decide +kernel
theorem dX3_init_1 : decode cX3_init 1 = .ok (.invokespecial 3, 3) := by decide +kernel
theorem dX3_init_4 : decode cX3_init 4 = .ok (.aload_n 0, 1) := by decide +kernel
theorem dX3_init_5 : decode cX3_init 5 = .ok (.new 9, 3) := by decide +kernel
theorem dX3_init_8 : decode cX3_init 8 = .ok (.dup, 1) := by decide +kernel
theorem dX3_init_9 : decode cX3_init 9 = .ok (.invokespecial 11, 3) := by decide +kernel
theorem dX3_init_12 : decode cX3_init 12 = .ok (.putfield 12, 3) := by decide +kernel
theorem dX3_init_15 : decode cX3_init 15 = .ok (.return_, 1) := by decide +kernel
theorem dX4_init_0 : decode cX4_init 0 = .ok (.aload_n 0, 1) := by decide +kernel
theorem dX4_init_1 : decode cX4_init 1 = .ok (.invokespecial 3, 3) := by decide +kernel
theorem dX4_init_4 : decode cX4_init 4 = .ok (.aload_n 0, 1) := by decide +kernel
theorem dX4_init_5 : decode cX4_init 5 = .ok (.new 9, 3) := by decide +kernel
theorem dX4_init_8 : decode cX4_init 8 = .ok (.dup, 1) := by decide +kernel
theorem dX4_init_9 : decode cX4_init 9 = .ok (.invokespecial 11, 3) := by decide +kernel
theorem dX4_init_12 : decode cX4_init 12 = .ok (.putfield 12, 3) := by decide +kernel
theorem dX4_init_15 : decode cX4_init 15 = .ok (.aload_n 0, 1) := by decide +kernel
theorem dX4_init_16 : decode cX4_init 16 = .ok (.new 9, 3) := by decide +kernel
theorem dX4_init_19 : decode cX4_init 19 = .ok (.dup, 1) := by decide +kernel
theorem dX4_init_20 : decode cX4_init 20 = .ok (.invokespecial 11, 3) := by decide +kernel
theorem dX4_init_23 : decode cX4_init 23 = .ok (.putfield 18, 3) := by decide +kernel
theorem dX4_init_26 : decode cX4_init 26 = .ok (.aload_n 0, 1) := by decide +kernel
theorem dX4_init_27 : decode cX4_init 27 = .ok (.new 21, 3) := by decide +kernel
theorem dX4_init_30 : decode cX4_init 30 = .ok (.dup, 1) := by decide +kernel
theorem dX4_init_31 : decode cX4_init 31 = .ok (.invokespecial 23, 3) := by decide +kernel
theorem dX4_init_34 : decode cX4_init 34 = .ok (.putfield 24, 3) := by decide +kernel
theorem dX4_init_37 : decode cX4_init 37 = .ok (.aload_n 0, 1) := by decide +kernel
theorem dX4_init_38 : decode cX4_init 38 = .ok (.iconst (-1), 1) := by decide +kernel
theorem dX4_init_39 : decode cX4_init 39 = .ok (.putfield 28, 3) := by decide +kernel
theorem dX4_init_42 : decode cX4_init 42 = .ok (.aload_n 0, 1) := by decide +kernel
theorem dX4_init_43 : decode cX4_init 43 = .ok (.iconst 0, 1) := by decide +kernel
theorem dX4_init_44 : decode cX4_init 44 = .ok (.putfield 32, 3) := by decide +kernel
theorem dX4_init_47 : decode cX4_init 47 = .ok (.aload_n 0, 1) := by decide +kernel
theorem dX4_init_48 : decode cX4_init 48 = .ok (.iconst 0, 1) := by decide +kernel
theorem dX4_init_49 : decode cX4_init 49 = .ok (.putfield 35, 3) := by decide +kernel
theorem dX4_init_52 : decode cX4_init 52 = .ok (.return_, 1) := by decide +kernel
theorem dX5_init_0 : decode cX5_init 0 = .ok (.aload_n 0, 1) := by decide +kernel
theorem dX5_init_1 : decode cX5_init 1 = .ok (.invokespecial 3, 3) := by decide +kernel
theorem dX5_init_4 : decode cX5_init 4 = .ok (.aload_n 0, 1) := by decide +kernel
theorem dX5_init_5 : decode cX5_init 5 = .ok (.bipush 10, 2) := by decide +kernel
theorem dX5_init_7 : decode cX5_init 7 = .ok (.newarray .int, 2) := by decide +kernel
theorem dX5_init_9 : decode cX5_init 9 = .ok (.putfield 11, 3) := by decide +kernel
theorem dX5_init_12 : decode cX5_init 12 = .ok (.aload_n 0, 1) := by decide +kernel
theorem dX5_init_13 : decode cX5_init 13 = .ok (.bipush 10, 2) := by decide +kernel
theorem dX5_init_15 : decode cX5_init 15 = .ok (.newarray .int, 2) := by decide +kernel
theorem dX5_init_17 : decode cX5_init 17 = .ok (.putfield 15, 3) := by decide +kernel
theorem dX5_init_20 : decode cX5_init 20 = .ok (.aload_n 0, 1) := by decide +kernel
theorem dX5_init_21 : decode cX5_init 21 = .ok (.bipush 10, 2) := by decide +kernel
theorem dX5_init_23 : decode cX5_init 23 = .ok (.newarray .int, 2) := by decide +kernel
theorem dX5_init_25 : decode cX5_init 25 = .ok (.putfield 18, 3) := by decide +kernel
theorem dX5_init_28 : decode cX5_init 28 = .ok (.aload_n 0, 1) := by decide +kernel
theorem dX5_init_29 : decode cX5_init 29 = .ok (.iconst 0, 1) := by decide +kernel
theorem dX5_init_30 : decode cX5_init 30 = .ok (.putfield 21, 3) := by decide +kernel
theorem dX5_init_33 : decode cX5_init 33 = .ok (.return_, 1) := by decide +kernel
theorem dX6_init_0 : decode cX6_init 0 = .ok (.aload_n 0, 1) := by decide +kernel
theorem dX6_init_1 : decode cX6_init 1 = .ok (.invokespecial 3, 3) := by decide +kernel
theorem dX6_init_4 : decode cX6_init 4 = .ok (.aload_n 0, 1) := by decide +kernel
theorem dX6_init_5 : decode cX6_init 5 = .ok (.new 9, 3) := by decide +kernel
theorem dX6_init_8 : decode cX6_init 8 = .ok (.dup, 1) := by decide +kernel
theorem dX6_init_9 : decode cX6_init 9 = .ok (.invokespecial 11, 3) := by decide +kernel
theorem dX6_init_12 : decode cX6_init 12 = .ok (.putfield 12, 3) := by decide +kernel
theorem dX6_init_15 : decode cX6_init 15 = .ok (.aload_n 0, 1) := by decide +kernel
theorem dX6_init_16 : decode cX6_init 16 = .ok (.iconst 5, 1) := by decide +kernel
theorem dX6_init_17 : decode cX6_init 17 = .ok (.newarray .int, 2) := by decide +kernel
theorem dX6_init_19 : decode cX6_init 19 = .ok (.putfield 18, 3) := by decide +kernel
theorem dX6_init_22 : decode cX6_init 22 = .ok (.aload_n 0, 1) := by decide +kernel
theorem dX6_init_23 : decode cX6_init 23 = .ok (.iconst 5, 1) := by decide +kernel
theorem dX6_init_24 : decode cX6_init 24 = .ok (.newarray .int, 2) := by decide +kernel
theorem dX6_init_26 : decode cX6_init 26 = .ok (.putfield 22, 3) := by decide +kernel
theorem dX6_init_29 : decode cX6_init 29 = .ok (.aload_n 0, 1) := by decide +kernel
theorem dX6_init_30 : decode cX6_init 30 = .ok (.iconst (-1), 1) := by decide +kernel
theorem dX6_init_31 : decode cX6_init 31 = .ok (.putfield 25, 3) := by decide +kernel
theorem dX6_init_34 : decode cX6_init 34 = .ok (.aload_n 0, 1) := by decide +kernel
theorem dX6_init_35 : decode cX6_init 35 = .ok (.iconst 0, 1) := by decide +kernel
theorem dX6_init_36 : decode cX6_init 36 = .ok (.putfield 29, 3) := by decide +kernel
theorem dX6_init_39 : decode cX6_init 39 = .ok (.aload_n 0, 1) := by decide +kernel
theorem dX6_init_40 : decode cX6_init 40 = .ok (.aconst_null, 1) := by decide +kernel
theorem dX6_init_41 : decode cX6_init 41 = .ok (.putfield 33, 3) := by decide +kernel
theorem dX6_init_44 : decode cX6_init 44 = .ok (.aload_n 0, 1) := by decide +kernel
theorem dX6_init_45 : decode cX6_init 45 = .ok (.bipush 13, 2) := by decide +kernel
theorem dX6_init_47 : decode cX6_init 47 = .ok (.newarray .long, 2) := by decide +kernel
theorem dX6_init_49 : decode cX6_init 49 = .ok (.putfield 39, 3) := by decide +kernel
theorem dX6_init_52 : decode cX6_init 52 = .ok (.aload_n 0, 1) := by decide +kernel
theorem dX6_init_53 : decode cX6_init 53 = .ok (.bipush 64, 2) := by decide +kernel
theorem dX6_init_55 : decode cX6_init 55 = .ok (.newarray .long, 2) := by decide +kernel
theorem dX6_init_57 : decode cX6_init 57 = .ok (.putfield 43, 3) := by decide +kernel
theorem dX6_init_60 : decode cX6_init 60 = .ok (.return_, 1) := by decide +kernel
theorem dX8_init_0 : decode cX8_init 0 = .ok (.aload_n 0, 1) := by decide +kernel
theorem dX8_init_1 : decode cX8_init 1 = .ok (.invokespecial 7, 3) := by decide +kernel
theorem dX8_init_4 : decode cX8_init 4 = .ok (.aload_n 0, 1) := by decide +kernel
theorem dX8_init_5 : decode cX8_init 5 = .ok (.sipush 412, 3) := by decide +kernel
theorem dX8_init_8 : decode cX8_init 8 = .ok (.newarray .int, 2) := by decide +kernel
theorem dX8_init_10 : decode cX8_init 10 = .ok (.putfield 13, 3) := by decide +kernel
theorem dX8_init_13 : decode cX8_init 13 = .ok (.aload_n 0, 1) := by decide +kernel
theorem dX8_init_14 : decode cX8_init 14 = .ok (.iconst 0, 1) := by decide +kernel
theorem dX8_init_15 : decode cX8_init 15 = .ok (.putfield 17, 3) := by decide +kernel
theorem dX8_init_18 : decode cX8_init 18 = .ok (.aload_n 0, 1) := by decide +kernel
theorem dX8_init_19 : decode cX8_init 19 = .ok (.iconst 0, 1) := by decide +kernel
theorem dX8_init_20 : decode cX8_init 20 = .ok (.putfield 21, 3) := by decide +kernel
theorem dX8_init_23 : decode cX8_init 23 = .ok (.return_, 1) := by decide +kernel
theorem dX9_init_0 : decode cX9_init 0 = .ok (.aload_n 0, 1) := by decide +kernel
theorem dX9_init_1 : decode cX9_init 1 = .ok (.invokespecial 3, 3) := by decide +kernel
theorem dX9_init_4 : decode cX9_init 4 = .ok (.aload_n 0, 1) := by decide +kernel
theorem dX9_init_5 : decode cX9_init 5 = .ok (.iconst 0, 1) := by decide +kernel
theorem dX9_init_6 : decode cX9_init 6 = .ok (.putfield 9, 3) := by decide +kernel
theorem dX9_init_9 : decode cX9_init 9 = .ok (.aload_n 0, 1) := by decide +kernel
theorem dX9_init_10 : decode cX9_init 10 = .ok (.iconst (-1), 1) := by decide +kernel
theorem dX9_init_11 : decode cX9_init 11 = .ok (.putfield 15, 3) := by decide +kernel
theorem dX9_init_14 : decode cX9_init 14 = .ok (.aload_n 0, 1) := by decide +kernel
theorem dX9_init_15 : decode cX9_init 15 = .ok (.bipush 7, 2) := by decide +kernel
theorem dX9_init_17 : decode cX9_init 17 = .ok (.iconst 5, 1) := by decide +kernel
theorem dX9_init_18 : decode cX9_init 18 = .ok (.multianewarray 18 2, 4) := by decide +kernel
theorem dX9_init_22 : decode cX9_init 22 = .ok (.putfield 20, 3) := by decide +kernel
theorem dX9_init_25 : decode cX9_init 25 = .ok (.return_, 1) := by decide +kernel
theorem dX10_init_0 : decode cX10_init 0 = .ok (.aload_n 0, 1) := by decide +kernel
theorem dX10_init_1 : decode cX10_init 1 = .ok (.invokespecial 3, 3) := by decide +kernel
theorem dX10_init_4 : decode cX10_init 4 = .ok (.aload_n 0, 1) := by decide +kernel
theorem dX10_init_5 : decode cX10_init 5 = .ok (.sipush 400, 3) := by decide +kernel
theorem dX10_init_8 : decode cX10_init 8 = .ok (.newarray .int, 2) := by decide +kernel
theorem dX10_init_10 : decode cX10_init 10 = .ok (.putfield 11, 3) := by decide +kernel
theorem dX10_init_13 : decode cX10_init 13 = .ok (.aload_n 0, 1) := by decide +kernel
theorem dX10_init_14 : decode cX10_init 14 = .ok (.iconst 0, 1) := by decide +kernel
theorem dX10_init_15 : decode cX10_init 15 = .ok (.putfield 15, 3) := by decide +kernel
theorem dX10_init_18 : decode cX10_init 18 = .ok (.aload_n 0, 1) := by decide +kernel
theorem dX10_init_19 : decode cX10_init 19 = .ok (.sipush 401, 3) := by decide +kernel
theorem dX10_init_22 : decode cX10_init 22 = .ok (.newarray .int, 2) := by decide +kernel
theorem dX10_init_24 : decode cX10_init 24 = .ok (.putfield 19, 3) := by decide +kernel
theorem dX10_init_27 : decode cX10_init 27 = .ok (.aload_n 0, 1) := by decide +kernel
theorem dX10_init_28 : decode cX10_init 28 = .ok (.sipush 401, 3) := by decide +kernel
theorem dX10_init_31 : decode cX10_init 31 = .ok (.newarray .int, 2) := by decide +kernel
theorem dX10_init_33 : decode cX10_init 33 = .ok (.putfield 22, 3) := by decide +kernel
theorem dX10_init_36 : decode cX10_init 36 = .ok (.aload_n 0, 1) := by decide +kernel
theorem dX10_init_37 : decode cX10_init 37 = .ok (.sipush 401, 3) := by decide +kernel
theorem dX10_init_40 : decode cX10_init 40 = .ok (.newarray .int, 2) := by decide +kernel
theorem dX10_init_42 : decode cX10_init 42 = .ok (.putfield 25, 3) := by decide +kernel
theorem dX10_init_45 : decode cX10_init 45 = .ok (.aload_n 0, 1) := by decide +kernel
theorem dX10_init_46 : decode cX10_init 46 = .ok (.iconst 0, 1) := by decide +kernel
theorem dX10_init_47 : decode cX10_init 47 = .ok (.putfield 28, 3) := by decide +kernel
theorem dX10_init_50 : decode cX10_init 50 = .ok (.aload_n 0, 1) := by decide +kernel
theorem dX10_init_51 : decode cX10_init 51 = .ok (.iconst 0, 1) := by decide +kernel
theorem dX10_init_52 : decode cX10_init 52 = .ok (.putfield 31, 3) := by decide +kernel
theorem dX10_init_55 : decode cX10_init 55 = .ok (.aload_n 0, 1) := by decide +kernel
theorem dX10_init_56 : decode cX10_init 56 = .ok (.iconst 0, 1) := by decide +kernel
theorem dX10_init_57 : decode cX10_init 57 = .ok (.putfield 34, 3) := by decide +kernel
theorem dX10_init_60 : decode cX10_init 60 = .ok (.aload_n 0, 1) := by decide +kernel
theorem dX10_init_61 : decode cX10_init 61 = .ok (.iconst 0, 1) := by decide +kernel
theorem dX10_init_62 : decode cX10_init 62 = .ok (.putfield 37, 3) := by decide +kernel
theorem dX10_init_65 : decode cX10_init 65 = .ok (.aload_n 0, 1) := by decide +kernel
theorem dX10_init_66 : decode cX10_init 66 = .ok (.iconst 0, 1) := by decide +kernel
theorem dX10_init_67 : decode cX10_init 67 = .ok (.putfield 40, 3) := by decide +kernel
theorem dX10_init_70 : decode cX10_init 70 = .ok (.aload_n 0, 1) := by decide +kernel
theorem dX10_init_71 : decode cX10_init 71 = .ok (.iconst 0, 1) := by decide +kernel
theorem dX10_init_72 : decode cX10_init 72 = .ok (.putfield 43, 3) := by decide +kernel
theorem dX10_init_75 : decode cX10_init 75 = .ok (.return_, 1) := by decide +kernel
theorem dX10_open_0 : decode cX10_open 0 = .ok (.aload_n 0, 1) := by decide +kernel
theorem dX10_open_1 : decode cX10_open 1 = .ok (.iconst 0, 1) := by decide +kernel
theorem dX10_open_2 : decode cX10_open 2 = .ok (.putfield 28, 3) := by decide +kernel
theorem dX10_open_5 : decode cX10_open 5 = .ok (.iconst 0, 1) := by decide +kernel
theorem dX10_open_6 : decode cX10_open 6 = .ok (.istore_n 1, 1) := by decide +kernel
theorem dX10_open_7 : decode cX10_open 7 = .ok (.iconst 0, 1) := by decide +kernel
theorem dX10_open_8 : decode cX10_open 8 = .ok (.istore_n 2, 1) := by decide +kernel
theorem dX10_open_9 : decode cX10_open 9 = .ok (.iload_n 2, 1) := by decide +kernel
theorem dX10_open_10 : decode cX10_open 10 = .ok (.sipush 400, 3) := by decide +kernel
theorem dX10_open_13 : decode cX10_open 13 = .ok (.if_icmp .ge 40, 3) := by decide +kernel
theorem dX10_open_16 : decode cX10_open 16 = .ok (.iload_n 1, 1) := by decide +kernel
theorem dX10_open_17 : decode cX10_open 17 = .ok (.aload_n 0, 1) := by decide +kernel
theorem dX10_open_18 : decode cX10_open 18 = .ok (.getfield 15, 3) := by decide +kernel
theorem dX10_open_21 : decode cX10_open 21 = .ok (.if_icmp .ge 32, 3) := by decide +kernel
theorem dX10_open_24 : decode cX10_open 24 = .ok (.aload_n 0, 1) := by decide +kernel
theorem dX10_open_25 : decode cX10_open 25 = .ok (.getfield 11, 3) := by decide +kernel
theorem dX10_open_28 : decode cX10_open 28 = .ok (.iload_n 1, 1) := by decide +kernel
theorem dX10_open_29 : decode cX10_open 29 = .ok (.iaload, 1) := by decide +kernel
theorem dX10_open_30 : decode cX10_open 30 = .ok (.bipush 32, 2) := by decide +kernel
theorem dX10_open_32 : decode cX10_open 32 = .ok (.if_icmp .ne 9, 3) := by decide +kernel
theorem dX10_open_35 : decode cX10_open 35 = .ok (.iload_n 1, 1) := by decide +kernel
theorem dX10_open_36 : decode cX10_open 36 = .ok (.iconst 1, 1) := by decide +kernel
theorem dX10_open_37 : decode cX10_open 37 = .ok (.iadd, 1) := by decide +kernel
theorem dX10_open_38 : decode cX10_open 38 = .ok (.goto 8, 3) := by decide +kernel
theorem dX10_open_41 : decode cX10_open 41 = .ok (.aload_n 0, 1) := by decide +kernel
theorem dX10_open_42 : decode cX10_open 42 = .ok (.iload_n 1, 1) := by decide +kernel
theorem dX10_open_43 : decode cX10_open 43 = .ok (.invokevirtual 46, 3) := by decide +kernel
theorem dX10_open_46 : decode cX10_open 46 = .ok (.istore_n 1, 1) := by decide +kernel
theorem dX10_open_47 : decode cX10_open 47 = .ok (.iinc 2 1, 3) := by decide +kernel
theorem dX10_open_50 : decode cX10_open 50 = .ok (.goto (-41), 3) := by decide +kernel
theorem dX10_open_53 : decode cX10_open 53 = .ok (.aload_n 0, 1) := by decide +kernel
theorem dX10_open_54 : decode cX10_open 54 = .ok (.iconst 0, 1) := by decide +kernel
theorem dX10_open_55 : decode cX10_open 55 = .ok (.iconst 0, 1) := by decide +kernel
theorem dX10_open_56 : decode cX10_open 56 = .ok (.aload_n 0, 1) := by decide +kernel
theorem dX10_open_57 : decode cX10_open 57 = .ok (.getfield 15, 3) := by decide +kernel
theorem dX10_open_60 : decode cX10_open 60 = .ok (.invokevirtual 50, 3) := by decide +kernel
theorem dX10_open_63 : decode cX10_open 63 = .ok (.aload_n 0, 1) := by decide +kernel
theorem dX10_open_64 : decode cX10_open 64 = .ok (.iconst 0, 1) := by decide +kernel
theorem dX10_open_65 : decode cX10_open 65 = .ok (.putfield 43, 3) := by decide +kernel
theorem dX10_open_68 : decode cX10_open 68 = .ok (.aload_n 0, 1) := by decide +kernel
theorem dX10_open_69 : decode cX10_open 69 = .ok (.iconst (-1), 1) := by decide +kernel
theorem dX10_open_70 : decode cX10_open 70 = .ok (.putfield 31, 3) := by decide +kernel
theorem dX10_open_73 : decode cX10_open 73 = .ok (.aload_n 0, 1) := by decide +kernel
theorem dX10_open_74 : decode cX10_open 74 = .ok (.invokevirtual 54, 3) := by decide +kernel
theorem dX10_open_77 : decode cX10_open 77 = .ok (.return_, 1) := by decide +kernel
theorem dX11_ails_0 : decode cX11_ails 0 = .ok (.aload_n 0, 1) := by decide +kernel
theorem dX11_ails_1 : decode cX11_ails 1 = .ok (.getfield 43, 3) := by decide +kernel
theorem dX11_ails_4 : decode cX11_ails 4 = .ok (.getfield 111, 3) := by decide +kernel
theorem dX11_ails_7 : decode cX11_ails 7 = .ok (.iload_n 1, 1) := by decide +kernel
theorem dX11_ails_8 : decode cX11_ails 8 = .ok (.invokevirtual 139, 3) := by decide +kernel
theorem dX11_ails_11 : decode cX11_ails 11 = .ok (.ifCond .ne 5, 3) := by decide +kernel
theorem dX11_ails_14 : decode cX11_ails 14 = .ok (.iconst (-1), 1) := by decide +kernel
theorem dX11_ails_15 : decode cX11_ails 15 = .ok (.ireturn, 1) := by decide +kernel
theorem dX11_ails_16 : decode cX11_ails 16 = .ok (.aload_n 0, 1) := by decide +kernel
theorem dX11_ails_17 : decode cX11_ails 17 = .ok (.getfield 43, 3) := by decide +kernel
theorem dX11_ails_20 : decode cX11_ails 20 = .ok (.getfield 111, 3) := by decide +kernel
theorem dX11_ails_23 : decode cX11_ails 23 = .ok (.getfield 124, 3) := by decide +kernel
theorem dX11_ails_26 : decode cX11_ails 26 = .ok (.iconst 3, 1) := by decide +kernel
theorem dX11_ails_27 : decode cX11_ails 27 = .ok (.iaload, 1) := by decide +kernel
theorem dX11_ails_28 : decode cX11_ails 28 = .ok (.iconst 1, 1) := by decide +kernel
theorem dX11_ails_29 : decode cX11_ails 29 = .ok (.isub, 1) := by decide +kernel
theorem dX11_ails_30 : decode cX11_ails 30 = .ok (.istore_n 2, 1) := by decide +kernel
theorem dX11_ails_31 : decode cX11_ails 31 = .ok (.aload_n 0, 1) := by decide +kernel
theorem dX11_ails_32 : decode cX11_ails 32 = .ok (.getfield 75, 3) := by decide +kernel
theorem dX11_ails_35 : decode cX11_ails 35 = .ok (.aload_n 0, 1) := by decide +kernel
theorem dX11_ails_36 : decode cX11_ails 36 = .ok (.getfield 61, 3) := by decide +kernel
theorem dX11_ails_39 : decode cX11_ails 39 = .ok (.aload_n 0, 1) := by decide +kernel
theorem dX11_ails_40 : decode cX11_ails 40 = .ok (.getfield 43, 3) := by decide +kernel
theorem dX11_ails_43 : decode cX11_ails 43 = .ok (.aload_n 0, 1) := by decide +kernel
theorem dX11_ails_44 : decode cX11_ails 44 = .ok (.invokevirtual 159, 3) := by decide +kernel
theorem dX11_ails_47 : decode cX11_ails 47 = .ok (.bipush 38, 2) := by decide +kernel
theorem dX11_ails_49 : decode cX11_ails 49 = .ok (.iload_n 1, 1) := by decide +kernel
theorem dX11_ails_50 : decode cX11_ails 50 = .ok (.iadd, 1) := by decide +kernel
theorem dX11_ails_51 : decode cX11_ails 51 = .ok (.iconst 0, 1) := by decide +kernel
theorem dX11_ails_52 : decode cX11_ails 52 = .ok (.iload_n 2, 1) := by decide +kernel
theorem dX11_ails_53 : decode cX11_ails 53 = .ok (.invokevirtual 239, 3) := by decide +kernel
theorem dX11_ails_56 : decode cX11_ails 56 = .ok (.ireturn, 1) := by decide +kernel
theorem dX11_back_0 : decode cX11_back 0 = .ok (.iload_n 1, 1) := by decide +kernel
theorem dX11_back_1 : decode cX11_back 1 = .ok (.iconst 0, 1) := by decide +kernel
theorem dX11_back_2 : decode cX11_back 2 = .ok (.iconst 3, 1) := by decide +kernel
theorem dX11_back_3 : decode cX11_back 3 = .ok (.invokestatic 90, 3) := by decide +kernel
theorem dX11_back_6 : decode cX11_back 6 = .ok (.ifCond .eq 15, 3) := by decide +kernel
theorem dX11_back_9 : decode cX11_back 9 = .ok (.aload_n 0, 1) := by decide +kernel
theorem dX11_back_10 : decode cX11_back 10 = .ok (.getfield 47, 3) := by decide +kernel
theorem dX11_back_13 : decode cX11_back 13 = .ok (.iload_n 1, 1) := by decide +kernel
theorem dX11_back_14 : decode cX11_back 14 = .ok (.aaload, 1) := by decide +kernel
theorem dX11_back_15 : decode cX11_back 15 = .ok (.getfield 273, 3) := by decide +kernel
theorem dX11_back_18 : decode cX11_back 18 = .ok (.ifCond .ne 5, 3) := by decide +kernel
theorem dX11_back_21 : decode cX11_back 21 = .ok (.iconst (-1), 1) := by decide +kernel
theorem dX11_back_22 : decode cX11_back 22 = .ok (.ireturn, 1) := by decide +kernel
theorem dX11_back_23 : decode cX11_back 23 = .ok (.aload_n 0, 1) := by decide +kernel
theorem dX11_back_24 : decode cX11_back 24 = .ok (.getfield 43, 3) := by decide +kernel
theorem dX11_back_27 : decode cX11_back 27 = .ok (.aload_n 0, 1) := by decide +kernel
theorem dX11_back_28 : decode cX11_back 28 = .ok (.getfield 47, 3) := by decide +kernel
theorem dX11_back_31 : decode cX11_back 31 = .ok (.iload_n 1, 1) := by decide +kernel
theorem dX11_back_32 : decode cX11_back 32 = .ok (.aaload, 1) := by decide +kernel
theorem dX11_back_33 : decode cX11_back 33 = .ok (.invokevirtual 270, 3) := by decide +kernel
theorem dX11_back_36 : decode cX11_back 36 = .ok (.aload_n 0, 1) := by decide +kernel
theorem dX11_back_37 : decode cX11_back 37 = .ok (.getfield 54, 3) := by decide +kernel
theorem dX11_back_40 : decode cX11_back 40 = .ok (.iconst 0, 1) := by decide +kernel
theorem dX11_back_41 : decode cX11_back 41 = .ok (.putfield 123, 3) := by decide +kernel
theorem dX11_back_44 : decode cX11_back 44 = .ok (.aload_n 0, 1) := by decide +kernel
theorem dX11_back_45 : decode cX11_back 45 = .ok (.getfield 43, 3) := by decide +kernel
theorem dX11_back_48 : decode cX11_back 48 = .ok (.getfield 111, 3) := by decide +kernel
theorem dX11_back_51 : decode cX11_back 51 = .ok (.getfield 124, 3) := by decide +kernel
theorem dX11_back_54 : decode cX11_back 54 = .ok (.iconst 5, 1) := by decide +kernel
theorem dX11_back_55 : decode cX11_back 55 = .ok (.iaload, 1) := by decide +kernel
theorem dX11_back_56 : decode cX11_back 56 = .ok (.ireturn, 1) := by decide +kernel
theorem dX11_down_0 : decode cX11_down 0 = .ok (.aload_n 0, 1) := by decide +kernel
theorem dX11_down_1 : decode cX11_down 1 = .ok (.getfield 43, 3) := by decide +kernel
theorem dX11_down_4 : decode cX11_down 4 = .ok (.getfield 111, 3) := by decide +kernel
theorem dX11_down_7 : decode cX11_down 7 = .ok (.astore_n 3, 1) := by decide +kernel
theorem dX11_down_8 : decode cX11_down 8 = .ok (.aload_n 3, 1) := by decide +kernel
theorem dX11_down_9 : decode cX11_down 9 = .ok (.iload_n 1, 1) := by decide +kernel
theorem dX11_down_10 : decode cX11_down 10 = .ok (.invokevirtual 139, 3) := by decide +kernel
theorem dX11_down_13 : decode cX11_down 13 = .ok (.ifCond .eq 11, 3) := by decide +kernel
theorem dX11_down_16 : decode cX11_down 16 = .ok (.aload_n 3, 1) := by decide +kernel
theorem dX11_down_17 : decode cX11_down 17 = .ok (.iload_n 2, 1) := by decide +kernel
theorem dX11_down_18 : decode cX11_down 18 = .ok (.invokevirtual 136, 3) := by decide +kernel
theorem dX11_down_21 : decode cX11_down 21 = .ok (.ifCond .ne 5, 3) := by decide +kernel
theorem dX11_down_24 : decode cX11_down 24 = .ok (.iconst (-1), 1) := by decide +kernel
theorem dX11_down_25 : decode cX11_down 25 = .ok (.ireturn, 1) := by decide +kernel
theorem dX11_down_26 : decode cX11_down 26 = .ok (.aload_n 3, 1) := by decide +kernel
theorem dX11_down_27 : decode cX11_down 27 = .ok (.iload_n 1, 1) := by decide +kernel
theorem dX11_down_28 : decode cX11_down 28 = .ok (.iload_n 2, 1) := by decide +kernel
theorem dX11_down_29 : decode cX11_down 29 = .ok (.aload_n 3, 1) := by decide +kernel
theorem dX11_down_30 : decode cX11_down 30 = .ok (.aload_n 3, 1) := by decide +kernel
theorem dX11_down_31 : decode cX11_down 31 = .ok (.getfield 124, 3) := by decide +kernel
theorem dX11_down_34 : decode cX11_down 34 = .ok (.bipush 6, 2) := by decide +kernel
theorem dX11_down_36 : decode cX11_down 36 = .ok (.iaload, 1) := by decide +kernel
theorem dX11_down_37 : decode cX11_down 37 = .ok (.invokevirtual 142, 3) := by decide +kernel
theorem dX11_down_40 : decode cX11_down 40 = .ok (.invokevirtual 194, 3) := by decide +kernel
theorem dX11_down_43 : decode cX11_down 43 = .ok (.invokestatic 175, 3) := by decide +kernel
theorem dX11_down_46 : decode cX11_down 46 = .ok (.ireturn, 1) := by decide +kernel
theorem dX11_feed_0 : decode cX11_feed 0 = .ok (.aload_n 0, 1) := by decide +kernel
theorem dX11_feed_1 : decode cX11_feed 1 = .ok (.getfield 10, 3) := by decide +kernel
theorem dX11_feed_4 : decode cX11_feed 4 = .ok (.bipush 20, 2) := by decide +kernel
theorem dX11_feed_6 : decode cX11_feed 6 = .ok (.invokevirtual 79, 3) := by decide +kernel
theorem dX11_feed_9 : decode cX11_feed 9 = .ok (.ifCond .ne 5, 3) := by decide +kernel
theorem dX11_feed_12 : decode cX11_feed 12 = .ok (.iconst (-1), 1) := by decide +kernel
theorem dX11_feed_13 : decode cX11_feed 13 = .ok (.ireturn, 1) := by decide +kernel
theorem dX11_feed_14 : decode cX11_feed 14 = .ok (.aload_n 0, 1) := by decide +kernel
theorem dX11_feed_15 : decode cX11_feed 15 = .ok (.getfield 10, 3) := by decide +kernel
theorem dX11_feed_18 : decode cX11_feed 18 = .ok (.iload_n 1, 1) := by decide +kernel
theorem dX11_feed_19 : decode cX11_feed 19 = .ok (.invokevirtual 83, 3) := by decide +kernel
theorem dX11_feed_22 : decode cX11_feed 22 = .ok (.aload_n 0, 1) := by decide +kernel
theorem dX11_feed_23 : decode cX11_feed 23 = .ok (.getfield 10, 3) := by decide +kernel
theorem dX11_feed_26 : decode cX11_feed 26 = .ok (.iload_n 2, 1) := by decide +kernel
theorem dX11_feed_27 : decode cX11_feed 27 = .ok (.invokevirtual 83, 3) := by decide +kernel
theorem dX11_feed_30 : decode cX11_feed 30 = .ok (.aload_n 0, 1) := by decide +kernel
theorem dX11_feed_31 : decode cX11_feed 31 = .ok (.getfield 10, 3) := by decide +kernel
theorem dX11_feed_34 : decode cX11_feed 34 = .ok (.iload_n 3, 1) := by decide +kernel
theorem dX11_feed_35 : decode cX11_feed 35 = .ok (.invokevirtual 83, 3) := by decide +kernel
theorem dX11_feed_38 : decode cX11_feed 38 = .ok (.aload_n 0, 1) := by decide +kernel
theorem dX11_feed_39 : decode cX11_feed 39 = .ok (.getfield 10, 3) := by decide +kernel
theorem dX11_feed_42 : decode cX11_feed 42 = .ok (.iload 4, 2) := by decide +kernel
theorem dX11_feed_44 : decode cX11_feed 44 = .ok (.invokevirtual 83, 3) := by decide +kernel
theorem dX11_feed_47 : decode cX11_feed 47 = .ok (.aload_n 0, 1) := by decide +kernel
theorem dX11_feed_48 : decode cX11_feed 48 = .ok (.getfield 10, 3) := by decide +kernel
theorem dX11_feed_51 : decode cX11_feed 51 = .ok (.iload 5, 2) := by decide +kernel
theorem dX11_feed_53 : decode cX11_feed 53 = .ok (.invokevirtual 83, 3) := by decide +kernel
theorem dX11_feed_56 : decode cX11_feed 56 = .ok (.aload_n 0, 1) := by decide +kernel
theorem dX11_feed_57 : decode cX11_feed 57 = .ok (.getfield 10, 3) := by decide +kernel
theorem dX11_feed_60 : decode cX11_feed 60 = .ok (.getfield 87, 3) := by decide +kernel
theorem dX11_feed_63 : decode cX11_feed 63 = .ok (.ireturn, 1) := by decide +kernel
theorem dX11_hold_0 : decode cX11_hold 0 = .ok (.aload_n 0, 1) := by decide +kernel
theorem dX11_hold_1 : decode cX11_hold 1 = .ok (.getfield 43, 3) := by decide +kernel
theorem dX11_hold_4 : decode cX11_hold 4 = .ok (.getfield 111, 3) := by decide +kernel
theorem dX11_hold_7 : decode cX11_hold 7 = .ok (.astore_n 2, 1) := by decide +kernel
theorem dX11_hold_8 : decode cX11_hold 8 = .ok (.aload_n 2, 1) := by decide +kernel
theorem dX11_hold_9 : decode cX11_hold 9 = .ok (.iload_n 1, 1) := by decide +kernel
theorem dX11_hold_10 : decode cX11_hold 10 = .ok (.invokevirtual 139, 3) := by decide +kernel
theorem dX11_hold_13 : decode cX11_hold 13 = .ok (.ifCond .ne 5, 3) := by decide +kernel
theorem dX11_hold_16 : decode cX11_hold 16 = .ok (.iconst (-1), 1) := by decide +kernel
theorem dX11_hold_17 : decode cX11_hold 17 = .ok (.ireturn, 1) := by decide +kernel
theorem dX11_hold_18 : decode cX11_hold 18 = .ok (.aload_n 2, 1) := by decide +kernel
theorem dX11_hold_19 : decode cX11_hold 19 = .ok (.getfield 124, 3) := by decide +kernel
theorem dX11_hold_22 : decode cX11_hold 22 = .ok (.bipush 6, 2) := by decide +kernel
theorem dX11_hold_24 : decode cX11_hold 24 = .ok (.iaload, 1) := by decide +kernel
theorem dX11_hold_25 : decode cX11_hold 25 = .ok (.istore_n 3, 1) := by decide +kernel
theorem dX11_hold_26 : decode cX11_hold 26 = .ok (.iconst 0, 1) := by decide +kernel
theorem dX11_hold_27 : decode cX11_hold 27 = .ok (.istore 4, 2) := by decide +kernel
theorem dX11_hold_29 : decode cX11_hold 29 = .ok (.iload 4, 2) := by decide +kernel
theorem dX11_hold_31 : decode cX11_hold 31 = .ok (.bipush 60, 2) := by decide +kernel
theorem dX11_hold_33 : decode cX11_hold 33 = .ok (.if_icmp .gt 28, 3) := by decide +kernel
theorem dX11_hold_36 : decode cX11_hold 36 = .ok (.aload_n 2, 1) := by decide +kernel
theorem dX11_hold_37 : decode cX11_hold 37 = .ok (.iload_n 1, 1) := by decide +kernel
theorem dX11_hold_38 : decode cX11_hold 38 = .ok (.aload_n 2, 1) := by decide +kernel
theorem dX11_hold_39 : decode cX11_hold 39 = .ok (.iload_n 3, 1) := by decide +kernel
theorem dX11_hold_40 : decode cX11_hold 40 = .ok (.iload 4, 2) := by decide +kernel
theorem dX11_hold_42 : decode cX11_hold 42 = .ok (.iadd, 1) := by decide +kernel
theorem dX11_hold_43 : decode cX11_hold 43 = .ok (.invokevirtual 142, 3) := by decide +kernel
theorem dX11_hold_46 : decode cX11_hold 46 = .ok (.invokevirtual 204, 3) := by decide +kernel
theorem dX11_hold_49 : decode cX11_hold 49 = .ok (.ifCond .ne 6, 3) := by decide +kernel
theorem dX11_hold_52 : decode cX11_hold 52 = .ok (.iload 4, 2) := by decide +kernel
theorem dX11_hold_54 : decode cX11_hold 54 = .ok (.ireturn, 1) := by decide +kernel
theorem dX11_hold_55 : decode cX11_hold 55 = .ok (.iinc 4 1, 3) := by decide +kernel
theorem dX11_hold_58 : decode cX11_hold 58 = .ok (.goto (-29), 3) := by decide +kernel
theorem dX11_hold_61 : decode cX11_hold 61 = .ok (.bipush (-2), 2) := by decide +kernel
theorem dX11_hold_63 : decode cX11_hold 63 = .ok (.ireturn, 1) := by decide +kernel
theorem dX11_init_0 : decode cX11_init 0 = .ok (.aload_n 0, 1) := by decide +kernel
theorem dX11_init_1 : decode cX11_init 1 = .ok (.invokespecial 1, 3) := by decide +kernel
theorem dX11_init_4 : decode cX11_init 4 = .ok (.aload_n 0, 1) := by decide +kernel
theorem dX11_init_5 : decode cX11_init 5 = .ok (.new 7, 3) := by decide +kernel
theorem dX11_init_8 : decode cX11_init 8 = .ok (.dup, 1) := by decide +kernel
theorem dX11_init_9 : decode cX11_init 9 = .ok (.invokespecial 9, 3) := by decide +kernel
theorem dX11_init_12 : decode cX11_init 12 = .ok (.putfield 10, 3) := by decide +kernel
theorem dX11_init_15 : decode cX11_init 15 = .ok (.aload_n 0, 1) := by decide +kernel
theorem dX11_init_16 : decode cX11_init 16 = .ok (.new 16, 3) := by decide +kernel
theorem dX11_init_19 : decode cX11_init 19 = .ok (.dup, 1) := by decide +kernel
theorem dX11_init_20 : decode cX11_init 20 = .ok (.invokespecial 18, 3) := by decide +kernel
theorem dX11_init_23 : decode cX11_init 23 = .ok (.putfield 19, 3) := by decide +kernel
theorem dX11_init_26 : decode cX11_init 26 = .ok (.aload_n 0, 1) := by decide +kernel
theorem dX11_init_27 : decode cX11_init 27 = .ok (.new 23, 3) := by decide +kernel
theorem dX11_init_30 : decode cX11_init 30 = .ok (.dup, 1) := by decide +kernel
theorem dX11_init_31 : decode cX11_init 31 = .ok (.invokespecial 25, 3) := by decide +kernel
theorem dX11_init_34 : decode cX11_init 34 = .ok (.putfield 26, 3) := by decide +kernel
theorem dX11_init_37 : decode cX11_init 37 = .ok (.aload_n 0, 1) := by decide +kernel
theorem dX11_init_38 : decode cX11_init 38 = .ok (.bipush 6, 2) := by decide +kernel
theorem dX11_init_40 : decode cX11_init 40 = .ok (.anewarray 30, 3) := by decide +kernel
theorem dX11_init_43 : decode cX11_init 43 = .ok (.putfield 32, 3) := by decide +kernel
theorem dX11_init_46 : decode cX11_init 46 = .ok (.aload_n 0, 1) := by decide +kernel
theorem dX11_init_47 : decode cX11_init 47 = .ok (.iconst 0, 1) := by decide +kernel
theorem dX11_init_48 : decode cX11_init 48 = .ok (.putfield 36, 3) := by decide +kernel
theorem dX11_init_51 : decode cX11_init 51 = .ok (.aload_n 0, 1) := by decide +kernel
theorem dX11_init_52 : decode cX11_init 52 = .ok (.new 40, 3) := by decide +kernel
theorem dX11_init_55 : decode cX11_init 55 = .ok (.dup, 1) := by decide +kernel
theorem dX11_init_56 : decode cX11_init 56 = .ok (.invokespecial 42, 3) := by decide +kernel
theorem dX11_init_59 : decode cX11_init 59 = .ok (.putfield 43, 3) := by decide +kernel
theorem dX11_init_62 : decode cX11_init 62 = .ok (.aload_n 0, 1) := by decide +kernel
theorem dX11_init_63 : decode cX11_init 63 = .ok (.iconst 4, 1) := by decide +kernel
theorem dX11_init_64 : decode cX11_init 64 = .ok (.anewarray 40, 3) := by decide +kernel
theorem dX11_init_67 : decode cX11_init 67 = .ok (.putfield 47, 3) := by decide +kernel
theorem dX11_init_70 : decode cX11_init 70 = .ok (.aload_n 0, 1) := by decide +kernel
theorem dX11_init_71 : decode cX11_init 71 = .ok (.new 51, 3) := by decide +kernel
theorem dX11_init_74 : decode cX11_init 74 = .ok (.dup, 1) := by decide +kernel
theorem dX11_init_75 : decode cX11_init 75 = .ok (.invokespecial 53, 3) := by decide +kernel
theorem dX11_init_78 : decode cX11_init 78 = .ok (.putfield 54, 3) := by decide +kernel
theorem dX11_init_81 : decode cX11_init 81 = .ok (.aload_n 0, 1) := by decide +kernel
theorem dX11_init_82 : decode cX11_init 82 = .ok (.new 58, 3) := by decide +kernel
theorem dX11_init_85 : decode cX11_init 85 = .ok (.dup, 1) := by decide +kernel
theorem dX11_init_86 : decode cX11_init 86 = .ok (.invokespecial 60, 3) := by decide +kernel
theorem dX11_init_89 : decode cX11_init 89 = .ok (.putfield 61, 3) := by decide +kernel
theorem dX11_init_92 : decode cX11_init 92 = .ok (.aload_n 0, 1) := by decide +kernel
theorem dX11_init_93 : decode cX11_init 93 = .ok (.new 65, 3) := by decide +kernel
theorem dX11_init_96 : decode cX11_init 96 = .ok (.dup, 1) := by decide +kernel
theorem dX11_init_97 : decode cX11_init 97 = .ok (.invokespecial 67, 3) := by decide +kernel
theorem dX11_init_100 : decode cX11_init 100 = .ok (.putfield 68, 3) := by decide +kernel
theorem dX11_init_103 : decode cX11_init 103 = .ok (.aload_n 0, 1) := by decide +kernel
theorem dX11_init_104 : decode cX11_init 104 = .ok (.new 72, 3) := by decide +kernel
theorem dX11_init_107 : decode cX11_init 107 = .ok (.dup, 1) := by decide +kernel
theorem dX11_init_108 : decode cX11_init 108 = .ok (.invokespecial 74, 3) := by decide +kernel
theorem dX11_init_111 : decode cX11_init 111 = .ok (.putfield 75, 3) := by decide +kernel
theorem dX11_init_114 : decode cX11_init 114 = .ok (.iconst 0, 1) := by decide +kernel
theorem dX11_init_115 : decode cX11_init 115 = .ok (.istore_n 1, 1) := by decide +kernel
theorem dX11_init_116 : decode cX11_init 116 = .ok (.iload_n 1, 1) := by decide +kernel
theorem dX11_init_117 : decode cX11_init 117 = .ok (.iconst 4, 1) := by decide +kernel
theorem dX11_init_118 : decode cX11_init 118 = .ok (.if_icmp .ge 22, 3) := by decide +kernel
theorem dX11_init_121 : decode cX11_init 121 = .ok (.aload_n 0, 1) := by decide +kernel
theorem dX11_init_122 : decode cX11_init 122 = .ok (.getfield 47, 3) := by decide +kernel
theorem dX11_init_125 : decode cX11_init 125 = .ok (.iload_n 1, 1) := by decide +kernel
theorem dX11_init_126 : decode cX11_init 126 = .ok (.new 40, 3) := by decide +kernel
theorem dX11_init_129 : decode cX11_init 129 = .ok (.dup, 1) := by decide +kernel
theorem dX11_init_130 : decode cX11_init 130 = .ok (.invokespecial 42, 3) := by decide +kernel
theorem dX11_init_133 : decode cX11_init 133 = .ok (.aastore, 1) := by decide +kernel
theorem dX11_init_134 : decode cX11_init 134 = .ok (.iinc 1 1, 3) := by decide +kernel
theorem dX11_init_137 : decode cX11_init 137 = .ok (.goto (-21), 3) := by decide +kernel
theorem dX11_init_140 : decode cX11_init 140 = .ok (.return_, 1) := by decide +kernel
theorem dX11_look_0 : decode cX11_look 0 = .ok (.aload_n 0, 1) := by decide +kernel
theorem dX11_look_1 : decode cX11_look 1 = .ok (.getfield 43, 3) := by decide +kernel
theorem dX11_look_4 : decode cX11_look 4 = .ok (.getfield 111, 3) := by decide +kernel
theorem dX11_look_7 : decode cX11_look 7 = .ok (.invokevirtual 152, 3) := by decide +kernel
theorem dX11_look_10 : decode cX11_look 10 = .ok (.ifCond .eq 22, 3) := by decide +kernel
theorem dX11_look_13 : decode cX11_look 13 = .ok (.iload_n 1, 1) := by decide +kernel
theorem dX11_look_14 : decode cX11_look 14 = .ok (.iconst 0, 1) := by decide +kernel
theorem dX11_look_15 : decode cX11_look 15 = .ok (.bipush 40, 2) := by decide +kernel
theorem dX11_look_17 : decode cX11_look 17 = .ok (.invokestatic 90, 3) := by decide +kernel
theorem dX11_look_20 : decode cX11_look 20 = .ok (.ifCond .eq 12, 3) := by decide +kernel
theorem dX11_look_23 : decode cX11_look 23 = .ok (.iload_n 2, 1) := by decide +kernel
theorem dX11_look_24 : decode cX11_look 24 = .ok (.iconst 0, 1) := by decide +kernel
theorem dX11_look_25 : decode cX11_look 25 = .ok (.iconst 1, 1) := by decide +kernel
theorem dX11_look_26 : decode cX11_look 26 = .ok (.invokestatic 90, 3) := by decide +kernel
theorem dX11_look_29 : decode cX11_look 29 = .ok (.ifCond .ne 5, 3) := by decide +kernel
theorem dX11_look_32 : decode cX11_look 32 = .ok (.iconst (-1), 1) := by decide +kernel
theorem dX11_look_33 : decode cX11_look 33 = .ok (.ireturn, 1) := by decide +kernel
theorem dX11_look_34 : decode cX11_look 34 = .ok (.aload_n 0, 1) := by decide +kernel
theorem dX11_look_35 : decode cX11_look 35 = .ok (.getfield 75, 3) := by decide +kernel
theorem dX11_look_38 : decode cX11_look 38 = .ok (.aload_n 0, 1) := by decide +kernel
theorem dX11_look_39 : decode cX11_look 39 = .ok (.getfield 61, 3) := by decide +kernel
theorem dX11_look_42 : decode cX11_look 42 = .ok (.aload_n 0, 1) := by decide +kernel
theorem dX11_look_43 : decode cX11_look 43 = .ok (.getfield 43, 3) := by decide +kernel
theorem dX11_look_46 : decode cX11_look 46 = .ok (.aload_n 0, 1) := by decide +kernel
theorem dX11_look_47 : decode cX11_look 47 = .ok (.getfield 32, 3) := by decide +kernel
theorem dX11_look_50 : decode cX11_look 50 = .ok (.aload_n 0, 1) := by decide +kernel
theorem dX11_look_51 : decode cX11_look 51 = .ok (.getfield 36, 3) := by decide +kernel
theorem dX11_look_54 : decode cX11_look 54 = .ok (.iload_n 1, 1) := by decide +kernel
theorem dX11_look_55 : decode cX11_look 55 = .ok (.invokevirtual 243, 3) := by decide +kernel
theorem dX11_look_58 : decode cX11_look 58 = .ok (.aload_n 0, 1) := by decide +kernel
theorem dX11_look_59 : decode cX11_look 59 = .ok (.getfield 43, 3) := by decide +kernel
theorem dX11_look_62 : decode cX11_look 62 = .ok (.getfield 111, 3) := by decide +kernel
theorem dX11_look_65 : decode cX11_look 65 = .ok (.getfield 124, 3) := by decide +kernel
theorem dX11_look_68 : decode cX11_look 68 = .ok (.iconst 4, 1) := by decide +kernel
theorem dX11_look_69 : decode cX11_look 69 = .ok (.iaload, 1) := by decide +kernel
theorem dX11_look_70 : decode cX11_look 70 = .ok (.istore_n 3, 1) := by decide +kernel
theorem dX11_look_71 : decode cX11_look 71 = .ok (.aload_n 0, 1) := by decide +kernel
theorem dX11_look_72 : decode cX11_look 72 = .ok (.getfield 75, 3) := by decide +kernel
theorem dX11_look_75 : decode cX11_look 75 = .ok (.getfield 247, 3) := by decide +kernel
theorem dX11_look_78 : decode cX11_look 78 = .ok (.ifCond .eq 7, 3) := by decide +kernel
theorem dX11_look_81 : decode cX11_look 81 = .ok (.iload_n 3, 1) := by decide +kernel
theorem dX11_look_82 : decode cX11_look 82 = .ok (.ifCond .ne 6, 3) := by decide +kernel
theorem dX11_look_85 : decode cX11_look 85 = .ok (.bipush (-2), 2) := by decide +kernel
theorem dX11_look_87 : decode cX11_look 87 = .ok (.ireturn, 1) := by decide +kernel
theorem dX11_look_88 : decode cX11_look 88 = .ok (.aload_n 0, 1) := by decide +kernel
theorem dX11_look_89 : decode cX11_look 89 = .ok (.getfield 75, 3) := by decide +kernel
theorem dX11_look_92 : decode cX11_look 92 = .ok (.iload_n 3, 1) := by decide +kernel
theorem dX11_look_93 : decode cX11_look 93 = .ok (.invokevirtual 253, 3) := by decide +kernel
theorem dX11_look_96 : decode cX11_look 96 = .ok (.istore 4, 2) := by decide +kernel
theorem dX11_look_98 : decode cX11_look 98 = .ok (.iload_n 2, 1) := by decide +kernel
theorem dX11_look_99 : decode cX11_look 99 = .ok (.ifCond .ne 8, 3) := by decide +kernel
theorem dX11_look_102 : decode cX11_look 102 = .ok (.iload 4, 2) := by decide +kernel
theorem dX11_look_104 : decode cX11_look 104 = .ok (.goto 12, 3) := by decide +kernel
theorem dX11_look_107 : decode cX11_look 107 = .ok (.aload_n 0, 1) := by decide +kernel
theorem dX11_look_108 : decode cX11_look 108 = .ok (.getfield 75, 3) := by decide +kernel
theorem dX11_look_111 : decode cX11_look 111 = .ok (.iload 4, 2) := by decide +kernel
theorem dX11_look_113 : decode cX11_look 113 = .ok (.invokevirtual 256, 3) := by decide +kernel
theorem dX11_look_116 : decode cX11_look 116 = .ok (.ireturn, 1) := by decide +kernel
theorem dX11_note_0 : decode cX11_note 0 = .ok (.iload_n 1, 1) := by decide +kernel
theorem dX11_note_1 : decode cX11_note 1 = .ok (.iconst (-1), 1) := by decide +kernel
theorem dX11_note_2 : decode cX11_note 2 = .ok (.if_icmp .ne 16, 3) := by decide +kernel
theorem dX11_note_5 : decode cX11_note 5 = .ok (.aload_n 0, 1) := by decide +kernel
theorem dX11_note_6 : decode cX11_note 6 = .ok (.getfield 43, 3) := by decide +kernel
theorem dX11_note_9 : decode cX11_note 9 = .ok (.getfield 114, 3) := by decide +kernel
theorem dX11_note_12 : decode cX11_note 12 = .ok (.iconst 0, 1) := by decide +kernel
theorem dX11_note_13 : decode cX11_note 13 = .ok (.putfield 118, 3) := by decide +kernel
theorem dX11_note_16 : decode cX11_note 16 = .ok (.iconst 0, 1) := by decide +kernel
theorem dX11_note_17 : decode cX11_note 17 = .ok (.ireturn, 1) := by decide +kernel
theorem dX11_note_18 : decode cX11_note 18 = .ok (.iload_n 3, 1) := by decide +kernel
theorem dX11_note_19 : decode cX11_note 19 = .ok (.iconst (-1), 1) := by decide +kernel
theorem dX11_note_20 : decode cX11_note 20 = .ok (.aload_n 0, 1) := by decide +kernel
theorem dX11_note_21 : decode cX11_note 21 = .ok (.getfield 43, 3) := by decide +kernel
theorem dX11_note_24 : decode cX11_note 24 = .ok (.getfield 111, 3) := by decide +kernel
theorem dX11_note_27 : decode cX11_note 27 = .ok (.getfield 124, 3) := by decide +kernel
theorem dX11_note_30 : decode cX11_note 30 = .ok (.iconst 0, 1) := by decide +kernel
theorem dX11_note_31 : decode cX11_note 31 = .ok (.iaload, 1) := by decide +kernel
theorem dX11_note_32 : decode cX11_note 32 = .ok (.iconst 1, 1) := by decide +kernel
theorem dX11_note_33 : decode cX11_note 33 = .ok (.isub, 1) := by decide +kernel
theorem dX11_note_34 : decode cX11_note 34 = .ok (.invokestatic 90, 3) := by decide +kernel
theorem dX11_note_37 : decode cX11_note 37 = .ok (.ifCond .ne 9, 3) := by decide +kernel
theorem dX11_note_40 : decode cX11_note 40 = .ok (.iload_n 3, 1) := by decide +kernel
theorem dX11_note_41 : decode cX11_note 41 = .ok (.bipush 99, 2) := by decide +kernel
theorem dX11_note_43 : decode cX11_note 43 = .ok (.if_icmp .ne 7, 3) := by decide +kernel
theorem dX11_note_46 : decode cX11_note 46 = .ok (.iconst 1, 1) := by decide +kernel
theorem dX11_note_47 : decode cX11_note 47 = .ok (.goto 4, 3) := by decide +kernel
theorem dX11_note_50 : decode cX11_note 50 = .ok (.iconst 0, 1) := by decide +kernel
theorem dX11_note_51 : decode cX11_note 51 = .ok (.istore 4, 2) := by decide +kernel
theorem dX11_note_53 : decode cX11_note 53 = .ok (.iload_n 1, 1) := by decide +kernel
theorem dX11_note_54 : decode cX11_note 54 = .ok (.iconst 0, 1) := by decide +kernel
theorem dX11_note_55 : decode cX11_note 55 = .ok (.bipush 40, 2) := by decide +kernel
theorem dX11_note_57 : decode cX11_note 57 = .ok (.invokestatic 90, 3) := by decide +kernel
theorem dX11_note_60 : decode cX11_note 60 = .ok (.ifCond .eq 35, 3) := by decide +kernel
theorem dX11_note_63 : decode cX11_note 63 = .ok (.aload_n 0, 1) := by decide +kernel
theorem dX11_note_64 : decode cX11_note 64 = .ok (.getfield 43, 3) := by decide +kernel
theorem dX11_note_67 : decode cX11_note 67 = .ok (.getfield 111, 3) := by decide +kernel
theorem dX11_note_70 : decode cX11_note 70 = .ok (.iload_n 2, 1) := by decide +kernel
theorem dX11_note_71 : decode cX11_note 71 = .ok (.invokevirtual 139, 3) := by decide +kernel
theorem dX11_note_74 : decode cX11_note 74 = .ok (.ifCond .eq 21, 3) := by decide +kernel
theorem dX11_note_77 : decode cX11_note 77 = .ok (.iload 4, 2) := by decide +kernel
theorem dX11_note_79 : decode cX11_note 79 = .ok (.ifCond .eq 16, 3) := by decide +kernel
theorem dX11_note_82 : decode cX11_note 82 = .ok (.aload_n 0, 1) := by decide +kernel
theorem dX11_note_83 : decode cX11_note 83 = .ok (.getfield 43, 3) := by decide +kernel
theorem dX11_note_86 : decode cX11_note 86 = .ok (.getfield 114, 3) := by decide +kernel
theorem dX11_note_89 : decode cX11_note 89 = .ok (.invokevirtual 232, 3) := by decide +kernel
theorem dX11_note_92 : decode cX11_note 92 = .ok (.ifCond .eq 6, 3) := by decide +kernel
theorem dX11_note_95 : decode cX11_note 95 = .ok (.bipush (-2), 2) := by decide +kernel
theorem dX11_note_97 : decode cX11_note 97 = .ok (.ireturn, 1) := by decide +kernel
theorem dX11_note_98 : decode cX11_note 98 = .ok (.aload_n 0, 1) := by decide +kernel
theorem dX11_note_99 : decode cX11_note 99 = .ok (.getfield 43, 3) := by decide +kernel
theorem dX11_note_102 : decode cX11_note 102 = .ok (.getfield 114, 3) := by decide +kernel
theorem dX11_note_105 : decode cX11_note 105 = .ok (.iload_n 1, 1) := by decide +kernel
theorem dX11_note_106 : decode cX11_note 106 = .ok (.iload_n 2, 1) := by decide +kernel
theorem dX11_note_107 : decode cX11_note 107 = .ok (.iload_n 3, 1) := by decide +kernel
theorem dX11_note_108 : decode cX11_note 108 = .ok (.invokevirtual 235, 3) := by decide +kernel
theorem dX11_note_111 : decode cX11_note 111 = .ok (.aload_n 0, 1) := by decide +kernel
theorem dX11_note_112 : decode cX11_note 112 = .ok (.getfield 43, 3) := by decide +kernel
theorem dX11_note_115 : decode cX11_note 115 = .ok (.getfield 114, 3) := by decide +kernel
theorem dX11_note_118 : decode cX11_note 118 = .ok (.getfield 118, 3) := by decide +kernel
theorem dX11_note_121 : decode cX11_note 121 = .ok (.ireturn, 1) := by decide +kernel
theorem dX11_pull_0 : decode cX11_pull 0 = .ok (.aload_n 0, 1) := by decide +kernel
theorem dX11_pull_1 : decode cX11_pull 1 = .ok (.getfield 43, 3) := by decide +kernel
theorem dX11_pull_4 : decode cX11_pull 4 = .ok (.getfield 111, 3) := by decide +kernel
theorem dX11_pull_7 : decode cX11_pull 7 = .ok (.astore_n 3, 1) := by decide +kernel
theorem dX11_pull_8 : decode cX11_pull 8 = .ok (.aload_n 3, 1) := by decide +kernel
theorem dX11_pull_9 : decode cX11_pull 9 = .ok (.iload_n 1, 1) := by decide +kernel
theorem dX11_pull_10 : decode cX11_pull 10 = .ok (.invokevirtual 136, 3) := by decide +kernel
theorem dX11_pull_13 : decode cX11_pull 13 = .ok (.ifCond .eq 24, 3) := by decide +kernel
theorem dX11_pull_16 : decode cX11_pull 16 = .ok (.aload_n 3, 1) := by decide +kernel
theorem dX11_pull_17 : decode cX11_pull 17 = .ok (.iload_n 2, 1) := by decide +kernel
theorem dX11_pull_18 : decode cX11_pull 18 = .ok (.invokevirtual 139, 3) := by decide +kernel
theorem dX11_pull_21 : decode cX11_pull 21 = .ok (.ifCond .eq 16, 3) := by decide +kernel
theorem dX11_pull_24 : decode cX11_pull 24 = .ok (.aload_n 3, 1) := by decide +kernel
theorem dX11_pull_25 : decode cX11_pull 25 = .ok (.getfield 124, 3) := by decide +kernel
theorem dX11_pull_28 : decode cX11_pull 28 = .ok (.bipush 32, 2) := by decide +kernel
theorem dX11_pull_30 : decode cX11_pull 30 = .ok (.iload_n 1, 1) := by decide +kernel
theorem dX11_pull_31 : decode cX11_pull 31 = .ok (.iadd, 1) := by decide +kernel
theorem dX11_pull_32 : decode cX11_pull 32 = .ok (.iaload, 1) := by decide +kernel
theorem dX11_pull_33 : decode cX11_pull 33 = .ok (.iconst 1, 1) := by decide +kernel
theorem dX11_pull_34 : decode cX11_pull 34 = .ok (.if_icmp .ge 5, 3) := by decide +kernel
theorem dX11_pull_37 : decode cX11_pull 37 = .ok (.iconst (-1), 1) := by decide +kernel
theorem dX11_pull_38 : decode cX11_pull 38 = .ok (.ireturn, 1) := by decide +kernel
theorem dX11_pull_39 : decode cX11_pull 39 = .ok (.aload_n 0, 1) := by decide +kernel
theorem dX11_pull_40 : decode cX11_pull 40 = .ok (.getfield 54, 3) := by decide +kernel
theorem dX11_pull_43 : decode cX11_pull 43 = .ok (.aload_n 3, 1) := by decide +kernel
theorem dX11_pull_44 : decode cX11_pull 44 = .ok (.invokevirtual 156, 3) := by decide +kernel
theorem dX11_pull_47 : decode cX11_pull 47 = .ok (.bipush 99, 2) := by decide +kernel
theorem dX11_pull_49 : decode cX11_pull 49 = .ok (.aload_n 3, 1) := by decide +kernel
theorem dX11_pull_50 : decode cX11_pull 50 = .ok (.getfield 124, 3) := by decide +kernel
theorem dX11_pull_53 : decode cX11_pull 53 = .ok (.bipush 58, 2) := by decide +kernel
theorem dX11_pull_55 : decode cX11_pull 55 = .ok (.iload_n 2, 1) := by decide +kernel
theorem dX11_pull_56 : decode cX11_pull 56 = .ok (.iadd, 1) := by decide +kernel
theorem dX11_pull_57 : decode cX11_pull 57 = .ok (.iaload, 1) := by decide +kernel
theorem dX11_pull_58 : decode cX11_pull 58 = .ok (.aload_n 3, 1) := by decide +kernel
theorem dX11_pull_59 : decode cX11_pull 59 = .ok (.getfield 124, 3) := by decide +kernel
theorem dX11_pull_62 : decode cX11_pull 62 = .ok (.bipush 32, 2) := by decide +kernel
theorem dX11_pull_64 : decode cX11_pull 64 = .ok (.iload_n 1, 1) := by decide +kernel
theorem dX11_pull_65 : decode cX11_pull 65 = .ok (.iadd, 1) := by decide +kernel
theorem dX11_pull_66 : decode cX11_pull 66 = .ok (.iaload, 1) := by decide +kernel
theorem dX11_pull_67 : decode cX11_pull 67 = .ok (.iadd, 1) := by decide +kernel
theorem dX11_pull_68 : decode cX11_pull 68 = .ok (.invokestatic 178, 3) := by decide +kernel
theorem dX11_pull_71 : decode cX11_pull 71 = .ok (.istore 4, 2) := by decide +kernel
theorem dX11_pull_73 : decode cX11_pull 73 = .ok (.aload_n 3, 1) := by decide +kernel
theorem dX11_pull_74 : decode cX11_pull 74 = .ok (.getfield 124, 3) := by decide +kernel
theorem dX11_pull_77 : decode cX11_pull 77 = .ok (.bipush 32, 2) := by decide +kernel
theorem dX11_pull_79 : decode cX11_pull 79 = .ok (.iload_n 1, 1) := by decide +kernel
theorem dX11_pull_80 : decode cX11_pull 80 = .ok (.iadd, 1) := by decide +kernel
theorem dX11_pull_81 : decode cX11_pull 81 = .ok (.iconst 0, 1) := by decide +kernel
theorem dX11_pull_82 : decode cX11_pull 82 = .ok (.iastore, 1) := by decide +kernel
theorem dX11_pull_83 : decode cX11_pull 83 = .ok (.aload_n 3, 1) := by decide +kernel
theorem dX11_pull_84 : decode cX11_pull 84 = .ok (.getfield 124, 3) := by decide +kernel
theorem dX11_pull_87 : decode cX11_pull 87 = .ok (.bipush 58, 2) := by decide +kernel
theorem dX11_pull_89 : decode cX11_pull 89 = .ok (.iload_n 2, 1) := by decide +kernel
theorem dX11_pull_90 : decode cX11_pull 90 = .ok (.iadd, 1) := by decide +kernel
theorem dX11_pull_91 : decode cX11_pull 91 = .ok (.iload 4, 2) := by decide +kernel
theorem dX11_pull_93 : decode cX11_pull 93 = .ok (.iastore, 1) := by decide +kernel
theorem dX11_pull_94 : decode cX11_pull 94 = .ok (.iload 4, 2) := by decide +kernel
theorem dX11_pull_96 : decode cX11_pull 96 = .ok (.ireturn, 1) := by decide +kernel
theorem dX11_ring_0 : decode cX11_ring 0 = .ok (.aload_n 0, 1) := by decide +kernel
theorem dX11_ring_1 : decode cX11_ring 1 = .ok (.getfield 43, 3) := by decide +kernel
theorem dX11_ring_4 : decode cX11_ring 4 = .ok (.getfield 111, 3) := by decide +kernel
theorem dX11_ring_7 : decode cX11_ring 7 = .ok (.iload_n 1, 1) := by decide +kernel
theorem dX11_ring_8 : decode cX11_ring 8 = .ok (.invokevirtual 136, 3) := by decide +kernel
theorem dX11_ring_11 : decode cX11_ring 11 = .ok (.ifCond .ne 5, 3) := by decide +kernel
theorem dX11_ring_14 : decode cX11_ring 14 = .ok (.iconst (-1), 1) := by decide +kernel
theorem dX11_ring_15 : decode cX11_ring 15 = .ok (.ireturn, 1) := by decide +kernel
theorem dX11_ring_16 : decode cX11_ring 16 = .ok (.iload_n 2, 1) := by decide +kernel
theorem dX11_ring_17 : decode cX11_ring 17 = .ok (.tableswitch 75 0 2 #[27, 43, 59], 27) := by decide +kernel
