theorem dX11_end_0 : decode cX11_end 0 = .ok (.iload_n 1, 1) := by decide +kernel
theorem dX11_end_1 : decode cX11_end 1 = .ok (.iconst 0, 1) := by decide +kernel
theorem dX11_end_2 : decode cX11_end 2 = .ok (.aload_n 0, 1) := by decide +kernel
theorem dX11_end_3 : decode cX11_end 3 = .ok (.getfield 10, 3) := by decide +kernel
theorem dX11_end_6 : decode cX11_end 6 = .ok (.getfield 87, 3) := by decide +kernel
theorem dX11_end_9 : decode cX11_end 9 = .ok (.invokestatic 90, 3) := by decide +kernel
theorem dX11_end_12 : decode cX11_end 12 = .ok (.ifCond .ne 5, 3) := by decide +kernel
theorem dX11_end_15 : decode cX11_end 15 = .ok (.iconst (-1), 1) := by decide +kernel
theorem dX11_end_16 : decode cX11_end 16 = .ok (.ireturn, 1) := by decide +kernel
theorem dX11_end_17 : decode cX11_end 17 = .ok (.aload_n 0, 1) := by decide +kernel
theorem dX11_end_18 : decode cX11_end 18 = .ok (.getfield 10, 3) := by decide +kernel
theorem dX11_end_21 : decode cX11_end 21 = .ok (.iload_n 1, 1) := by decide +kernel
theorem dX11_end_22 : decode cX11_end 22 = .ok (.putfield 87, 3) := by decide +kernel
theorem dX11_end_25 : decode cX11_end 25 = .ok (.iload_n 1, 1) := by decide +kernel
theorem dX11_end_26 : decode cX11_end 26 = .ok (.ireturn, 1) := by decide +kernel
theorem dX11_row_0 : decode cX11_row 0 = .ok (.aload_n 0, 1) := by decide +kernel
theorem dX11_row_1 : decode cX11_row 1 = .ok (.getfield 43, 3) := by decide +kernel
theorem dX11_row_4 : decode cX11_row 4 = .ok (.getfield 111, 3) := by decide +kernel
theorem dX11_row_7 : decode cX11_row 7 = .ok (.iload_n 1, 1) := by decide +kernel
theorem dX11_row_8 : decode cX11_row 8 = .ok (.invokevirtual 139, 3) := by decide +kernel
theorem dX11_row_11 : decode cX11_row 11 = .ok (.ifCond .eq 21, 3) := by decide +kernel
theorem dX11_row_14 : decode cX11_row 14 = .ok (.iload_n 2, 1) := by decide +kernel
theorem dX11_row_15 : decode cX11_row 15 = .ok (.iconst 1, 1) := by decide +kernel
theorem dX11_row_16 : decode cX11_row 16 = .ok (.iconst 5, 1) := by decide +kernel
theorem dX11_row_17 : decode cX11_row 17 = .ok (.invokestatic 90, 3) := by decide +kernel
theorem dX11_row_20 : decode cX11_row 20 = .ok (.ifCond .eq 12, 3) := by decide +kernel
theorem dX11_row_23 : decode cX11_row 23 = .ok (.iload_n 3, 1) := by decide +kernel
theorem dX11_row_24 : decode cX11_row 24 = .ok (.iconst 0, 1) := by decide +kernel
theorem dX11_row_25 : decode cX11_row 25 = .ok (.iconst 5, 1) := by decide +kernel
theorem dX11_row_26 : decode cX11_row 26 = .ok (.invokestatic 90, 3) := by decide +kernel
theorem dX11_row_29 : decode cX11_row 29 = .ok (.ifCond .ne 6, 3) := by decide +kernel
theorem dX11_row_32 : decode cX11_row 32 = .ok (.bipush (-3), 2) := by decide +kernel
theorem dX11_row_34 : decode cX11_row 34 = .ok (.ireturn, 1) := by decide +kernel
theorem dX11_row_35 : decode cX11_row 35 = .ok (.aload_n 0, 1) := by decide +kernel
theorem dX11_row_36 : decode cX11_row 36 = .ok (.getfield 43, 3) := by decide +kernel
theorem dX11_row_39 : decode cX11_row 39 = .ok (.getfield 111, 3) := by decide +kernel
theorem dX11_row_42 : decode cX11_row 42 = .ok (.getfield 124, 3) := by decide +kernel
theorem dX11_row_45 : decode cX11_row 45 = .ok (.bipush 58, 2) := by decide +kernel
theorem dX11_row_47 : decode cX11_row 47 = .ok (.iload_n 1, 1) := by decide +kernel
theorem dX11_row_48 : decode cX11_row 48 = .ok (.iadd, 1) := by decide +kernel
theorem dX11_row_49 : decode cX11_row 49 = .ok (.iaload, 1) := by decide +kernel
theorem dX11_row_50 : decode cX11_row 50 = .ok (.iconst 1, 1) := by decide +kernel
theorem dX11_row_51 : decode cX11_row 51 = .ok (.if_icmp .ge 6, 3) := by decide +kernel
theorem dX11_row_54 : decode cX11_row 54 = .ok (.bipush (-3), 2) := by decide +kernel
theorem dX11_row_56 : decode cX11_row 56 = .ok (.ireturn, 1) := by decide +kernel
theorem dX11_row_57 : decode cX11_row 57 = .ok (.iload_n 3, 1) := by decide +kernel
theorem dX11_row_58 : decode cX11_row 58 = .ok (.iload_n 2, 1) := by decide +kernel
theorem dX11_row_59 : decode cX11_row 59 = .ok (.if_icmp .le 8, 3) := by decide +kernel
theorem dX11_row_62 : decode cX11_row 62 = .ok (.bipush (-2), 2) := by decide +kernel
theorem dX11_row_64 : decode cX11_row 64 = .ok (.goto 20, 3) := by decide +kernel
theorem dX11_row_67 : decode cX11_row 67 = .ok (.aload_n 0, 1) := by decide +kernel
theorem dX11_row_68 : decode cX11_row 68 = .ok (.getfield 68, 3) := by decide +kernel
theorem dX11_row_71 : decode cX11_row 71 = .ok (.aload_n 0, 1) := by decide +kernel
theorem dX11_row_72 : decode cX11_row 72 = .ok (.getfield 43, 3) := by decide +kernel
theorem dX11_row_75 : decode cX11_row 75 = .ok (.getfield 111, 3) := by decide +kernel
theorem dX11_row_78 : decode cX11_row 78 = .ok (.iload_n 1, 1) := by decide +kernel
theorem dX11_row_79 : decode cX11_row 79 = .ok (.iload_n 2, 1) := by decide +kernel
theorem dX11_row_80 : decode cX11_row 80 = .ok (.iload_n 3, 1) := by decide +kernel
theorem dX11_row_81 : decode cX11_row 81 = .ok (.invokevirtual 200, 3) := by decide +kernel
theorem dX11_row_84 : decode cX11_row 84 = .ok (.ireturn, 1) := by decide +kernel
theorem dX11_set_0 : decode cX11_set 0 = .ok (.aload_n 0, 1) := by decide +kernel
theorem dX11_set_1 : decode cX11_set 1 = .ok (.getfield 43, 3) := by decide +kernel
theorem dX11_set_4 : decode cX11_set 4 = .ok (.getfield 111, 3) := by decide +kernel
theorem dX11_set_7 : decode cX11_set 7 = .ok (.iload_n 1, 1) := by decide +kernel
theorem dX11_set_8 : decode cX11_set 8 = .ok (.invokevirtual 136, 3) := by decide +kernel
theorem dX11_set_11 : decode cX11_set 11 = .ok (.ifCond .eq 22, 3) := by decide +kernel
theorem dX11_set_14 : decode cX11_set 14 = .ok (.iload_n 2, 1) := by decide +kernel
theorem dX11_set_15 : decode cX11_set 15 = .ok (.iconst 1, 1) := by decide +kernel
theorem dX11_set_16 : decode cX11_set 16 = .ok (.bipush 40, 2) := by decide +kernel
theorem dX11_set_18 : decode cX11_set 18 = .ok (.invokestatic 90, 3) := by decide +kernel
theorem dX11_set_21 : decode cX11_set 21 = .ok (.ifCond .eq 12, 3) := by decide +kernel
theorem dX11_set_24 : decode cX11_set 24 = .ok (.iload_n 3, 1) := by decide +kernel
theorem dX11_set_25 : decode cX11_set 25 = .ok (.iconst 0, 1) := by decide +kernel
theorem dX11_set_26 : decode cX11_set 26 = .ok (.iconst 1, 1) := by decide +kernel
theorem dX11_set_27 : decode cX11_set 27 = .ok (.invokestatic 90, 3) := by decide +kernel
theorem dX11_set_30 : decode cX11_set 30 = .ok (.ifCond .ne 5, 3) := by decide +kernel
theorem dX11_set_33 : decode cX11_set 33 = .ok (.iconst (-1), 1) := by decide +kernel
theorem dX11_set_34 : decode cX11_set 34 = .ok (.ireturn, 1) := by decide +kernel
theorem dX11_set_35 : decode cX11_set 35 = .ok (.aload_n 0, 1) := by decide +kernel
theorem dX11_set_36 : decode cX11_set 36 = .ok (.getfield 68, 3) := by decide +kernel
theorem dX11_set_39 : decode cX11_set 39 = .ok (.aload_n 0, 1) := by decide +kernel
theorem dX11_set_40 : decode cX11_set 40 = .ok (.getfield 61, 3) := by decide +kernel
theorem dX11_set_43 : decode cX11_set 43 = .ok (.aload_n 0, 1) := by decide +kernel
theorem dX11_set_44 : decode cX11_set 44 = .ok (.getfield 43, 3) := by decide +kernel
theorem dX11_set_47 : decode cX11_set 47 = .ok (.getfield 111, 3) := by decide +kernel
theorem dX11_set_50 : decode cX11_set 50 = .ok (.aload_n 0, 1) := by decide +kernel
theorem dX11_set_51 : decode cX11_set 51 = .ok (.invokevirtual 159, 3) := by decide +kernel
theorem dX11_set_54 : decode cX11_set 54 = .ok (.iload_n 1, 1) := by decide +kernel
theorem dX11_set_55 : decode cX11_set 55 = .ok (.iload_n 2, 1) := by decide +kernel
theorem dX11_set_56 : decode cX11_set 56 = .ok (.invokevirtual 207, 3) := by decide +kernel
theorem dX11_set_59 : decode cX11_set 59 = .ok (.iload_n 3, 1) := by decide +kernel
theorem dX11_set_60 : decode cX11_set 60 = .ok (.ifCond .ne 13, 3) := by decide +kernel
theorem dX11_set_63 : decode cX11_set 63 = .ok (.aload_n 0, 1) := by decide +kernel
theorem dX11_set_64 : decode cX11_set 64 = .ok (.getfield 68, 3) := by decide +kernel
theorem dX11_set_67 : decode cX11_set 67 = .ok (.getfield 211, 3) := by decide +kernel
theorem dX11_set_70 : decode cX11_set 70 = .ok (.goto 10, 3) := by decide +kernel
theorem dX11_set_73 : decode cX11_set 73 = .ok (.aload_n 0, 1) := by decide +kernel
theorem dX11_set_74 : decode cX11_set 74 = .ok (.getfield 68, 3) := by decide +kernel
theorem dX11_set_77 : decode cX11_set 77 = .ok (.getfield 214, 3) := by decide +kernel
theorem dX11_set_80 : decode cX11_set 80 = .ok (.ireturn, 1) := by decide +kernel
theorem dX10_open_0 : decode cX10_open 0 = .ok (.aload_n 0, 1) := by decide +kernel
theorem dX10_open_1 : decode cX10_open 1 = .ok (.iconst 0, 1) := by decide +kernel
theorem dX10_open_2 : decode cX10_open 2 = .ok (.putfield 28, 3) := by decide +kernel
theorem dX10_open_5 : decode cX10_open 5 = .ok (.iconst 0, 1) := by decide +kernel
theorem dX10_open_6 : decode cX10_open 6 = .ok (.istore_n 1, 1) := by decide +kernel
theorem dX10_open_7 : decode cX10_open 7 = .ok (.iconst 0, 1) := by decide +kernel
theorem dX10_open_8 : decode cX10_open 8 = .ok (.istore_n 2, 1) := by decide +kernel
theorem dX10_open_9 : decode cX10_open 9 = .ok (.iload_n 2, 1) := by decide +kernel
theorem dX10_open_10 : decode cX10_open 10 = .ok (.sipush 400, 3) := by decide +kernel
theorem dX10_open_13 : decode cX10_open 13 = .ok (.if_icmp .ge 40, 3) := by decide +kernel
theorem dX10_open_16 : decode cX10_open 16 = .ok (.iload_n 1, 1) := by decide +kernel
theorem dX10_open_17 : decode cX10_open 17 = .ok (.aload_n 0, 1) := by decide +kernel
theorem dX10_open_18 : decode cX10_open 18 = .ok (.getfield 15, 3) := by decide +kernel
theorem dX10_open_21 : decode cX10_open 21 = .ok (.if_icmp .ge 32, 3) := by decide +kernel
theorem dX10_open_24 : decode cX10_open 24 = .ok (.aload_n 0, 1) := by decide +kernel
theorem dX10_open_25 : decode cX10_open 25 = .ok (.getfield 11, 3) := by decide +kernel
theorem dX10_open_28 : decode cX10_open 28 = .ok (.iload_n 1, 1) := by decide +kernel
theorem dX10_open_29 : decode cX10_open 29 = .ok (.iaload, 1) := by decide +kernel
theorem dX10_open_30 : decode cX10_open 30 = .ok (.bipush 32, 2) := by decide +kernel
theorem dX10_open_32 : decode cX10_open 32 = .ok (.if_icmp .ne 9, 3) := by decide +kernel
theorem dX10_open_35 : decode cX10_open 35 = .ok (.iload_n 1, 1) := by decide +kernel
theorem dX10_open_36 : decode cX10_open 36 = .ok (.iconst 1, 1) := by decide +kernel
theorem dX10_open_37 : decode cX10_open 37 = .ok (.iadd, 1) := by decide +kernel
theorem dX10_open_38 : decode cX10_open 38 = .ok (.goto 8, 3) := by decide +kernel
theorem dX10_open_41 : decode cX10_open 41 = .ok (.aload_n 0, 1) := by decide +kernel
theorem dX10_open_42 : decode cX10_open 42 = .ok (.iload_n 1, 1) := by decide +kernel
theorem dX10_open_43 : decode cX10_open 43 = .ok (.invokevirtual 46, 3) := by decide +kernel
theorem dX10_open_46 : decode cX10_open 46 = .ok (.istore_n 1, 1) := by decide +kernel
theorem dX10_open_47 : decode cX10_open 47 = .ok (.iinc 2 1, 3) := by decide +kernel
theorem dX10_open_50 : decode cX10_open 50 = .ok (.goto (-41), 3) := by decide +kernel
theorem dX10_open_53 : decode cX10_open 53 = .ok (.aload_n 0, 1) := by decide +kernel
theorem dX10_open_54 : decode cX10_open 54 = .ok (.iconst 0, 1) := by decide +kernel
theorem dX10_open_55 : decode cX10_open 55 = .ok (.iconst 0, 1) := by decide +kernel
theorem dX10_open_56 : decode cX10_open 56 = .ok (.aload_n 0, 1) := by decide +kernel
theorem dX10_open_57 : decode cX10_open 57 = .ok (.getfield 15, 3) := by decide +kernel
theorem dX10_open_60 : decode cX10_open 60 = .ok (.invokevirtual 50, 3) := by decide +kernel
theorem dX10_open_63 : decode cX10_open 63 = .ok (.aload_n 0, 1) := by decide +kernel
theorem dX10_open_64 : decode cX10_open 64 = .ok (.iconst 0, 1) := by decide +kernel
theorem dX10_open_65 : decode cX10_open 65 = .ok (.putfield 43, 3) := by decide +kernel
theorem dX10_open_68 : decode cX10_open 68 = .ok (.aload_n 0, 1) := by decide +kernel
theorem dX10_open_69 : decode cX10_open 69 = .ok (.iconst (-1), 1) := by decide +kernel
theorem dX10_open_70 : decode cX10_open 70 = .ok (.putfield 31, 3) := by decide +kernel
theorem dX10_open_73 : decode cX10_open 73 = .ok (.aload_n 0, 1) := by decide +kernel
theorem dX10_open_74 : decode cX10_open 74 = .ok (.invokevirtual 54, 3) := by decide +kernel
theorem dX10_open_77 : decode cX10_open 77 = .ok (.return_, 1) := by decide +kernel
theorem dX11_ails_0 : decode cX11_ails 0 = .ok (.aload_n 0, 1) := by decide +kernel
theorem dX11_ails_1 : decode cX11_ails 1 = .ok (.getfield 43, 3) := by decide +kernel
theorem dX11_ails_4 : decode cX11_ails 4 = .ok (.getfield 111, 3) := by decide +kernel
theorem dX11_ails_7 : decode cX11_ails 7 = .ok (.iload_n 1, 1) := by decide +kernel
theorem dX11_ails_8 : decode cX11_ails 8 = .ok (.invokevirtual 139, 3) := by decide +kernel
theorem dX11_ails_11 : decode cX11_ails 11 = .ok (.ifCond .ne 5, 3) := by decide +kernel
theorem dX11_ails_14 : decode cX11_ails 14 = .ok (.iconst (-1), 1) := by decide +kernel
theorem dX11_ails_15 : decode cX11_ails 15 = .ok (.ireturn, 1) := by decide +kernel
theorem dX11_ails_16 : decode cX11_ails 16 = .ok (.aload_n 0, 1) := by decide +kernel
theorem dX11_ails_17 : decode cX11_ails 17 = .ok (.getfield 43, 3) := by decide +kernel
theorem dX11_ails_20 : decode cX11_ails 20 = .ok (.getfield 111, 3) := by decide +kernel
theorem dX11_ails_23 : decode cX11_ails 23 = .ok (.getfield 124, 3) := by decide +kernel
theorem dX11_ails_26 : decode cX11_ails 26 = .ok (.iconst 3, 1) := by decide +kernel
theorem dX11_ails_27 : decode cX11_ails 27 = .ok (.iaload, 1) := by decide +kernel
theorem dX11_ails_28 : decode cX11_ails 28 = .ok (.iconst 1, 1) := by decide +kernel
theorem dX11_ails_29 : decode cX11_ails 29 = .ok (.isub, 1) := by decide +kernel
theorem dX11_ails_30 : decode cX11_ails 30 = .ok (.istore_n 2, 1) := by decide +kernel
theorem dX11_ails_31 : decode cX11_ails 31 = .ok (.aload_n 0, 1) := by decide +kernel
theorem dX11_ails_32 : decode cX11_ails 32 = .ok (.getfield 75, 3) := by decide +kernel
theorem dX11_ails_35 : decode cX11_ails 35 = .ok (.aload_n 0, 1) := by decide +kernel
theorem dX11_ails_36 : decode cX11_ails 36 = .ok (.getfield 61, 3) := by decide +kernel
theorem dX11_ails_39 : decode cX11_ails 39 = .ok (.aload_n 0, 1) := by decide +kernel
theorem dX11_ails_40 : decode cX11_ails 40 = .ok (.getfield 43, 3) := by decide +kernel
theorem dX11_ails_43 : decode cX11_ails 43 = .ok (.aload_n 0, 1) := by decide +kernel
theorem dX11_ails_44 : decode cX11_ails 44 = .ok (.invokevirtual 159, 3) := by decide +kernel
theorem dX11_ails_47 : decode cX11_ails 47 = .ok (.bipush 38, 2) := by decide +kernel
theorem dX11_ails_49 : decode cX11_ails 49 = .ok (.iload_n 1, 1) := by decide +kernel
theorem dX11_ails_50 : decode cX11_ails 50 = .ok (.iadd, 1) := by decide +kernel
theorem dX11_ails_51 : decode cX11_ails 51 = .ok (.iconst 0, 1) := by decide +kernel
theorem dX11_ails_52 : decode cX11_ails 52 = .ok (.iload_n 2, 1) := by decide +kernel
theorem dX11_ails_53 : decode cX11_ails 53 = .ok (.invokevirtual 239, 3) := by decide +kernel
theorem dX11_ails_56 : decode cX11_ails 56 = .ok (.ireturn, 1) := by decide +kernel
theorem dX11_back_0 : decode cX11_back 0 = .ok (.iload_n 1, 1) := by decide +kernel
theorem dX11_back_1 : decode cX11_back 1 = .ok (.iconst 0, 1) := by decide +kernel
theorem dX11_back_2 : decode cX11_back 2 = .ok (.iconst 3, 1) := by decide +kernel
theorem dX11_back_3 : decode cX11_back 3 = .ok (.invokestatic 90, 3) := by decide +kernel
theorem dX11_back_6 : decode cX11_back 6 = .ok (.ifCond .eq 15, 3) := by decide +kernel
theorem dX11_back_9 : decode cX11_back 9 = .ok (.aload_n 0, 1) := by decide +kernel
theorem dX11_back_10 : decode cX11_back 10 = .ok (.getfield 47, 3) := by decide +kernel
theorem dX11_back_13 : decode cX11_back 13 = .ok (.iload_n 1, 1) := by decide +kernel
theorem dX11_back_14 : decode cX11_back 14 = .ok (.aaload, 1) := by decide +kernel
theorem dX11_back_15 : decode cX11_back 15 = .ok (.getfield 273, 3) := by decide +kernel
theorem dX11_back_18 : decode cX11_back 18 = .ok (.ifCond .ne 5, 3) := by decide +kernel
theorem dX11_back_21 : decode cX11_back 21 = .ok (.iconst (-1), 1) := by decide +kernel
theorem dX11_back_22 : decode cX11_back 22 = .ok (.ireturn, 1) := by decide +kernel
theorem dX11_back_23 : decode cX11_back 23 = .ok (.aload_n 0, 1) := by decide +kernel
theorem dX11_back_24 : decode cX11_back 24 = .ok (.getfield 43, 3) := by decide +kernel
theorem dX11_back_27 : decode cX11_back 27 = .ok (.aload_n 0, 1) := by decide +kernel
theorem dX11_back_28 : decode cX11_back 28 = .ok (.getfield 47, 3) := by decide +kernel
theorem dX11_back_31 : decode cX11_back 31 = .ok (.iload_n 1, 1) := by decide +kernel
theorem dX11_back_32 : decode cX11_back 32 = .ok (.aaload, 1) := by decide +kernel
theorem dX11_back_33 : decode cX11_back 33 = .ok (.invokevirtual 270, 3) := by decide +kernel
theorem dX11_back_36 : decode cX11_back 36 = .ok (.aload_n 0, 1) := by decide +kernel
theorem dX11_back_37 : decode cX11_back 37 = .ok (.getfield 54, 3) := by decide +kernel
theorem dX11_back_40 : decode cX11_back 40 = .ok (.iconst 0, 1) := by decide +kernel
theorem dX11_back_41 : decode cX11_back 41 = .ok (.putfield 123, 3) := by decide +kernel
theorem dX11_back_44 : decode cX11_back 44 = .ok (.aload_n 0, 1) := by decide +kernel
theorem dX11_back_45 : decode cX11_back 45 = .ok (.getfield 43, 3) := by decide +kernel
theorem dX11_back_48 : decode cX11_back 48 = .ok (.getfield 111, 3) := by decide +kernel
theorem dX11_back_51 : decode cX11_back 51 = .ok (.getfield 124, 3) := by decide +kernel
theorem dX11_back_54 : decode cX11_back 54 = .ok (.iconst 5, 1) := by decide +kernel
theorem dX11_back_55 : decode cX11_back 55 = .ok (.iaload, 1) := by decide +kernel
theorem dX11_back_56 : decode cX11_back 56 = .ok (.ireturn, 1) := by decide +kernel
theorem dX11_down_0 : decode cX11_down 0 = .ok (.aload_n 0, 1) := by decide +kernel
theorem dX11_down_1 : decode cX11_down 1 = .ok (.getfield 43, 3) := by decide +kernel
theorem dX11_down_4 : decode cX11_down 4 = .ok (.getfield 111, 3) := by decide +kernel
theorem dX11_down_7 : decode cX11_down 7 = .ok (.astore_n 3, 1) := by decide +kernel
theorem dX11_down_8 : decode cX11_down 8 = .ok (.aload_n 3, 1) := by decide +kernel
theorem dX11_down_9 : decode cX11_down 9 = .ok (.iload_n 1, 1) := by decide +kernel
theorem dX11_down_10 : decode cX11_down 10 = .ok (.invokevirtual 139, 3) := by decide +kernel
theorem dX11_down_13 : decode cX11_down 13 = .ok (.ifCond .eq 11, 3) := by decide +kernel
theorem dX11_down_16 : decode cX11_down 16 = .ok (.aload_n 3, 1) := by decide +kernel
theorem dX11_down_17 : decode cX11_down 17 = .ok (.iload_n 2, 1) := by decide +kernel
theorem dX11_down_18 : decode cX11_down 18 = .ok (.invokevirtual 136, 3) := by decide +kernel
theorem dX11_down_21 : decode cX11_down 21 = .ok (.ifCond .ne 5, 3) := by decide +kernel
theorem dX11_down_24 : decode cX11_down 24 = .ok (.iconst (-1), 1) := by decide +kernel
theorem dX11_down_25 : decode cX11_down 25 = .ok (.ireturn, 1) := by decide +kernel
theorem dX11_down_26 : decode cX11_down 26 = .ok (.aload_n 3, 1) := by decide +kernel
theorem dX11_down_27 : decode cX11_down 27 = .ok (.iload_n 1, 1) := by decide +kernel
theorem dX11_down_28 : decode cX11_down 28 = .ok (.iload_n 2, 1) := by decide +kernel
theorem dX11_down_29 : decode cX11_down 29 = .ok (.aload_n 3, 1) := by decide +kernel
theorem dX11_down_30 : decode cX11_down 30 = .ok (.aload_n 3, 1) := by decide +kernel
theorem dX11_down_31 : decode cX11_down 31 = .ok (.getfield 124, 3) := by decide +kernel
theorem dX11_down_34 : decode cX11_down 34 = .ok (.bipush 6, 2) := by decide +kernel
theorem dX11_down_36 : decode cX11_down 36 = .ok (.iaload, 1) := by decide +kernel
theorem dX11_down_37 : decode cX11_down 37 = .ok (.invokevirtual 142, 3) := by decide +kernel
theorem dX11_down_40 : decode cX11_down 40 = .ok (.invokevirtual 194, 3) := by decide +kernel
theorem dX11_down_43 : decode cX11_down 43 = .ok (.invokestatic 175, 3) := by decide +kernel
theorem dX11_down_46 : decode cX11_down 46 = .ok (.ireturn, 1) := by decide +kernel
theorem dX11_feed_0 : decode cX11_feed 0 = .ok (.aload_n 0, 1) := by decide +kernel
theorem dX11_feed_1 : decode cX11_feed 1 = .ok (.getfield 10, 3) := by decide +kernel
theorem dX11_feed_4 : decode cX11_feed 4 = .ok (.bipush 20, 2) := by decide +kernel
theorem dX11_feed_6 : decode cX11_feed 6 = .ok (.invokevirtual 79, 3) := by decide +kernel
theorem dX11_feed_9 : decode cX11_feed 9 = .ok (.ifCond .ne 5, 3) := by decide +kernel
theorem dX11_feed_12 : decode cX11_feed 12 = .ok (.iconst (-1), 1) := by decide +kernel
theorem dX11_feed_13 : decode cX11_feed 13 = .ok (.ireturn, 1) := by decide +kernel
theorem dX11_feed_14 : decode cX11_feed 14 = .ok (.aload_n 0, 1) := by decide +kernel
theorem dX11_feed_15 : decode cX11_feed 15 = .ok (.getfield 10, 3) := by decide +kernel
theorem dX11_feed_18 : decode cX11_feed 18 = .ok (.iload_n 1, 1) := by decide +kernel
theorem dX11_feed_19 : decode cX11_feed 19 = .ok (.invokevirtual 83, 3) := by decide +kernel
theorem dX11_feed_22 : decode cX11_feed 22 = .ok (.aload_n 0, 1) := by decide +kernel
theorem dX11_feed_23 : decode cX11_feed 23 = .ok (.getfield 10, 3) := by decide +kernel
theorem dX11_feed_26 : decode cX11_feed 26 = .ok (.iload_n 2, 1) := by decide +kernel
theorem dX11_feed_27 : decode cX11_feed 27 = .ok (.invokevirtual 83, 3) := by decide +kernel
theorem dX11_feed_30 : decode cX11_feed 30 = .ok (.aload_n 0, 1) := by decide +kernel
theorem dX11_feed_31 : decode cX11_feed 31 = .ok (.getfield 10, 3) := by decide +kernel
theorem dX11_feed_34 : decode cX11_feed 34 = .ok (.iload_n 3, 1) := by decide +kernel
theorem dX11_feed_35 : decode cX11_feed 35 = .ok (.invokevirtual 83, 3) := by decide +kernel
theorem dX11_feed_38 : decode cX11_feed 38 = .ok (.aload_n 0, 1) := by decide +kernel
theorem dX11_feed_39 : decode cX11_feed 39 = .ok (.getfield 10, 3) := by decide +kernel
theorem dX11_feed_42 : decode cX11_feed 42 = .ok (.iload 4, 2) := by decide +kernel
theorem dX11_feed_44 : decode cX11_feed 44 = .ok (.invokevirtual 83, 3) := by decide +kernel
theorem dX11_feed_47 : decode cX11_feed 47 = .ok (.aload_n 0, 1) := by decide +kernel
theorem dX11_feed_48 : decode cX11_feed 48 = .ok (.getfield 10, 3) := by decide +kernel
theorem dX11_feed_51 : decode cX11_feed 51 = .ok (.iload 5, 2) := by decide +kernel
theorem dX11_feed_53 : decode cX11_feed 53 = .ok (.invokevirtual 83, 3) := by decide +kernel
theorem dX11_feed_56 : decode cX11_feed 56 = .ok (.aload_n 0, 1) := by decide +kernel
theorem dX11_feed_57 : decode cX11_feed 57 = .ok (.getfield 10, 3) := by decide +kernel
theorem dX11_feed_60 : decode cX11_feed 60 = .ok (.getfield 87, 3) := by decide +kernel
theorem dX11_feed_63 : decode cX11_feed 63 = .ok (.ireturn, 1) := by decide +kernel
theorem dX11_hold_0 : decode cX11_hold 0 = .ok (.aload_n 0, 1) := by decide +kernel
theorem dX11_hold_1 : decode cX11_hold 1 = .ok (.getfield 43, 3) := by decide +kernel
theorem dX11_hold_4 : decode cX11_hold 4 = .ok (.getfield 111, 3) := by decide +kernel
theorem dX11_hold_7 : decode cX11_hold 7 = .ok (.astore_n 2, 1) := by decide +kernel
theorem dX11_hold_8 : decode cX11_hold 8 = .ok (.aload_n 2, 1) := by decide +kernel
theorem dX11_hold_9 : decode cX11_hold 9 = .ok (.iload_n 1, 1) := by decide +kernel
theorem dX11_hold_10 : decode cX11_hold 10 = .ok (.invokevirtual 139, 3) := by decide +kernel
theorem dX11_hold_13 : decode cX11_hold 13 = .ok (.ifCond .ne 5, 3) := by decide +kernel
theorem dX11_hold_16 : decode cX11_hold 16 = .ok (.iconst (-1), 1) := by decide +kernel
theorem dX11_hold_17 : decode cX11_hold 17 = .ok (.ireturn, 1) := by decide +kernel
theorem dX11_hold_18 : decode cX11_hold 18 = .ok (.aload_n 2, 1) := by decide +kernel
theorem dX11_hold_19 : decode cX11_hold 19 = .ok (.getfield 124, 3) := by decide +kernel
theorem dX11_hold_22 : decode cX11_hold 22 = .ok (.bipush 6, 2) := by decide +kernel
theorem dX11_hold_24 : decode cX11_hold 24 = .ok (.iaload, 1) := by decide +kernel
theorem dX11_hold_25 : decode cX11_hold 25 = .ok (.istore_n 3, 1) := by decide +kernel
theorem dX11_hold_26 : decode cX11_hold 26 = .ok (.iconst 0, 1) := by decide +kernel
theorem dX11_hold_27 : decode cX11_hold 27 = .ok (.istore 4, 2) := by decide +kernel
theorem dX11_hold_29 : decode cX11_hold 29 = .ok (.iload 4, 2) := by decide +kernel
theorem dX11_hold_31 : decode cX11_hold 31 = .ok (.bipush 60, 2) := by decide +kernel
theorem dX11_hold_33 : decode cX11_hold 33 = .ok (.if_icmp .gt 28, 3) := by decide +kernel
theorem dX11_hold_36 : decode cX11_hold 36 = .ok (.aload_n 2, 1) := by decide +kernel
theorem dX11_hold_37 : decode cX11_hold 37 = .ok (.iload_n 1, 1) := by decide +kernel
theorem dX11_hold_38 : decode cX11_hold 38 = .ok (.aload_n 2, 1) := by decide +kernel
theorem dX11_hold_39 : decode cX11_hold 39 = .ok (.iload_n 3, 1) := by decide +kernel
theorem dX11_hold_40 : decode cX11_hold 40 = .ok (.iload 4, 2) := by decide +kernel
theorem dX11_hold_42 : decode cX11_hold 42 = .ok (.iadd, 1) := by decide +kernel
theorem dX11_hold_43 : decode cX11_hold 43 = .ok (.invokevirtual 142, 3) := by decide +kernel
theorem dX11_hold_46 : decode cX11_hold 46 = .ok (.invokevirtual 204, 3) := by decide +kernel
theorem dX11_hold_49 : decode cX11_hold 49 = .ok (.ifCond .ne 6, 3) := by decide +kernel
theorem dX11_hold_52 : decode cX11_hold 52 = .ok (.iload 4, 2) := by decide +kernel
theorem dX11_hold_54 : decode cX11_hold 54 = .ok (.ireturn, 1) := by decide +kernel
theorem dX11_hold_55 : decode cX11_hold 55 = .ok (.iinc 4 1, 3) := by decide +kernel
theorem dX11_hold_58 : decode cX11_hold 58 = .ok (.goto (-29), 3) := by decide +kernel
theorem dX11_hold_61 : decode cX11_hold 61 = .ok (.bipush (-2), 2) := by decide +kernel
theorem dX11_hold_63 : decode cX11_hold 63 = .ok (.ireturn, 1) := by decide +kernel
theorem dX11_look_0 : decode cX11_look 0 = .ok (.aload_n 0, 1) := by decide +kernel
theorem dX11_look_1 : decode cX11_look 1 = .ok (.getfield 43, 3) := by decide +kernel
theorem dX11_look_4 : decode cX11_look 4 = .ok (.getfield 111, 3) := by decide +kernel
theorem dX11_look_7 : decode cX11_look 7 = .ok (.invokevirtual 152, 3) := by decide +kernel
theorem dX11_look_10 : decode cX11_look 10 = .ok (.ifCond .eq 22, 3) := by decide +kernel
theorem dX11_look_13 : decode cX11_look 13 = .ok (.iload_n 1, 1) := by decide +kernel
theorem dX11_look_14 : decode cX11_look 14 = .ok (.iconst 0, 1) := by decide +kernel
theorem dX11_look_15 : decode cX11_look 15 = .ok (.bipush 40, 2) := by decide +kernel
theorem dX11_look_17 : decode cX11_look 17 = .ok (.invokestatic 90, 3) := by decide +kernel
theorem dX11_look_20 : decode cX11_look 20 = .ok (.ifCond .eq 12, 3) := by decide +kernel
theorem dX11_look_23 : decode cX11_look 23 = .ok (.iload_n 2, 1) := by decide +kernel
theorem dX11_look_24 : decode cX11_look 24 = .ok (.iconst 0, 1) := by decide +kernel
theorem dX11_look_25 : decode cX11_look 25 = .ok (.iconst 1, 1) := by decide +kernel
theorem dX11_look_26 : decode cX11_look 26 = .ok (.invokestatic 90, 3) := by decide +kernel
theorem dX11_look_29 : decode cX11_look 29 = .ok (.ifCond .ne 5, 3) := by decide +kernel
theorem dX11_look_32 : decode cX11_look 32 = .ok (.iconst (-1), 1) := by decide +kernel
theorem dX11_look_33 : decode cX11_look 33 = .ok (.ireturn, 1) := by decide +kernel
theorem dX11_look_34 : decode cX11_look 34 = .ok (.aload_n 0, 1) := by decide +kernel
theorem dX11_look_35 : decode cX11_look 35 = .ok (.getfield 75, 3) := by decide +kernel
theorem dX11_look_38 : decode cX11_look 38 = .ok (.aload_n 0, 1) := by decide +kernel
theorem dX11_look_39 : decode cX11_look 39 = .ok (.getfield 61, 3) := by decide +kernel
theorem dX11_look_42 : decode cX11_look 42 = .ok (.aload_n 0, 1) := by decide +kernel
theorem dX11_look_43 : decode cX11_look 43 = .ok (.getfield 43, 3) := by decide +kernel
theorem dX11_look_46 : decode cX11_look 46 = .ok (.aload_n 0, 1) := by decide +kernel
theorem dX11_look_47 : decode cX11_look 47 = .ok (.getfield 32, 3) := by decide +kernel
theorem dX11_look_50 : decode cX11_look 50 = .ok (.aload_n 0, 1) := by decide +kernel
theorem dX11_look_51 : decode cX11_look 51 = .ok (.getfield 36, 3) := by decide +kernel
theorem dX11_look_54 : decode cX11_look 54 = .ok (.iload_n 1, 1) := by decide +kernel
theorem dX11_look_55 : decode cX11_look 55 = .ok (.invokevirtual 243, 3) := by decide +kernel
theorem dX11_look_58 : decode cX11_look 58 = .ok (.aload_n 0, 1) := by decide +kernel
theorem dX11_look_59 : decode cX11_look 59 = .ok (.getfield 43, 3) := by decide +kernel
theorem dX11_look_62 : decode cX11_look 62 = .ok (.getfield 111, 3) := by decide +kernel
theorem dX11_look_65 : decode cX11_look 65 = .ok (.getfield 124, 3) := by decide +kernel
theorem dX11_look_68 : decode cX11_look 68 = .ok (.iconst 4, 1) := by decide +kernel
theorem dX11_look_69 : decode cX11_look 69 = .ok (.iaload, 1) := by decide +kernel
theorem dX11_look_70 : decode cX11_look 70 = .ok (.istore_n 3, 1) := by decide +kernel
theorem dX11_look_71 : decode cX11_look 71 = .ok (.aload_n 0, 1) := by decide +kernel
theorem dX11_look_72 : decode cX11_look 72 = .ok (.getfield 75, 3) := by decide +kernel
theorem dX11_look_75 : decode cX11_look 75 = .ok (.getfield 247, 3) := by decide +kernel
theorem dX11_look_78 : decode cX11_look 78 = .ok (.ifCond .eq 7, 3) := by decide +kernel
theorem dX11_look_81 : decode cX11_look 81 = .ok (.iload_n 3, 1) := by decide +kernel
theorem dX11_look_82 : decode cX11_look 82 = .ok (.ifCond .ne 6, 3) := by decide +kernel
theorem dX11_look_85 : decode cX11_look 85 = .ok (.bipush (-2), 2) := by decide +kernel
theorem dX11_look_87 : decode cX11_look 87 = .ok (.ireturn, 1) := by decide +kernel
theorem dX11_look_88 : decode cX11_look 88 = .ok (.aload_n 0, 1) := by decide +kernel
theorem dX11_look_89 : decode cX11_look 89 = .ok (.getfield 75, 3) := by decide +kernel
theorem dX11_look_92 : decode cX11_look 92 = .ok (.iload_n 3, 1) := by decide +kernel
theorem dX11_look_93 : decode cX11_look 93 = .ok (.invokevirtual 253, 3) := by decide +kernel
theorem dX11_look_96 : decode cX11_look 96 = .ok (.istore 4, 2) := by decide +kernel
theorem dX11_look_98 : decode cX11_look 98 = .ok (.iload_n 2, 1) := by decide +kernel
theorem dX11_look_99 : decode cX11_look 99 = .ok (.ifCond .ne 8, 3) := by decide +kernel
theorem dX11_look_102 : decode cX11_look 102 = .ok (.iload 4, 2) := by decide +kernel
theorem dX11_look_104 : decode cX11_look 104 = .ok (.goto 12, 3) := by decide +kernel
theorem dX11_look_107 : decode cX11_look 107 = .ok (.aload_n 0, 1) := by decide +kernel
theorem dX11_look_108 : decode cX11_look 108 = .ok (.getfield 75, 3) := by decide +kernel
theorem dX11_look_111 : decode cX11_look 111 = .ok (.iload 4, 2) := by decide +kernel
theorem dX11_look_113 : decode cX11_look 113 = .ok (.invokevirtual 256, 3) := by decide +kernel
theorem dX11_look_116 : decode cX11_look 116 = .ok (.ireturn, 1) := by decide +kernel
theorem dX11_note_0 : decode cX11_note 0 = .ok (.iload_n 1, 1) := by decide +kernel
theorem dX11_note_1 : decode cX11_note 1 = .ok (.iconst (-1), 1) := by decide +kernel
theorem dX11_note_2 : decode cX11_note 2 = .ok (.if_icmp .ne 16, 3) := by decide +kernel
theorem dX11_note_5 : decode cX11_note 5 = .ok (.aload_n 0, 1) := by decide +kernel
theorem dX11_note_6 : decode cX11_note 6 = .ok (.getfield 43, 3) := by decide +kernel
theorem dX11_note_9 : decode cX11_note 9 = .ok (.getfield 114, 3) := by decide +kernel
theorem dX11_note_12 : decode cX11_note 12 = .ok (.iconst 0, 1) := by decide +kernel
theorem dX11_note_13 : decode cX11_note 13 = .ok (.putfield 118, 3) := by decide +kernel
theorem dX11_note_16 : decode cX11_note 16 = .ok (.iconst 0, 1) := by decide +kernel
theorem dX11_note_17 : decode cX11_note 17 = .ok (.ireturn, 1) := by decide +kernel
theorem dX11_note_18 : decode cX11_note 18 = .ok (.iload_n 3, 1) := by decide +kernel
theorem dX11_note_19 : decode cX11_note 19 = .ok (.iconst (-1), 1) := by decide +kernel
theorem dX11_note_20 : decode cX11_note 20 = .ok (.aload_n 0, 1) := by decide +kernel
theorem dX11_note_21 : decode cX11_note 21 = .ok (.getfield 43, 3) := by decide +kernel
theorem dX11_note_24 : decode cX11_note 24 = .ok (.getfield 111, 3) := by decide +kernel
theorem dX11_note_27 : decode cX11_note 27 = .ok (.getfield 124, 3) := by decide +kernel
theorem dX11_note_30 : decode cX11_note 30 = .ok (.iconst 0, 1) := by decide +kernel
theorem dX11_note_31 : decode cX11_note 31 = .ok (.iaload, 1) := by decide +kernel
theorem dX11_note_32 : decode cX11_note 32 = .ok (.iconst 1, 1) := by decide +kernel
theorem dX11_note_33 : decode cX11_note 33 = .ok (.isub, 1) := by decide +kernel
theorem dX11_note_34 : decode cX11_note 34 = .ok (.invokestatic 90, 3) := by decide +kernel
theorem dX11_note_37 : decode cX11_note 37 = .ok (.ifCond .ne 9, 3) := by decide +kernel
theorem dX11_note_40 : decode cX11_note 40 = .ok (.iload_n 3, 1) := by decide +kernel
theorem dX11_note_41 : decode cX11_note 41 = .ok (.bipush 99, 2) := by decide +kernel
theorem dX11_note_43 : decode cX11_note 43 = .ok (.if_icmp .ne 7, 3) := by decide +kernel
theorem dX11_note_46 : decode cX11_note 46 = .ok (.iconst 1, 1) := by decide +kernel
theorem dX11_note_47 : decode cX11_note 47 = .ok (.goto 4, 3) := by decide +kernel
theorem dX11_note_50 : decode cX11_note 50 = .ok (.iconst 0, 1) := by decide +kernel
theorem dX11_note_51 : decode cX11_note 51 = .ok (.istore 4, 2) := by decide +kernel
theorem dX11_note_53 : decode cX11_note 53 = .ok (.iload_n 1, 1) := by decide +kernel
theorem dX11_note_54 : decode cX11_note 54 = .ok (.iconst 0, 1) := by decide +kernel
theorem dX11_note_55 : decode cX11_note 55 = .ok (.bipush 40, 2) := by decide +kernel
theorem dX11_note_57 : decode cX11_note 57 = .ok (.invokestatic 90, 3) := by decide +kernel
theorem dX11_note_60 : decode cX11_note 60 = .ok (.ifCond .eq 35, 3) := by decide +kernel
theorem dX11_note_63 : decode cX11_note 63 = .ok (.aload_n 0, 1) := by decide +kernel
theorem dX11_note_64 : decode cX11_note 64 = .ok (.getfield 43, 3) := by decide +kernel
theorem dX11_note_67 : decode cX11_note 67 = .ok (.getfield 111, 3) := by decide +kernel
theorem dX11_note_70 : decode cX11_note 70 = .ok (.iload_n 2, 1) := by decide +kernel
theorem dX11_note_71 : decode cX11_note 71 = .ok (.invokevirtual 139, 3) := by decide +kernel
theorem dX11_note_74 : decode cX11_note 74 = .ok (.ifCond .eq 21, 3) := by decide +kernel
theorem dX11_note_77 : decode cX11_note 77 = .ok (.iload 4, 2) := by decide +kernel
theorem dX11_note_79 : decode cX11_note 79 = .ok (.ifCond .eq 16, 3) := by decide +kernel
theorem dX11_note_82 : decode cX11_note 82 = .ok (.aload_n 0, 1) := by decide +kernel
theorem dX11_note_83 : decode cX11_note 83 = .ok (.getfield 43, 3) := by decide +kernel
theorem dX11_note_86 : decode cX11_note 86 = .ok (.getfield 114, 3) := by decide +kernel
theorem dX11_note_89 : decode cX11_note 89 = .ok (.invokevirtual 232, 3) := by decide +kernel
theorem dX11_note_92 : decode cX11_note 92 = .ok (.ifCond .eq 6, 3) := by decide +kernel
theorem dX11_note_95 : decode cX11_note 95 = .ok (.bipush (-2), 2) := by decide +kernel
theorem dX11_note_97 : decode cX11_note 97 = .ok (.ireturn, 1) := by decide +kernel
theorem dX11_note_98 : decode cX11_note 98 = .ok (.aload_n 0, 1) := by decide +kernel
theorem dX11_note_99 : decode cX11_note 99 = .ok (.getfield 43, 3) := by decide +kernel
theorem dX11_note_102 : decode cX11_note 102 = .ok (.getfield 114, 3) := by decide +kernel
theorem dX11_note_105 : decode cX11_note 105 = .ok (.iload_n 1, 1) := by decide +kernel
theorem dX11_note_106 : decode cX11_note 106 = .ok (.iload_n 2, 1) := by decide +kernel
theorem dX11_note_107 : decode cX11_note 107 = .ok (.iload_n 3, 1) := by decide +kernel
theorem dX11_note_108 : decode cX11_note 108 = .ok (.invokevirtual 235, 3) := by decide +kernel
theorem dX11_note_111 : decode cX11_note 111 = .ok (.aload_n 0, 1) := by decide +kernel
theorem dX11_note_112 : decode cX11_note 112 = .ok (.getfield 43, 3) := by decide +kernel
theorem dX11_note_115 : decode cX11_note 115 = .ok (.getfield 114, 3) := by decide +kernel
theorem dX11_note_118 : decode cX11_note 118 = .ok (.getfield 118, 3) := by decide +kernel
theorem dX11_note_121 : decode cX11_note 121 = .ok (.ireturn, 1) := by decide +kernel
theorem dX11_pull_0 : decode cX11_pull 0 = .ok (.aload_n 0, 1) := by decide +kernel
theorem dX11_pull_1 : decode cX11_pull 1 = .ok (.getfield 43, 3) := by decide +kernel
theorem dX11_pull_4 : decode cX11_pull 4 = .ok (.getfield 111, 3) := by decide +kernel
theorem dX11_pull_7 : decode cX11_pull 7 = .ok (.astore_n 3, 1) := by decide +kernel
theorem dX11_pull_8 : decode cX11_pull 8 = .ok (.aload_n 3, 1) := by decide +kernel
theorem dX11_pull_9 : decode cX11_pull 9 = .ok (.iload_n 1, 1) := by decide +kernel
theorem dX11_pull_10 : decode cX11_pull 10 = .ok (.invokevirtual 136, 3) := by decide +kernel
theorem dX11_pull_13 : decode cX11_pull 13 = .ok (.ifCond .eq 24, 3) := by decide +kernel
theorem dX11_pull_16 : decode cX11_pull 16 = .ok (.aload_n 3, 1) := by decide +kernel
theorem dX11_pull_17 : decode cX11_pull 17 = .ok (.iload_n 2, 1) := by decide +kernel
theorem dX11_pull_18 : decode cX11_pull 18 = .ok (.invokevirtual 139, 3) := by decide +kernel
theorem dX11_pull_21 : decode cX11_pull 21 = .ok (.ifCond .eq 16, 3) := by decide +kernel
theorem dX11_pull_24 : decode cX11_pull 24 = .ok (.aload_n 3, 1) := by decide +kernel
theorem dX11_pull_25 : decode cX11_pull 25 = .ok (.getfield 124, 3) := by decide +kernel
theorem dX11_pull_28 : decode cX11_pull 28 = .ok (.bipush 32, 2) := by decide +kernel
theorem dX11_pull_30 : decode cX11_pull 30 = .ok (.iload_n 1, 1) := by decide +kernel
theorem dX11_pull_31 : decode cX11_pull 31 = .ok (.iadd, 1) := by decide +kernel
theorem dX11_pull_32 : decode cX11_pull 32 = .ok (.iaload, 1) := by decide +kernel
theorem dX11_pull_33 : decode cX11_pull 33 = .ok (.iconst 1, 1) := by decide +kernel
theorem dX11_pull_34 : decode cX11_pull 34 = .ok (.if_icmp .ge 5, 3) := by decide +kernel
theorem dX11_pull_37 : decode cX11_pull 37 = .ok (.iconst (-1), 1) := by decide +kernel
theorem dX11_pull_38 : decode cX11_pull 38 = .ok (.ireturn, 1) := by decide +kernel
theorem dX11_pull_39 : decode cX11_pull 39 = .ok (.aload_n 0, 1) := by decide +kernel
theorem dX11_pull_40 : decode cX11_pull 40 = .ok (.getfield 54, 3) := by decide +kernel
theorem dX11_pull_43 : decode cX11_pull 43 = .ok (.aload_n 3, 1) := by decide +kernel
theorem dX11_pull_44 : decode cX11_pull 44 = .ok (.invokevirtual 156, 3) := by decide +kernel
theorem dX11_pull_47 : decode cX11_pull 47 = .ok (.bipush 99, 2) := by decide +kernel
theorem dX11_pull_49 : decode cX11_pull 49 = .ok (.aload_n 3, 1) := by decide +kernel
theorem dX11_pull_50 : decode cX11_pull 50 = .ok (.getfield 124, 3) := by decide +kernel
theorem dX11_pull_53 : decode cX11_pull 53 = .ok (.bipush 58, 2) := by decide +kernel
theorem dX11_pull_55 : decode cX11_pull 55 = .ok (.iload_n 2, 1) := by decide +kernel
theorem dX11_pull_56 : decode cX11_pull 56 = .ok (.iadd, 1) := by decide +kernel
theorem dX11_pull_57 : decode cX11_pull 57 = .ok (.iaload, 1) := by decide +kernel
theorem dX11_pull_58 : decode cX11_pull 58 = .ok (.aload_n 3, 1) := by decide +kernel
theorem dX11_pull_59 : decode cX11_pull 59 = .ok (.getfield 124, 3) := by decide +kernel
theorem dX11_pull_62 : decode cX11_pull 62 = .ok (.bipush 32, 2) := by decide +kernel
theorem dX11_pull_64 : decode cX11_pull 64 = .ok (.iload_n 1, 1) := by decide +kernel
theorem dX11_pull_65 : decode cX11_pull 65 = .ok (.iadd, 1) := by decide +kernel
theorem dX11_pull_66 : decode cX11_pull 66 = .ok (.iaload, 1) := by decide +kernel
theorem dX11_pull_67 : decode cX11_pull 67 = .ok (.iadd, 1) := by decide +kernel
theorem dX11_pull_68 : decode cX11_pull 68 = .ok (.invokestatic 178, 3) := by decide +kernel
theorem dX11_pull_71 : decode cX11_pull 71 = .ok (.istore 4, 2) := by decide +kernel
theorem dX11_pull_73 : decode cX11_pull 73 = .ok (.aload_n 3, 1) := by decide +kernel
theorem dX11_pull_74 : decode cX11_pull 74 = .ok (.getfield 124, 3) := by decide +kernel
theorem dX11_pull_77 : decode cX11_pull 77 = .ok (.bipush 32, 2) := by decide +kernel
theorem dX11_pull_79 : decode cX11_pull 79 = .ok (.iload_n 1, 1) := by decide +kernel
theorem dX11_pull_80 : decode cX11_pull 80 = .ok (.iadd, 1) := by decide +kernel
theorem dX11_pull_81 : decode cX11_pull 81 = .ok (.iconst 0, 1) := by decide +kernel
theorem dX11_pull_82 : decode cX11_pull 82 = .ok (.iastore, 1) := by decide +kernel
theorem dX11_pull_83 : decode cX11_pull 83 = .ok (.aload_n 3, 1) := by decide +kernel
theorem dX11_pull_84 : decode cX11_pull 84 = .ok (.getfield 124, 3) := by decide +kernel
theorem dX11_pull_87 : decode cX11_pull 87 = .ok (.bipush 58, 2) := by decide +kernel
theorem dX11_pull_89 : decode cX11_pull 89 = .ok (.iload_n 2, 1) := by decide +kernel
theorem dX11_pull_90 : decode cX11_pull 90 = .ok (.iadd, 1) := by decide +kernel
theorem dX11_pull_91 : decode cX11_pull 91 = .ok (.iload 4, 2) := by decide +kernel
theorem dX11_pull_93 : decode cX11_pull 93 = .ok (.iastore, 1) := by decide +kernel
theorem dX11_pull_94 : decode cX11_pull 94 = .ok (.iload 4, 2) := by decide +kernel
theorem dX11_pull_96 : decode cX11_pull 96 = .ok (.ireturn, 1) := by decide +kernel
theorem dX11_ring_0 : decode cX11_ring 0 = .ok (.aload_n 0, 1) := by decide +kernel
theorem dX11_ring_1 : decode cX11_ring 1 = .ok (.getfield 43, 3) := by decide +kernel
theorem dX11_ring_4 : decode cX11_ring 4 = .ok (.getfield 111, 3) := by decide +kernel
theorem dX11_ring_7 : decode cX11_ring 7 = .ok (.iload_n 1, 1) := by decide +kernel
theorem dX11_ring_8 : decode cX11_ring 8 = .ok (.invokevirtual 136, 3) := by decide +kernel
theorem dX11_ring_11 : decode cX11_ring 11 = .ok (.ifCond .ne 5, 3) := by decide +kernel
theorem dX11_ring_14 : decode cX11_ring 14 = .ok (.iconst (-1), 1) := by decide +kernel
theorem dX11_ring_15 : decode cX11_ring 15 = .ok (.ireturn, 1) := by decide +kernel
theorem dX11_ring_16 : decode cX11_ring 16 = .ok (.iload_n 2, 1) := by decide +kernel
theorem dX11_ring_17 : decode cX11_ring 17 = .ok (.tableswitch 75 0 2 #[27, 43, 59], 27) := by decide +kernel
theorem dX11_ring_44 : decode cX11_ring 44 = .ok (.aload_n 0, 1) := by decide +kernel
theorem dX11_ring_45 : decode cX11_ring 45 = .ok (.getfield 43, 3) := by decide +kernel
theorem dX11_ring_48 : decode cX11_ring 48 = .ok (.getfield 111, 3) := by decide +kernel
theorem dX11_ring_51 : decode cX11_ring 51 = .ok (.getfield 124, 3) := by decide +kernel
theorem dX11_ring_54 : decode cX11_ring 54 = .ok (.bipush 20, 2) := by decide +kernel
theorem dX11_ring_56 : decode cX11_ring 56 = .ok (.iload_n 1, 1) := by decide +kernel
theorem dX11_ring_57 : decode cX11_ring 57 = .ok (.iadd, 1) := by decide +kernel
theorem dX11_ring_58 : decode cX11_ring 58 = .ok (.iaload, 1) := by decide +kernel
theorem dX11_ring_59 : decode cX11_ring 59 = .ok (.ireturn, 1) := by decide +kernel
theorem dX11_ring_60 : decode cX11_ring 60 = .ok (.aload_n 0, 1) := by decide +kernel
theorem dX11_ring_61 : decode cX11_ring 61 = .ok (.getfield 43, 3) := by decide +kernel
theorem dX11_ring_64 : decode cX11_ring 64 = .ok (.getfield 111, 3) := by decide +kernel
theorem dX11_ring_67 : decode cX11_ring 67 = .ok (.getfield 124, 3) := by decide +kernel
theorem dX11_ring_70 : decode cX11_ring 70 = .ok (.bipush 26, 2) := by decide +kernel
theorem dX11_ring_72 : decode cX11_ring 72 = .ok (.iload_n 1, 1) := by decide +kernel
theorem dX11_ring_73 : decode cX11_ring 73 = .ok (.iadd, 1) := by decide +kernel
theorem dX11_ring_74 : decode cX11_ring 74 = .ok (.iaload, 1) := by decide +kernel
theorem dX11_ring_75 : decode cX11_ring 75 = .ok (.ireturn, 1) := by decide +kernel
theorem dX11_ring_76 : decode cX11_ring 76 = .ok (.aload_n 0, 1) := by decide +kernel
theorem dX11_ring_77 : decode cX11_ring 77 = .ok (.getfield 43, 3) := by decide +kernel
theorem dX11_ring_80 : decode cX11_ring 80 = .ok (.getfield 111, 3) := by decide +kernel
theorem dX11_ring_83 : decode cX11_ring 83 = .ok (.getfield 124, 3) := by decide +kernel
theorem dX11_ring_86 : decode cX11_ring 86 = .ok (.bipush 32, 2) := by decide +kernel
theorem dX11_ring_88 : decode cX11_ring 88 = .ok (.iload_n 1, 1) := by decide +kernel
theorem dX11_ring_89 : decode cX11_ring 89 = .ok (.iadd, 1) := by decide +kernel
theorem dX11_ring_90 : decode cX11_ring 90 = .ok (.iaload, 1) := by decide +kernel
theorem dX11_ring_91 : decode cX11_ring 91 = .ok (.ireturn, 1) := by decide +kernel
theorem dX11_ring_92 : decode cX11_ring 92 = .ok (.iconst (-1), 1) := by decide +kernel
theorem dX11_ring_93 : decode cX11_ring 93 = .ok (.ireturn, 1) := by decide +kernel
theorem dX11_rule_0 : decode cX11_rule 0 = .ok (.aload_n 0, 1) := by decide +kernel
theorem dX11_rule_1 : decode cX11_rule 1 = .ok (.getfield 36, 3) := by decide +kernel
theorem dX11_rule_4 : decode cX11_rule 4 = .ok (.bipush 6, 2) := by decide +kernel
theorem dX11_rule_6 : decode cX11_rule 6 = .ok (.if_icmp .lt 5, 3) := by decide +kernel
theorem dX11_rule_9 : decode cX11_rule 9 = .ok (.iconst (-1), 1) := by decide +kernel
theorem dX11_rule_10 : decode cX11_rule 10 = .ok (.ireturn, 1) := by decide +kernel
theorem dX11_rule_11 : decode cX11_rule 11 = .ok (.aload_n 0, 1) := by decide +kernel
theorem dX11_rule_12 : decode cX11_rule 12 = .ok (.getfield 26, 3) := by decide +kernel
theorem dX11_rule_15 : decode cX11_rule 15 = .ok (.aload_n 0, 1) := by decide +kernel
theorem dX11_rule_16 : decode cX11_rule 16 = .ok (.getfield 10, 3) := by decide +kernel
theorem dX11_rule_19 : decode cX11_rule 19 = .ok (.invokevirtual 128, 3) := by decide +kernel
theorem dX11_rule_22 : decode cX11_rule 22 = .ok (.istore_n 1, 1) := by decide +kernel
theorem dX11_rule_23 : decode cX11_rule 23 = .ok (.aload_n 0, 1) := by decide +kernel
theorem dX11_rule_24 : decode cX11_rule 24 = .ok (.getfield 10, 3) := by decide +kernel
theorem dX11_rule_27 : decode cX11_rule 27 = .ok (.iconst 0, 1) := by decide +kernel
theorem dX11_rule_28 : decode cX11_rule 28 = .ok (.putfield 87, 3) := by decide +kernel
theorem dX11_rule_31 : decode cX11_rule 31 = .ok (.iload_n 1, 1) := by decide +kernel
theorem dX11_rule_32 : decode cX11_rule 32 = .ok (.ifCond .eq 8, 3) := by decide +kernel
theorem dX11_rule_35 : decode cX11_rule 35 = .ok (.bipush (-2), 2) := by decide +kernel
theorem dX11_rule_37 : decode cX11_rule 37 = .ok (.iload_n 1, 1) := by decide +kernel
theorem dX11_rule_38 : decode cX11_rule 38 = .ok (.isub, 1) := by decide +kernel
theorem dX11_rule_39 : decode cX11_rule 39 = .ok (.ireturn, 1) := by decide +kernel
theorem dX11_rule_40 : decode cX11_rule 40 = .ok (.aload_n 0, 1) := by decide +kernel
theorem dX11_rule_41 : decode cX11_rule 41 = .ok (.getfield 32, 3) := by decide +kernel
theorem dX11_rule_44 : decode cX11_rule 44 = .ok (.aload_n 0, 1) := by decide +kernel
theorem dX11_rule_45 : decode cX11_rule 45 = .ok (.getfield 36, 3) := by decide +kernel
theorem dX11_rule_48 : decode cX11_rule 48 = .ok (.aload_n 0, 1) := by decide +kernel
theorem dX11_rule_49 : decode cX11_rule 49 = .ok (.getfield 26, 3) := by decide +kernel
theorem dX11_rule_52 : decode cX11_rule 52 = .ok (.invokevirtual 129, 3) := by decide +kernel
theorem dX11_rule_55 : decode cX11_rule 55 = .ok (.aastore, 1) := by decide +kernel
theorem dX11_rule_56 : decode cX11_rule 56 = .ok (.aload_n 0, 1) := by decide +kernel
theorem dX11_rule_57 : decode cX11_rule 57 = .ok (.dup, 1) := by decide +kernel
theorem dX11_rule_58 : decode cX11_rule 58 = .ok (.getfield 36, 3) := by decide +kernel
theorem dX11_rule_61 : decode cX11_rule 61 = .ok (.iconst 1, 1) := by decide +kernel
theorem dX11_rule_62 : decode cX11_rule 62 = .ok (.iadd, 1) := by decide +kernel
theorem dX11_rule_63 : decode cX11_rule 63 = .ok (.putfield 36, 3) := by decide +kernel
theorem dX11_rule_66 : decode cX11_rule 66 = .ok (.aload_n 0, 1) := by decide +kernel
theorem dX11_rule_67 : decode cX11_rule 67 = .ok (.getfield 36, 3) := by decide +kernel
theorem dX11_rule_70 : decode cX11_rule 70 = .ok (.iconst 1, 1) := by decide +kernel
theorem dX11_rule_71 : decode cX11_rule 71 = .ok (.isub, 1) := by decide +kernel
theorem dX11_rule_72 : decode cX11_rule 72 = .ok (.ireturn, 1) := by decide +kernel
theorem dX11_seed_0 : decode cX11_seed 0 = .ok (.iload_n 1, 1) := by decide +kernel
theorem dX11_seed_1 : decode cX11_seed 1 = .ok (.ifCond .ge 5, 3) := by decide +kernel
theorem dX11_seed_4 : decode cX11_seed 4 = .ok (.iconst (-1), 1) := by decide +kernel
theorem dX11_seed_5 : decode cX11_seed 5 = .ok (.ireturn, 1) := by decide +kernel
theorem dX11_seed_6 : decode cX11_seed 6 = .ok (.aload_n 0, 1) := by decide +kernel
theorem dX11_seed_7 : decode cX11_seed 7 = .ok (.getfield 43, 3) := by decide +kernel
theorem dX11_seed_10 : decode cX11_seed 10 = .ok (.getfield 149, 3) := by decide +kernel
theorem dX11_seed_13 : decode cX11_seed 13 = .ok (.istore_n 2, 1) := by decide +kernel
theorem dX11_seed_14 : decode cX11_seed 14 = .ok (.aload_n 0, 1) := by decide +kernel
theorem dX11_seed_15 : decode cX11_seed 15 = .ok (.getfield 43, 3) := by decide +kernel
theorem dX11_seed_18 : decode cX11_seed 18 = .ok (.iload_n 1, 1) := by decide +kernel
theorem dX11_seed_19 : decode cX11_seed 19 = .ok (.putfield 149, 3) := by decide +kernel
theorem dX11_seed_22 : decode cX11_seed 22 = .ok (.iload_n 2, 1) := by decide +kernel
theorem dX11_seed_23 : decode cX11_seed 23 = .ok (.ireturn, 1) := by decide +kernel
theorem dX11_undo_0 : decode cX11_undo 0 = .ok (.aload_n 0, 1) := by decide +kernel
theorem dX11_undo_1 : decode cX11_undo 1 = .ok (.getfield 54, 3) := by decide +kernel
theorem dX11_undo_4 : decode cX11_undo 4 = .ok (.getfield 123, 3) := by decide +kernel
theorem dX11_undo_7 : decode cX11_undo 7 = .ok (.iconst 1, 1) := by decide +kernel
theorem dX11_undo_8 : decode cX11_undo 8 = .ok (.if_icmp .ge 5, 3) := by decide +kernel
theorem dX11_undo_11 : decode cX11_undo 11 = .ok (.iconst (-1), 1) := by decide +kernel
theorem dX11_undo_12 : decode cX11_undo 12 = .ok (.ireturn, 1) := by decide +kernel
theorem dX11_undo_13 : decode cX11_undo 13 = .ok (.aload_n 0, 1) := by decide +kernel
theorem dX11_undo_14 : decode cX11_undo 14 = .ok (.getfield 54, 3) := by decide +kernel
theorem dX11_undo_17 : decode cX11_undo 17 = .ok (.aload_n 0, 1) := by decide +kernel
theorem dX11_undo_18 : decode cX11_undo 18 = .ok (.getfield 43, 3) := by decide +kernel
theorem dX11_undo_21 : decode cX11_undo 21 = .ok (.getfield 111, 3) := by decide +kernel
theorem dX11_undo_24 : decode cX11_undo 24 = .ok (.invokevirtual 184, 3) := by decide +kernel
theorem dX11_undo_27 : decode cX11_undo 27 = .ok (.aload_n 0, 1) := by decide +kernel
theorem dX11_undo_28 : decode cX11_undo 28 = .ok (.getfield 54, 3) := by decide +kernel
theorem dX11_undo_31 : decode cX11_undo 31 = .ok (.getfield 123, 3) := by decide +kernel
theorem dX11_undo_34 : decode cX11_undo 34 = .ok (.ireturn, 1) := by decide +kernel
theorem dX11_wind_0 : decode cX11_wind 0 = .ok (.iload_n 1, 1) := by decide +kernel
theorem dX11_wind_1 : decode cX11_wind 1 = .ok (.iconst 0, 1) := by decide +kernel
theorem dX11_wind_2 : decode cX11_wind 2 = .ok (.aload_n 0, 1) := by decide +kernel
theorem dX11_wind_3 : decode cX11_wind 3 = .ok (.getfield 43, 3) := by decide +kernel
theorem dX11_wind_6 : decode cX11_wind 6 = .ok (.getfield 111, 3) := by decide +kernel
theorem dX11_wind_9 : decode cX11_wind 9 = .ok (.getfield 124, 3) := by decide +kernel
theorem dX11_wind_12 : decode cX11_wind 12 = .ok (.iconst 2, 1) := by decide +kernel
theorem dX11_wind_13 : decode cX11_wind 13 = .ok (.iaload, 1) := by decide +kernel
theorem dX11_wind_14 : decode cX11_wind 14 = .ok (.iconst 1, 1) := by decide +kernel
theorem dX11_wind_15 : decode cX11_wind 15 = .ok (.isub, 1) := by decide +kernel
theorem dX11_wind_16 : decode cX11_wind 16 = .ok (.invokestatic 90, 3) := by decide +kernel
theorem dX11_wind_19 : decode cX11_wind 19 = .ok (.ifCond .eq 17, 3) := by decide +kernel
theorem dX11_wind_22 : decode cX11_wind 22 = .ok (.aload_n 0, 1) := by decide +kernel
theorem dX11_wind_23 : decode cX11_wind 23 = .ok (.getfield 43, 3) := by decide +kernel
theorem dX11_wind_26 : decode cX11_wind 26 = .ok (.getfield 111, 3) := by decide +kernel
theorem dX11_wind_29 : decode cX11_wind 29 = .ok (.iload_n 1, 1) := by decide +kernel
theorem dX11_wind_30 : decode cX11_wind 30 = .ok (.invokevirtual 142, 3) := by decide +kernel
theorem dX11_wind_33 : decode cX11_wind 33 = .ok (.goto 4, 3) := by decide +kernel
theorem dX11_wind_36 : decode cX11_wind 36 = .ok (.iconst (-1), 1) := by decide +kernel
theorem dX11_wind_37 : decode cX11_wind 37 = .ok (.ireturn, 1) := by decide +kernel
theorem dX1_clear_0 : decode cX1_clear 0 = .ok (.aload_n 0, 1) := by decide +kernel
theorem dX1_clear_1 : decode cX1_clear 1 = .ok (.getfield 11, 3) := by decide +kernel
theorem dX1_clear_4 : decode cX1_clear 4 = .ok (.iconst 0, 1) := by decide +kernel
theorem dX1_clear_5 : decode cX1_clear 5 = .ok (.invokestatic 21, 3) := by decide +kernel
theorem dX1_clear_8 : decode cX1_clear 8 = .ok (.return_, 1) := by decide +kernel
theorem dX11_ahead_0 : decode cX11_ahead 0 = .ok (.iload_n 3, 1) := by decide +kernel
theorem dX11_ahead_1 : decode cX11_ahead 1 = .ok (.iconst 2, 1) := by decide +kernel
theorem dX11_ahead_2 : decode cX11_ahead 2 = .ok (.if_icmp .ne 7, 3) := by decide +kernel
theorem dX11_ahead_5 : decode cX11_ahead 5 = .ok (.iconst 1, 1) := by decide +kernel
theorem dX11_ahead_6 : decode cX11_ahead 6 = .ok (.goto 4, 3) := by decide +kernel
theorem dX11_ahead_9 : decode cX11_ahead 9 = .ok (.iconst 0, 1) := by decide +kernel
theorem dX11_ahead_10 : decode cX11_ahead 10 = .ok (.istore 4, 2) := by decide +kernel
theorem dX11_ahead_12 : decode cX11_ahead 12 = .ok (.aload_n 0, 1) := by decide +kernel
theorem dX11_ahead_13 : decode cX11_ahead 13 = .ok (.getfield 43, 3) := by decide +kernel
theorem dX11_ahead_16 : decode cX11_ahead 16 = .ok (.getfield 111, 3) := by decide +kernel
theorem dX11_ahead_19 : decode cX11_ahead 19 = .ok (.invokevirtual 152, 3) := by decide +kernel
theorem dX11_ahead_22 : decode cX11_ahead 22 = .ok (.ifCond .eq 22, 3) := by decide +kernel
theorem dX11_ahead_25 : decode cX11_ahead 25 = .ok (.iload_n 2, 1) := by decide +kernel
theorem dX11_ahead_26 : decode cX11_ahead 26 = .ok (.iconst 0, 1) := by decide +kernel
theorem dX11_ahead_27 : decode cX11_ahead 27 = .ok (.bipush 100, 2) := by decide +kernel
theorem dX11_ahead_29 : decode cX11_ahead 29 = .ok (.invokestatic 90, 3) := by decide +kernel
theorem dX11_ahead_32 : decode cX11_ahead 32 = .ok (.ifCond .eq 12, 3) := by decide +kernel
theorem dX11_ahead_35 : decode cX11_ahead 35 = .ok (.iload_n 3, 1) := by decide +kernel
theorem dX11_ahead_36 : decode cX11_ahead 36 = .ok (.iconst 0, 1) := by decide +kernel
theorem dX11_ahead_37 : decode cX11_ahead 37 = .ok (.iconst 2, 1) := by decide +kernel
theorem dX11_ahead_38 : decode cX11_ahead 38 = .ok (.invokestatic 90, 3) := by decide +kernel
theorem dX11_ahead_41 : decode cX11_ahead 41 = .ok (.ifCond .ne 5, 3) := by decide +kernel
theorem dX11_ahead_44 : decode cX11_ahead 44 = .ok (.iconst (-1), 1) := by decide +kernel
theorem dX11_ahead_45 : decode cX11_ahead 45 = .ok (.ireturn, 1) := by decide +kernel
theorem dX11_ahead_46 : decode cX11_ahead 46 = .ok (.iload 4, 2) := by decide +kernel
theorem dX11_ahead_48 : decode cX11_ahead 48 = .ok (.ifCond .ne 19, 3) := by decide +kernel
theorem dX11_ahead_51 : decode cX11_ahead 51 = .ok (.aload_n 0, 1) := by decide +kernel
theorem dX11_ahead_52 : decode cX11_ahead 52 = .ok (.getfield 43, 3) := by decide +kernel
theorem dX11_ahead_55 : decode cX11_ahead 55 = .ok (.getfield 111, 3) := by decide +kernel
theorem dX11_ahead_58 : decode cX11_ahead 58 = .ok (.iload_n 1, 1) := by decide +kernel
theorem dX11_ahead_59 : decode cX11_ahead 59 = .ok (.invokevirtual 139, 3) := by decide +kernel
theorem dX11_ahead_62 : decode cX11_ahead 62 = .ok (.ifCond .ne 5, 3) := by decide +kernel
theorem dX11_ahead_65 : decode cX11_ahead 65 = .ok (.iconst (-1), 1) := by decide +kernel
theorem dX11_ahead_66 : decode cX11_ahead 66 = .ok (.ireturn, 1) := by decide +kernel
theorem dX11_ahead_67 : decode cX11_ahead 67 = .ok (.aload_n 0, 1) := by decide +kernel
theorem dX11_ahead_68 : decode cX11_ahead 68 = .ok (.getfield 61, 3) := by decide +kernel
theorem dX11_ahead_71 : decode cX11_ahead 71 = .ok (.aload_n 0, 1) := by decide +kernel
theorem dX11_ahead_72 : decode cX11_ahead 72 = .ok (.getfield 43, 3) := by decide +kernel
theorem dX11_ahead_75 : decode cX11_ahead 75 = .ok (.getfield 111, 3) := by decide +kernel
theorem dX11_ahead_78 : decode cX11_ahead 78 = .ok (.aload_n 0, 1) := by decide +kernel
theorem dX11_ahead_79 : decode cX11_ahead 79 = .ok (.invokevirtual 159, 3) := by decide +kernel
theorem dX11_ahead_82 : decode cX11_ahead 82 = .ok (.invokevirtual 162, 3) := by decide +kernel
theorem dX11_ahead_85 : decode cX11_ahead 85 = .ok (.aload_n 0, 1) := by decide +kernel
theorem dX11_ahead_86 : decode cX11_ahead 86 = .ok (.getfield 61, 3) := by decide +kernel
theorem dX11_ahead_89 : decode cX11_ahead 89 = .ok (.iload_n 2, 1) := by decide +kernel
theorem dX11_ahead_90 : decode cX11_ahead 90 = .ok (.invokevirtual 187, 3) := by decide +kernel
theorem dX11_ahead_93 : decode cX11_ahead 93 = .ok (.iload 4, 2) := by decide +kernel
theorem dX11_ahead_95 : decode cX11_ahead 95 = .ok (.ifCond .eq 17, 3) := by decide +kernel
theorem dX11_ahead_98 : decode cX11_ahead 98 = .ok (.aload_n 0, 1) := by decide +kernel
theorem dX11_ahead_99 : decode cX11_ahead 99 = .ok (.getfield 61, 3) := by decide +kernel
theorem dX11_ahead_102 : decode cX11_ahead 102 = .ok (.getfield 170, 3) := by decide +kernel
theorem dX11_ahead_105 : decode cX11_ahead 105 = .ok (.getfield 124, 3) := by decide +kernel
theorem dX11_ahead_108 : decode cX11_ahead 108 = .ok (.bipush 7, 2) := by decide +kernel
theorem dX11_ahead_110 : decode cX11_ahead 110 = .ok (.iaload, 1) := by decide +kernel
theorem dX11_ahead_111 : decode cX11_ahead 111 = .ok (.ireturn, 1) := by decide +kernel
theorem dX11_ahead_112 : decode cX11_ahead 112 = .ok (.aload_n 0, 1) := by decide +kernel
theorem dX11_ahead_113 : decode cX11_ahead 113 = .ok (.getfield 61, 3) := by decide +kernel
theorem dX11_ahead_116 : decode cX11_ahead 116 = .ok (.getfield 170, 3) := by decide +kernel
theorem dX11_ahead_119 : decode cX11_ahead 119 = .ok (.getfield 124, 3) := by decide +kernel
theorem dX11_ahead_122 : decode cX11_ahead 122 = .ok (.iload_n 3, 1) := by decide +kernel
theorem dX11_ahead_123 : decode cX11_ahead 123 = .ok (.ifCond .ne 8, 3) := by decide +kernel
theorem dX11_ahead_126 : decode cX11_ahead 126 = .ok (.bipush 53, 2) := by decide +kernel
theorem dX11_ahead_128 : decode cX11_ahead 128 = .ok (.goto 5, 3) := by decide +kernel
theorem dX11_ahead_131 : decode cX11_ahead 131 = .ok (.bipush 58, 2) := by decide +kernel
theorem dX11_ahead_133 : decode cX11_ahead 133 = .ok (.iload_n 1, 1) := by decide +kernel
theorem dX11_ahead_134 : decode cX11_ahead 134 = .ok (.iadd, 1) := by decide +kernel
theorem dX11_ahead_135 : decode cX11_ahead 135 = .ok (.iaload, 1) := by decide +kernel
theorem dX11_ahead_136 : decode cX11_ahead 136 = .ok (.ireturn, 1) := by decide +kernel
theorem dX11_count_0 : decode cX11_count 0 = .ok (.iload_n 1, 1) := by decide +kernel
theorem dX11_count_1 : decode cX11_count 1 = .ok (.tableswitch 259 0 15 #[79, 92, 105, 118, 131, 144, 149, 157, 170, 184, 197, 210, 224, 235, 243, 251], 79) := by decide +kernel
theorem dX11_count_80 : decode cX11_count 80 = .ok (.aload_n 0, 1) := by decide +kernel
theorem dX11_count_81 : decode cX11_count 81 = .ok (.getfield 43, 3) := by decide +kernel
theorem dX11_count_84 : decode cX11_count 84 = .ok (.getfield 111, 3) := by decide +kernel
theorem dX11_count_87 : decode cX11_count 87 = .ok (.getfield 124, 3) := by decide +kernel
theorem dX11_count_90 : decode cX11_count 90 = .ok (.iconst 0, 1) := by decide +kernel
theorem dX11_count_91 : decode cX11_count 91 = .ok (.iaload, 1) := by decide +kernel
theorem dX11_count_92 : decode cX11_count 92 = .ok (.ireturn, 1) := by decide +kernel
theorem dX11_count_93 : decode cX11_count 93 = .ok (.aload_n 0, 1) := by decide +kernel
theorem dX11_count_94 : decode cX11_count 94 = .ok (.getfield 43, 3) := by decide +kernel
theorem dX11_count_97 : decode cX11_count 97 = .ok (.getfield 111, 3) := by decide +kernel
theorem dX11_count_100 : decode cX11_count 100 = .ok (.getfield 124, 3) := by decide +kernel
theorem dX11_count_103 : decode cX11_count 103 = .ok (.iconst 1, 1) := by decide +kernel
theorem dX11_count_104 : decode cX11_count 104 = .ok (.iaload, 1) := by decide +kernel
theorem dX11_count_105 : decode cX11_count 105 = .ok (.ireturn, 1) := by decide +kernel
theorem dX11_count_106 : decode cX11_count 106 = .ok (.aload_n 0, 1) := by decide +kernel
theorem dX11_count_107 : decode cX11_count 107 = .ok (.getfield 43, 3) := by decide +kernel
theorem dX11_count_110 : decode cX11_count 110 = .ok (.getfield 111, 3) := by decide +kernel
theorem dX11_count_113 : decode cX11_count 113 = .ok (.getfield 124, 3) := by decide +kernel
theorem dX11_count_116 : decode cX11_count 116 = .ok (.iconst 2, 1) := by decide +kernel
theorem dX11_count_117 : decode cX11_count 117 = .ok (.iaload, 1) := by decide +kernel
theorem dX11_count_118 : decode cX11_count 118 = .ok (.ireturn, 1) := by decide +kernel
theorem dX11_count_119 : decode cX11_count 119 = .ok (.aload_n 0, 1) := by decide +kernel
theorem dX11_count_120 : decode cX11_count 120 = .ok (.getfield 43, 3) := by decide +kernel
theorem dX11_count_123 : decode cX11_count 123 = .ok (.getfield 111, 3) := by decide +kernel
theorem dX11_count_126 : decode cX11_count 126 = .ok (.getfield 124, 3) := by decide +kernel
theorem dX11_count_129 : decode cX11_count 129 = .ok (.iconst 3, 1) := by decide +kernel
theorem dX11_count_130 : decode cX11_count 130 = .ok (.iaload, 1) := by decide +kernel
theorem dX11_count_131 : decode cX11_count 131 = .ok (.ireturn, 1) := by decide +kernel
theorem dX11_count_132 : decode cX11_count 132 = .ok (.aload_n 0, 1) := by decide +kernel
theorem dX11_count_133 : decode cX11_count 133 = .ok (.getfield 43, 3) := by decide +kernel
theorem dX11_count_136 : decode cX11_count 136 = .ok (.getfield 111, 3) := by decide +kernel
theorem dX11_count_139 : decode cX11_count 139 = .ok (.getfield 124, 3) := by decide +kernel
theorem dX11_count_142 : decode cX11_count 142 = .ok (.iconst 4, 1) := by decide +kernel
theorem dX11_count_143 : decode cX11_count 143 = .ok (.iaload, 1) := by decide +kernel
theorem dX11_count_144 : decode cX11_count 144 = .ok (.ireturn, 1) := by decide +kernel
theorem dX11_count_145 : decode cX11_count 145 = .ok (.aload_n 0, 1) := by decide +kernel
theorem dX11_count_146 : decode cX11_count 146 = .ok (.getfield 36, 3) := by decide +kernel
theorem dX11_count_149 : decode cX11_count 149 = .ok (.ireturn, 1) := by decide +kernel
theorem dX11_count_150 : decode cX11_count 150 = .ok (.aload_n 0, 1) := by decide +kernel
theorem dX11_count_151 : decode cX11_count 151 = .ok (.getfield 43, 3) := by decide +kernel
theorem dX11_count_154 : decode cX11_count 154 = .ok (.getfield 133, 3) := by decide +kernel
theorem dX11_count_157 : decode cX11_count 157 = .ok (.ireturn, 1) := by decide +kernel
theorem dX11_count_158 : decode cX11_count 158 = .ok (.aload_n 0, 1) := by decide +kernel
theorem dX11_count_159 : decode cX11_count 159 = .ok (.getfield 43, 3) := by decide +kernel
theorem dX11_count_162 : decode cX11_count 162 = .ok (.getfield 111, 3) := by decide +kernel
theorem dX11_count_165 : decode cX11_count 165 = .ok (.getfield 124, 3) := by decide +kernel
theorem dX11_count_168 : decode cX11_count 168 = .ok (.iconst 5, 1) := by decide +kernel
theorem dX11_count_169 : decode cX11_count 169 = .ok (.iaload, 1) := by decide +kernel
theorem dX11_count_170 : decode cX11_count 170 = .ok (.ireturn, 1) := by decide +kernel
theorem dX11_count_171 : decode cX11_count 171 = .ok (.aload_n 0, 1) := by decide +kernel
theorem dX11_count_172 : decode cX11_count 172 = .ok (.getfield 43, 3) := by decide +kernel
theorem dX11_count_175 : decode cX11_count 175 = .ok (.getfield 111, 3) := by decide +kernel
theorem dX11_count_178 : decode cX11_count 178 = .ok (.getfield 124, 3) := by decide +kernel
theorem dX11_count_181 : decode cX11_count 181 = .ok (.bipush 6, 2) := by decide +kernel
theorem dX11_count_183 : decode cX11_count 183 = .ok (.iaload, 1) := by decide +kernel
theorem dX11_count_184 : decode cX11_count 184 = .ok (.ireturn, 1) := by decide +kernel
theorem dX11_count_185 : decode cX11_count 185 = .ok (.aload_n 0, 1) := by decide +kernel
theorem dX11_count_186 : decode cX11_count 186 = .ok (.getfield 43, 3) := by decide +kernel
theorem dX11_count_189 : decode cX11_count 189 = .ok (.getfield 111, 3) := by decide +kernel
theorem dX11_count_192 : decode cX11_count 192 = .ok (.bipush 53, 2) := by decide +kernel
theorem dX11_count_194 : decode cX11_count 194 = .ok (.invokevirtual 146, 3) := by decide +kernel
theorem dX11_count_197 : decode cX11_count 197 = .ok (.ireturn, 1) := by decide +kernel
theorem dX11_count_198 : decode cX11_count 198 = .ok (.aload_n 0, 1) := by decide +kernel
theorem dX11_count_199 : decode cX11_count 199 = .ok (.getfield 43, 3) := by decide +kernel
theorem dX11_count_202 : decode cX11_count 202 = .ok (.getfield 111, 3) := by decide +kernel
theorem dX11_count_205 : decode cX11_count 205 = .ok (.bipush 58, 2) := by decide +kernel
theorem dX11_count_207 : decode cX11_count 207 = .ok (.invokevirtual 146, 3) := by decide +kernel
theorem dX11_count_210 : decode cX11_count 210 = .ok (.ireturn, 1) := by decide +kernel
theorem dX11_count_211 : decode cX11_count 211 = .ok (.aload_n 0, 1) := by decide +kernel
theorem dX11_count_212 : decode cX11_count 212 = .ok (.getfield 43, 3) := by decide +kernel
theorem dX11_count_215 : decode cX11_count 215 = .ok (.getfield 111, 3) := by decide +kernel
theorem dX11_count_218 : decode cX11_count 218 = .ok (.getfield 124, 3) := by decide +kernel
theorem dX11_count_221 : decode cX11_count 221 = .ok (.bipush 7, 2) := by decide +kernel
theorem dX11_count_223 : decode cX11_count 223 = .ok (.iaload, 1) := by decide +kernel
theorem dX11_count_224 : decode cX11_count 224 = .ok (.ireturn, 1) := by decide +kernel
theorem dX11_count_225 : decode cX11_count 225 = .ok (.aload_n 0, 1) := by decide +kernel
theorem dX11_count_226 : decode cX11_count 226 = .ok (.getfield 43, 3) := by decide +kernel
theorem dX11_count_229 : decode cX11_count 229 = .ok (.getfield 114, 3) := by decide +kernel
theorem dX11_count_232 : decode cX11_count 232 = .ok (.getfield 118, 3) := by decide +kernel
theorem dX11_count_235 : decode cX11_count 235 = .ok (.ireturn, 1) := by decide +kernel
theorem dX11_count_236 : decode cX11_count 236 = .ok (.aload_n 0, 1) := by decide +kernel
theorem dX11_count_237 : decode cX11_count 237 = .ok (.getfield 54, 3) := by decide +kernel
theorem dX11_count_240 : decode cX11_count 240 = .ok (.getfield 123, 3) := by decide +kernel
theorem dX11_count_243 : decode cX11_count 243 = .ok (.ireturn, 1) := by decide +kernel
theorem dX11_count_244 : decode cX11_count 244 = .ok (.aload_n 0, 1) := by decide +kernel
theorem dX11_count_245 : decode cX11_count 245 = .ok (.getfield 43, 3) := by decide +kernel
theorem dX11_count_248 : decode cX11_count 248 = .ok (.getfield 149, 3) := by decide +kernel
theorem dX11_count_251 : decode cX11_count 251 = .ok (.ireturn, 1) := by decide +kernel
theorem dX11_count_252 : decode cX11_count 252 = .ok (.aload_n 0, 1) := by decide +kernel
theorem dX11_count_253 : decode cX11_count 253 = .ok (.getfield 10, 3) := by decide +kernel
theorem dX11_count_256 : decode cX11_count 256 = .ok (.getfield 87, 3) := by decide +kernel
theorem dX11_count_259 : decode cX11_count 259 = .ok (.ireturn, 1) := by decide +kernel
theorem dX11_count_260 : decode cX11_count 260 = .ok (.iconst (-1), 1) := by decide +kernel
theorem dX11_count_261 : decode cX11_count 261 = .ok (.ireturn, 1) := by decide +kernel
theorem dX11_eased_0 : decode cX11_eased 0 = .ok (.aload_n 0, 1) := by decide +kernel
theorem dX11_eased_1 : decode cX11_eased 1 = .ok (.getfield 43, 3) := by decide +kernel
theorem dX11_eased_4 : decode cX11_eased 4 = .ok (.getfield 111, 3) := by decide +kernel
theorem dX11_eased_7 : decode cX11_eased 7 = .ok (.iload_n 1, 1) := by decide +kernel
theorem dX11_eased_8 : decode cX11_eased 8 = .ok (.invokevirtual 139, 3) := by decide +kernel
theorem dX11_eased_11 : decode cX11_eased 11 = .ok (.ifCond .ne 5, 3) := by decide +kernel
theorem dX11_eased_14 : decode cX11_eased 14 = .ok (.iconst (-1), 1) := by decide +kernel
theorem dX11_eased_15 : decode cX11_eased 15 = .ok (.ireturn, 1) := by decide +kernel
theorem dX11_eased_16 : decode cX11_eased 16 = .ok (.aload_n 0, 1) := by decide +kernel
theorem dX11_eased_17 : decode cX11_eased 17 = .ok (.getfield 61, 3) := by decide +kernel
theorem dX11_eased_20 : decode cX11_eased 20 = .ok (.aload_n 0, 1) := by decide +kernel
theorem dX11_eased_21 : decode cX11_eased 21 = .ok (.getfield 43, 3) := by decide +kernel
theorem dX11_eased_24 : decode cX11_eased 24 = .ok (.getfield 111, 3) := by decide +kernel
theorem dX11_eased_27 : decode cX11_eased 27 = .ok (.aload_n 0, 1) := by decide +kernel
theorem dX11_eased_28 : decode cX11_eased 28 = .ok (.invokevirtual 159, 3) := by decide +kernel
theorem dX11_eased_31 : decode cX11_eased 31 = .ok (.invokevirtual 162, 3) := by decide +kernel
theorem dX11_eased_34 : decode cX11_eased 34 = .ok (.aload_n 0, 1) := by decide +kernel
theorem dX11_eased_35 : decode cX11_eased 35 = .ok (.getfield 68, 3) := by decide +kernel
theorem dX11_eased_38 : decode cX11_eased 38 = .ok (.aload_n 0, 1) := by decide +kernel
theorem dX11_eased_39 : decode cX11_eased 39 = .ok (.getfield 61, 3) := by decide +kernel
theorem dX11_eased_42 : decode cX11_eased 42 = .ok (.iload_n 1, 1) := by decide +kernel
theorem dX11_eased_43 : decode cX11_eased 43 = .ok (.iload_n 1, 1) := by decide +kernel
theorem dX11_eased_44 : decode cX11_eased 44 = .ok (.invokevirtual 190, 3) := by decide +kernel
theorem dX11_eased_47 : decode cX11_eased 47 = .ok (.ireturn, 1) := by decide +kernel
theorem dX11_force_0 : decode cX11_force 0 = .ok (.iload_n 1, 1) := by decide +kernel
theorem dX11_force_1 : decode cX11_force 1 = .ok (.iconst (-1), 1) := by decide +kernel
theorem dX11_force_2 : decode cX11_force 2 = .ok (.aload_n 0, 1) := by decide +kernel
theorem dX11_force_3 : decode cX11_force 3 = .ok (.getfield 36, 3) := by decide +kernel
theorem dX11_force_6 : decode cX11_force 6 = .ok (.iconst 1, 1) := by decide +kernel
theorem dX11_force_7 : decode cX11_force 7 = .ok (.isub, 1) := by decide +kernel
theorem dX11_force_8 : decode cX11_force 8 = .ok (.invokestatic 90, 3) := by decide +kernel
theorem dX11_force_11 : decode cX11_force 11 = .ok (.ifCond .ne 6, 3) := by decide +kernel
theorem dX11_force_14 : decode cX11_force 14 = .ok (.bipush (-2), 2) := by decide +kernel
theorem dX11_force_16 : decode cX11_force 16 = .ok (.ireturn, 1) := by decide +kernel
theorem dX11_force_17 : decode cX11_force 17 = .ok (.aload_n 0, 1) := by decide +kernel
theorem dX11_force_18 : decode cX11_force 18 = .ok (.getfield 43, 3) := by decide +kernel
theorem dX11_force_21 : decode cX11_force 21 = .ok (.getfield 133, 3) := by decide +kernel
theorem dX11_force_24 : decode cX11_force 24 = .ok (.istore_n 2, 1) := by decide +kernel
theorem dX11_force_25 : decode cX11_force 25 = .ok (.aload_n 0, 1) := by decide +kernel
theorem dX11_force_26 : decode cX11_force 26 = .ok (.getfield 43, 3) := by decide +kernel
theorem dX11_force_29 : decode cX11_force 29 = .ok (.iload_n 1, 1) := by decide +kernel
theorem dX11_force_30 : decode cX11_force 30 = .ok (.putfield 133, 3) := by decide +kernel
theorem dX11_force_33 : decode cX11_force 33 = .ok (.iload_n 2, 1) := by decide +kernel
theorem dX11_force_34 : decode cX11_force 34 = .ok (.ireturn, 1) := by decide +kernel
theorem dX11_given_0 : decode cX11_given 0 = .ok (.aload_n 0, 1) := by decide +kernel
theorem dX11_given_1 : decode cX11_given 1 = .ok (.getfield 43, 3) := by decide +kernel
theorem dX11_given_4 : decode cX11_given 4 = .ok (.getfield 111, 3) := by decide +kernel
theorem dX11_given_7 : decode cX11_given 7 = .ok (.invokevirtual 152, 3) := by decide +kernel
theorem dX11_given_10 : decode cX11_given 10 = .ok (.ifCond .eq 22, 3) := by decide +kernel
theorem dX11_given_13 : decode cX11_given 13 = .ok (.iload_n 1, 1) := by decide +kernel
theorem dX11_given_14 : decode cX11_given 14 = .ok (.iconst 1, 1) := by decide +kernel
theorem dX11_given_15 : decode cX11_given 15 = .ok (.bipush 40, 2) := by decide +kernel
theorem dX11_given_17 : decode cX11_given 17 = .ok (.invokestatic 90, 3) := by decide +kernel
theorem dX11_given_20 : decode cX11_given 20 = .ok (.ifCond .eq 12, 3) := by decide +kernel
theorem dX11_given_23 : decode cX11_given 23 = .ok (.iload_n 2, 1) := by decide +kernel
theorem dX11_given_24 : decode cX11_given 24 = .ok (.iconst 0, 1) := by decide +kernel
theorem dX11_given_25 : decode cX11_given 25 = .ok (.iconst 1, 1) := by decide +kernel
theorem dX11_given_26 : decode cX11_given 26 = .ok (.invokestatic 90, 3) := by decide +kernel
theorem dX11_given_29 : decode cX11_given 29 = .ok (.ifCond .ne 6, 3) := by decide +kernel
theorem dX11_given_32 : decode cX11_given 32 = .ok (.bipush (-2), 2) := by decide +kernel
theorem dX11_given_34 : decode cX11_given 34 = .ok (.ireturn, 1) := by decide +kernel
theorem dX11_given_35 : decode cX11_given 35 = .ok (.aload_n 0, 1) := by decide +kernel
theorem dX11_given_36 : decode cX11_given 36 = .ok (.getfield 68, 3) := by decide +kernel
theorem dX11_given_39 : decode cX11_given 39 = .ok (.aload_n 0, 1) := by decide +kernel
theorem dX11_given_40 : decode cX11_given 40 = .ok (.getfield 61, 3) := by decide +kernel
theorem dX11_given_43 : decode cX11_given 43 = .ok (.aload_n 0, 1) := by decide +kernel
theorem dX11_given_44 : decode cX11_given 44 = .ok (.getfield 43, 3) := by decide +kernel
theorem dX11_given_47 : decode cX11_given 47 = .ok (.getfield 111, 3) := by decide +kernel
theorem dX11_given_50 : decode cX11_given 50 = .ok (.aload_n 0, 1) := by decide +kernel
theorem dX11_given_51 : decode cX11_given 51 = .ok (.invokevirtual 159, 3) := by decide +kernel
theorem dX11_given_54 : decode cX11_given 54 = .ok (.iload_n 1, 1) := by decide +kernel
theorem dX11_given_55 : decode cX11_given 55 = .ok (.invokevirtual 217, 3) := by decide +kernel
theorem dX11_given_58 : decode cX11_given 58 = .ok (.iload_n 2, 1) := by decide +kernel
theorem dX11_given_59 : decode cX11_given 59 = .ok (.ifCond .ne 13, 3) := by decide +kernel
theorem dX11_given_62 : decode cX11_given 62 = .ok (.aload_n 0, 1) := by decide +kernel
theorem dX11_given_63 : decode cX11_given 63 = .ok (.getfield 68, 3) := by decide +kernel
theorem dX11_given_66 : decode cX11_given 66 = .ok (.getfield 211, 3) := by decide +kernel
theorem dX11_given_69 : decode cX11_given 69 = .ok (.goto 10, 3) := by decide +kernel
theorem dX11_given_72 : decode cX11_given 72 = .ok (.aload_n 0, 1) := by decide +kernel
theorem dX11_given_73 : decode cX11_given 73 = .ok (.getfield 68, 3) := by decide +kernel
theorem dX11_given_76 : decode cX11_given 76 = .ok (.getfield 214, 3) := by decide +kernel
theorem dX11_given_79 : decode cX11_given 79 = .ok (.ireturn, 1) := by decide +kernel
theorem dX11_green_0 : decode cX11_green 0 = .ok (.aload_n 0, 1) := by decide +kernel
theorem dX11_green_1 : decode cX11_green 1 = .ok (.getfield 19, 3) := by decide +kernel
theorem dX11_green_4 : decode cX11_green 4 = .ok (.aload_n 0, 1) := by decide +kernel
theorem dX11_green_5 : decode cX11_green 5 = .ok (.getfield 10, 3) := by decide +kernel
theorem dX11_green_8 : decode cX11_green 8 = .ok (.invokevirtual 94, 3) := by decide +kernel
theorem dX11_green_11 : decode cX11_green 11 = .ok (.istore_n 1, 1) := by decide +kernel
theorem dX11_green_12 : decode cX11_green 12 = .ok (.iload_n 1, 1) := by decide +kernel
theorem dX11_green_13 : decode cX11_green 13 = .ok (.ifCond .eq 8, 3) := by decide +kernel
theorem dX11_green_16 : decode cX11_green 16 = .ok (.bipush (-2), 2) := by decide +kernel
theorem dX11_green_18 : decode cX11_green 18 = .ok (.iload_n 1, 1) := by decide +kernel
theorem dX11_green_19 : decode cX11_green 19 = .ok (.isub, 1) := by decide +kernel
theorem dX11_green_20 : decode cX11_green 20 = .ok (.ireturn, 1) := by decide +kernel
theorem dX11_green_21 : decode cX11_green 21 = .ok (.aload_n 0, 1) := by decide +kernel
theorem dX11_green_22 : decode cX11_green 22 = .ok (.getfield 43, 3) := by decide +kernel
theorem dX11_green_25 : decode cX11_green 25 = .ok (.getfield 98, 3) := by decide +kernel
theorem dX11_green_28 : decode cX11_green 28 = .ok (.aload_n 0, 1) := by decide +kernel
theorem dX11_green_29 : decode cX11_green 29 = .ok (.getfield 19, 3) := by decide +kernel
theorem dX11_green_32 : decode cX11_green 32 = .ok (.getfield 102, 3) := by decide +kernel
theorem dX11_green_35 : decode cX11_green 35 = .ok (.invokevirtual 105, 3) := by decide +kernel
theorem dX11_green_38 : decode cX11_green 38 = .ok (.aload_n 0, 1) := by decide +kernel
theorem dX11_green_39 : decode cX11_green 39 = .ok (.getfield 43, 3) := by decide +kernel
theorem dX11_green_42 : decode cX11_green 42 = .ok (.getfield 111, 3) := by decide +kernel
theorem dX11_green_45 : decode cX11_green 45 = .ok (.aload_n 0, 1) := by decide +kernel
theorem dX11_green_46 : decode cX11_green 46 = .ok (.getfield 19, 3) := by decide +kernel
theorem dX11_green_49 : decode cX11_green 49 = .ok (.getfield 102, 3) := by decide +kernel
theorem dX11_green_52 : decode cX11_green 52 = .ok (.invokevirtual 105, 3) := by decide +kernel
theorem dX11_green_55 : decode cX11_green 55 = .ok (.aload_n 0, 1) := by decide +kernel
theorem dX11_green_56 : decode cX11_green 56 = .ok (.getfield 43, 3) := by decide +kernel
theorem dX11_green_59 : decode cX11_green 59 = .ok (.getfield 114, 3) := by decide +kernel
theorem dX11_green_62 : decode cX11_green 62 = .ok (.iconst 0, 1) := by decide +kernel
theorem dX11_green_63 : decode cX11_green 63 = .ok (.putfield 118, 3) := by decide +kernel
theorem dX11_green_66 : decode cX11_green 66 = .ok (.aload_n 0, 1) := by decide +kernel
theorem dX11_green_67 : decode cX11_green 67 = .ok (.getfield 54, 3) := by decide +kernel
theorem dX11_green_70 : decode cX11_green 70 = .ok (.iconst 0, 1) := by decide +kernel
theorem dX11_green_71 : decode cX11_green 71 = .ok (.putfield 123, 3) := by decide +kernel
theorem dX11_green_74 : decode cX11_green 74 = .ok (.aload_n 0, 1) := by decide +kernel
theorem dX11_green_75 : decode cX11_green 75 = .ok (.getfield 10, 3) := by decide +kernel
theorem dX11_green_78 : decode cX11_green 78 = .ok (.iconst 0, 1) := by decide +kernel
theorem dX11_green_79 : decode cX11_green 79 = .ok (.putfield 87, 3) := by decide +kernel
theorem dX11_green_82 : decode cX11_green 82 = .ok (.aload_n 0, 1) := by decide +kernel
theorem dX11_green_83 : decode cX11_green 83 = .ok (.getfield 43, 3) := by decide +kernel
