theorem dX11_row_0 : decode cX11_row 0 = .ok (.aload_n 0, 1) := by decide +kernel
theorem dX11_row_1 : decode cX11_row 1 = .ok (.getfield 43, 3) := by decide +kernel
theorem dX11_row_4 : decode cX11_row 4 = .ok (.getfield 111, 3) := by decide +kernel
theorem dX11_row_7 : decode cX11_row 7 = .ok (.iload_n 1, 1) := by decide +kernel
theorem dX11_row_8 : decode cX11_row 8 = .ok (.invokevirtual 139, 3) := by decide +kernel
theorem dX11_row_11 : decode cX11_row 11 = .ok (.ifCond .eq 21, 3) := by decide +kernel
theorem dX11_row_14 : decode cX11_row 14 = .ok (.iload_n 2, 1) := by decide +kernel
theorem dX11_row_15 : decode cX11_row 15 = .ok (.iconst 1, 1) := by decide +kernel
theorem dX11_row_16 : decode cX11_row 16 = .ok (.iconst 5, 1) := by decide +kernel
theorem dX11_row_17 : decode cX11_row 17 = .ok (.invokestatic 90, 3) := by decide +kernel
theorem dX11_row_20 : decode cX11_row 20 = .ok (.ifCond .eq 12, 3) := by decide +kernel
theorem dX11_row_23 : decode cX11_row 23 = .ok (.iload_n 3, 1) := by decide +kernel
theorem dX11_row_24 : decode cX11_row 24 = .ok (.iconst 0, 1) := by decide +kernel
theorem dX11_row_25 : decode cX11_row 25 = .ok (.iconst 5, 1) := by decide +kernel
theorem dX11_row_26 : decode cX11_row 26 = .ok (.invokestatic 90, 3) := by decide +kernel
theorem dX11_row_29 : decode cX11_row 29 = .ok (.ifCond .ne 6, 3) := by decide +kernel
theorem dX11_row_32 : decode cX11_row 32 = .ok (.bipush (-3), 2) := by decide +kernel
theorem dX11_row_34 : decode cX11_row 34 = .ok (.ireturn, 1) := by decide +kernel
theorem dX11_row_35 : decode cX11_row 35 = .ok (.aload_n 0, 1) := by decide +kernel
theorem dX11_row_36 : decode cX11_row 36 = .ok (.getfield 43, 3) := by decide +kernel
theorem dX11_row_39 : decode cX11_row 39 = .ok (.getfield 111, 3) := by decide +kernel
theorem dX11_row_42 : decode cX11_row 42 = .ok (.getfield 124, 3) := by decide +kernel
theorem dX11_row_45 : decode cX11_row 45 = .ok (.bipush 58, 2) := by decide +kernel
theorem dX11_row_47 : decode cX11_row 47 = .ok (.iload_n 1, 1) := by decide +kernel
theorem dX11_row_48 : decode cX11_row 48 = .ok (.iadd, 1) := by decide +kernel
theorem dX11_row_49 : decode cX11_row 49 = .ok (.iaload, 1) := by decide +kernel
theorem dX11_row_50 : decode cX11_row 50 = .ok (.iconst 1, 1) := by decide +kernel
theorem dX11_row_51 : decode cX11_row 51 = .ok (.if_icmp .ge 6, 3) := by decide +kernel
theorem dX11_row_54 : decode cX11_row 54 = .ok (.bipush (-3), 2) := by decide +kernel
theorem dX11_row_56 : decode cX11_row 56 = .ok (.ireturn, 1) := by decide +kernel
theorem dX11_row_57 : decode cX11_row 57 = .ok (.iload_n 3, 1) := by decide +kernel
theorem dX11_row_58 : decode cX11_row 58 = .ok (.iload_n 2, 1) := by decide +kernel
theorem dX11_row_59 : decode cX11_row 59 = .ok (.if_icmp .le 8, 3) := by decide +kernel
theorem dX11_row_62 : decode cX11_row 62 = .ok (.bipush (-2), 2) := by decide +kernel
theorem dX11_row_64 : decode cX11_row 64 = .ok (.goto 20, 3) := by decide +kernel
theorem dX11_row_67 : decode cX11_row 67 = .ok (.aload_n 0, 1) := by decide +kernel
theorem dX11_row_68 : decode cX11_row 68 = .ok (.getfield 68, 3) := by decide +kernel
theorem dX11_row_71 : decode cX11_row 71 = .ok (.aload_n 0, 1) := by decide +kernel
theorem dX11_row_72 : decode cX11_row 72 = .ok (.getfield 43, 3) := by decide +kernel
theorem dX11_row_75 : decode cX11_row 75 = .ok (.getfield 111, 3) := by decide +kernel
theorem dX11_row_78 : decode cX11_row 78 = .ok (.iload_n 1, 1) := by decide +kernel
theorem dX11_row_79 : decode cX11_row 79 = .ok (.iload_n 2, 1) := by decide +kernel
theorem dX11_row_80 : decode cX11_row 80 = .ok (.iload_n 3, 1) := by decide +kernel
theorem dX11_row_81 : decode cX11_row 81 = .ok (.invokevirtual 200, 3) := by decide +kernel
theorem dX11_row_84 : decode cX11_row 84 = .ok (.ireturn, 1) := by decide +kernel
theorem dX11_set_0 : decode cX11_set 0 = .ok (.aload_n 0, 1) := by decide +kernel
theorem dX11_set_1 : decode cX11_set 1 = .ok (.getfield 43, 3) := by decide +kernel
theorem dX11_set_4 : decode cX11_set 4 = .ok (.getfield 111, 3) := by decide +kernel
theorem dX11_set_7 : decode cX11_set 7 = .ok (.iload_n 1, 1) := by decide +kernel
theorem dX11_set_8 : decode cX11_set 8 = .ok (.invokevirtual 136, 3) := by decide +kernel
theorem dX11_set_11 : decode cX11_set 11 = .ok (.ifCond .eq 22, 3) := by decide +kernel
theorem dX11_set_14 : decode cX11_set 14 = .ok (.iload_n 2, 1) := by decide +kernel
theorem dX11_set_15 : decode cX11_set 15 = .ok (.iconst 1, 1) := by decide +kernel
theorem dX11_set_16 : decode cX11_set 16 = .ok (.bipush 40, 2) := by decide +kernel
theorem dX11_set_18 : decode cX11_set 18 = .ok (.invokestatic 90, 3) := by decide +kernel
theorem dX11_set_21 : decode cX11_set 21 = .ok (.ifCond .eq 12, 3) := by decide +kernel
theorem dX11_set_24 : decode cX11_set 24 = .ok (.iload_n 3, 1) := by decide +kernel
theorem dX11_set_25 : decode cX11_set 25 = .ok (.iconst 0, 1) := by decide +kernel
theorem dX11_set_26 : decode cX11_set 26 = .ok (.iconst 1, 1) := by decide +kernel
theorem dX11_set_27 : decode cX11_set 27 = .ok (.invokestatic 90, 3) := by decide +kernel
theorem dX11_set_30 : decode cX11_set 30 = .ok (.ifCond .ne 5, 3) := by decide +kernel
theorem dX11_set_33 : decode cX11_set 33 = .ok (.iconst (-1), 1) := by decide +kernel
theorem dX11_set_34 : decode cX11_set 34 = .ok (.ireturn, 1) := by decide +kernel
theorem dX11_set_35 : decode cX11_set 35 = .ok (.aload_n 0, 1) := by decide +kernel
theorem dX11_set_36 : decode cX11_set 36 = .ok (.getfield 68, 3) := by decide +kernel
theorem dX11_set_39 : decode cX11_set 39 = .ok (.aload_n 0, 1) := by decide +kernel
theorem dX11_set_40 : decode cX11_set 40 = .ok (.getfield 61, 3) := by decide +kernel
theorem dX11_set_43 : decode cX11_set 43 = .ok (.aload_n 0, 1) := by decide +kernel
theorem dX11_set_44 : decode cX11_set 44 = .ok (.getfield 43, 3) := by decide +kernel
theorem dX11_set_47 : decode cX11_set 47 = .ok (.getfield 111, 3) := by decide +kernel
theorem dX11_set_50 : decode cX11_set 50 = .ok (.aload_n 0, 1) := by decide +kernel
theorem dX11_set_51 : decode cX11_set 51 = .ok (.invokevirtual 159, 3) := by decide +kernel
theorem dX11_set_54 : decode cX11_set 54 = .ok (.iload_n 1, 1) := by decide +kernel
theorem dX11_set_55 : decode cX11_set 55 = .ok (.iload_n 2, 1) := by decide +kernel
theorem dX11_set_56 : decode cX11_set 56 = .ok (.invokevirtual 207, 3) := by decide +kernel
theorem dX11_set_59 : decode cX11_set 59 = .ok (.iload_n 3, 1) := by decide +kernel
theorem dX11_set_60 : decode cX11_set 60 = .ok (.ifCond .ne 13, 3) := by decide +kernel
theorem dX11_set_63 : decode cX11_set 63 = .ok (.aload_n 0, 1) := by decide +kernel
theorem dX11_set_64 : decode cX11_set 64 = .ok (.getfield 68, 3) := by decide +kernel
theorem dX11_set_67 : decode cX11_set 67 = .ok (.getfield 211, 3) := by decide +kernel
theorem dX11_set_70 : decode cX11_set 70 = .ok (.goto 10, 3) := by decide +kernel
theorem dX11_set_73 : decode cX11_set 73 = .ok (.aload_n 0, 1) := by decide +kernel
theorem dX11_set_74 : decode cX11_set 74 = .ok (.getfield 68, 3) := by decide +kernel
theorem dX11_set_77 : decode cX11_set 77 = .ok (.getfield 214, 3) := by decide +kernel
theorem dX11_set_80 : decode cX11_set 80 = .ok (.ireturn, 1) := by decide +kernel
theorem dX11_ails_0 : decode cX11_ails 0 = .ok (.aload_n 0, 1) := by decide +kernel
theorem dX11_ails_1 : decode cX11_ails 1 = .ok (.getfield 43, 3) := by decide +kernel
theorem dX11_ails_4 : decode cX11_ails 4 = .ok (.getfield 111, 3) := by decide +kernel
theorem dX11_ails_7 : decode cX11_ails 7 = .ok (.iload_n 1, 1) := by decide +kernel
theorem dX11_ails_8 : decode cX11_ails 8 = .ok (.invokevirtual 139, 3) := by decide +kernel
theorem dX11_ails_11 : decode cX11_ails 11 = .ok (.ifCond .ne 5, 3) := by decide +kernel
theorem dX11_ails_14 : decode cX11_ails 14 = .ok (.iconst (-1), 1) := by decide +kernel
theorem dX11_ails_15 : decode cX11_ails 15 = .ok (.ireturn, 1) := by decide +kernel
theorem dX11_ails_16 : decode cX11_ails 16 = .ok (.aload_n 0, 1) := by decide +kernel
theorem dX11_ails_17 : decode cX11_ails 17 = .ok (.getfield 43, 3) := by decide +kernel
theorem dX11_ails_20 : decode cX11_ails 20 = .ok (.getfield 111, 3) := by decide +kernel
theorem dX11_ails_23 : decode cX11_ails 23 = .ok (.getfield 124, 3) := by decide +kernel
theorem dX11_ails_26 : decode cX11_ails 26 = .ok (.iconst 3, 1) := by decide +kernel
theorem dX11_ails_27 : decode cX11_ails 27 = .ok (.iaload, 1) := by decide +kernel
theorem dX11_ails_28 : decode cX11_ails 28 = .ok (.iconst 1, 1) := by decide +kernel
theorem dX11_ails_29 : decode cX11_ails 29 = .ok (.isub, 1) := by decide +kernel
theorem dX11_ails_30 : decode cX11_ails 30 = .ok (.istore_n 2, 1) := by decide +kernel
theorem dX11_ails_31 : decode cX11_ails 31 = .ok (.aload_n 0, 1) := by decide +kernel
theorem dX11_ails_32 : decode cX11_ails 32 = .ok (.getfield 75, 3) := by decide +kernel
theorem dX11_ails_35 : decode cX11_ails 35 = .ok (.aload_n 0, 1) := by decide +kernel
theorem dX11_ails_36 : decode cX11_ails 36 = .ok (.getfield 61, 3) := by decide +kernel
theorem dX11_ails_39 : decode cX11_ails 39 = .ok (.aload_n 0, 1) := by decide +kernel
theorem dX11_ails_40 : decode cX11_ails 40 = .ok (.getfield 43, 3) := by decide +kernel
theorem dX11_ails_43 : decode cX11_ails 43 = .ok (.aload_n 0, 1) := by decide +kernel
theorem dX11_ails_44 : decode cX11_ails 44 = .ok (.invokevirtual 159, 3) := by decide +kernel
theorem dX11_ails_47 : decode cX11_ails 47 = .ok (.bipush 38, 2) := by decide +kernel
theorem dX11_ails_49 : decode cX11_ails 49 = .ok (.iload_n 1, 1) := by decide +kernel
theorem dX11_ails_50 : decode cX11_ails 50 = .ok (.iadd, 1) := by decide +kernel
theorem dX11_ails_51 : decode cX11_ails 51 = .ok (.iconst 0, 1) := by decide +kernel
theorem dX11_ails_52 : decode cX11_ails 52 = .ok (.iload_n 2, 1) := by decide +kernel
theorem dX11_ails_53 : decode cX11_ails 53 = .ok (.invokevirtual 239, 3) := by decide +kernel
theorem dX11_ails_56 : decode cX11_ails 56 = .ok (.ireturn, 1) := by decide +kernel
theorem dX11_back_0 : decode cX11_back 0 = .ok (.iload_n 1, 1) := by decide +kernel
theorem dX11_back_1 : decode cX11_back 1 = .ok (.iconst 0, 1) := by decide +kernel
theorem dX11_back_2 : decode cX11_back 2 = .ok (.iconst 3, 1) := by decide +kernel
theorem dX11_back_3 : decode cX11_back 3 = .ok (.invokestatic 90, 3) := by decide +kernel
theorem dX11_back_6 : decode cX11_back 6 = .ok (.ifCond .eq 15, 3) := by decide +kernel
theorem dX11_back_9 : decode cX11_back 9 = .ok (.aload_n 0, 1) := by decide +kernel
theorem dX11_back_10 : decode cX11_back 10 = .ok (.getfield 47, 3) := by decide +kernel
theorem dX11_back_13 : decode cX11_back 13 = .ok (.iload_n 1, 1) := by decide +kernel
theorem dX11_back_14 : decode cX11_back 14 = .ok (.aaload, 1) := by decide +kernel
theorem dX11_back_15 : decode cX11_back 15 = .ok (.getfield 273, 3) := by decide +kernel
theorem dX11_back_18 : decode cX11_back 18 = .ok (.ifCond .ne 5, 3) := by decide +kernel
theorem dX11_back_21 : decode cX11_back 21 = .ok (.iconst (-1), 1) := by decide +kernel
theorem dX11_back_22 : decode cX11_back 22 = .ok (.ireturn, 1) := by decide +kernel
theorem dX11_back_23 : decode cX11_back 23 = .ok (.aload_n 0, 1) := by decide +kernel
theorem dX11_back_24 : decode cX11_back 24 = .ok (.getfield 43, 3) := by decide +kernel
theorem dX11_back_27 : decode cX11_back 27 = .ok (.aload_n 0, 1) := by decide +kernel
theorem dX11_back_28 : decode cX11_back 28 = .ok (.getfield 47, 3) := by decide +kernel
theorem dX11_back_31 : decode cX11_back 31 = .ok (.iload_n 1, 1) := by decide +kernel
theorem dX11_back_32 : decode cX11_back 32 = .ok (.aaload, 1) := by decide +kernel
theorem dX11_back_33 : decode cX11_back 33 = .ok (.invokevirtual 270, 3) := by decide +kernel
theorem dX11_back_36 : decode cX11_back 36 = .ok (.aload_n 0, 1) := by decide +kernel
theorem dX11_back_37 : decode cX11_back 37 = .ok (.getfield 54, 3) := by decide +kernel
theorem dX11_back_40 : decode cX11_back 40 = .ok (.iconst 0, 1) := by decide +kernel
theorem dX11_back_41 : decode cX11_back 41 = .ok (.putfield 123, 3) := by decide +kernel
theorem dX11_back_44 : decode cX11_back 44 = .ok (.aload_n 0, 1) := by decide +kernel
theorem dX11_back_45 : decode cX11_back 45 = .ok (.getfield 43, 3) := by decide +kernel
theorem dX11_back_48 : decode cX11_back 48 = .ok (.getfield 111, 3) := by decide +kernel
theorem dX11_back_51 : decode cX11_back 51 = .ok (.getfield 124, 3) := by decide +kernel
theorem dX11_back_54 : decode cX11_back 54 = .ok (.iconst 5, 1) := by decide +kernel
theorem dX11_back_55 : decode cX11_back 55 = .ok (.iaload, 1) := by decide +kernel
theorem dX11_back_56 : decode cX11_back 56 = .ok (.ireturn, 1) := by decide +kernel
theorem dX11_down_0 : decode cX11_down 0 = .ok (.aload_n 0, 1) := by decide +kernel
theorem dX11_down_1 : decode cX11_down 1 = .ok (.getfield 43, 3) := by decide +kernel
theorem dX11_down_4 : decode cX11_down 4 = .ok (.getfield 111, 3) := by decide +kernel
theorem dX11_down_7 : decode cX11_down 7 = .ok (.astore_n 3, 1) := by decide +kernel
theorem dX11_down_8 : decode cX11_down 8 = .ok (.aload_n 3, 1) := by decide +kernel
theorem dX11_down_9 : decode cX11_down 9 = .ok (.iload_n 1, 1) := by decide +kernel
theorem dX11_down_10 : decode cX11_down 10 = .ok (.invokevirtual 139, 3) := by decide +kernel
theorem dX11_down_13 : decode cX11_down 13 = .ok (.ifCond .eq 11, 3) := by decide +kernel
theorem dX11_down_16 : decode cX11_down 16 = .ok (.aload_n 3, 1) := by decide +kernel
theorem dX11_down_17 : decode cX11_down 17 = .ok (.iload_n 2, 1) := by decide +kernel
theorem dX11_down_18 : decode cX11_down 18 = .ok (.invokevirtual 136, 3) := by decide +kernel
theorem dX11_down_21 : decode cX11_down 21 = .ok (.ifCond .ne 5, 3) := by decide +kernel
theorem dX11_down_24 : decode cX11_down 24 = .ok (.iconst (-1), 1) := by decide +kernel
theorem dX11_down_25 : decode cX11_down 25 = .ok (.ireturn, 1) := by decide +kernel
theorem dX11_down_26 : decode cX11_down 26 = .ok (.aload_n 3, 1) := by decide +kernel
theorem dX11_down_27 : decode cX11_down 27 = .ok (.iload_n 1, 1) := by decide +kernel
theorem dX11_down_28 : decode cX11_down 28 = .ok (.iload_n 2, 1) := by decide +kernel
theorem dX11_down_29 : decode cX11_down 29 = .ok (.aload_n 3, 1) := by decide +kernel
theorem dX11_down_30 : decode cX11_down 30 = .ok (.aload_n 3, 1) := by decide +kernel
theorem dX11_down_31 : decode cX11_down 31 = .ok (.getfield 124, 3) := by decide +kernel
theorem dX11_down_34 : decode cX11_down 34 = .ok (.bipush 6, 2) := by decide +kernel
theorem dX11_down_36 : decode cX11_down 36 = .ok (.iaload, 1) := by decide +kernel
theorem dX11_down_37 : decode cX11_down 37 = .ok (.invokevirtual 142, 3) := by decide +kernel
theorem dX11_down_40 : decode cX11_down 40 = .ok (.invokevirtual 194, 3) := by decide +kernel
theorem dX11_down_43 : decode cX11_down 43 = .ok (.invokestatic 175, 3) := by decide +kernel
theorem dX11_down_46 : decode cX11_down 46 = .ok (.ireturn, 1) := by decide +kernel
theorem dX11_hold_0 : decode cX11_hold 0 = .ok (.aload_n 0, 1) := by decide +kernel
theorem dX11_hold_1 : decode cX11_hold 1 = .ok (.getfield 43, 3) := by decide +kernel
theorem dX11_hold_4 : decode cX11_hold 4 = .ok (.getfield 111, 3) := by decide +kernel
theorem dX11_hold_7 : decode cX11_hold 7 = .ok (.astore_n 2, 1) := by decide +kernel
theorem dX11_hold_8 : decode cX11_hold 8 = .ok (.aload_n 2, 1) := by decide +kernel
theorem dX11_hold_9 : decode cX11_hold 9 = .ok (.iload_n 1, 1) := by decide +kernel
theorem dX11_hold_10 : decode cX11_hold 10 = .ok (.invokevirtual 139, 3) := by decide +kernel
theorem dX11_hold_13 : decode cX11_hold 13 = .ok (.ifCond .ne 5, 3) := by decide +kernel
theorem dX11_hold_16 : decode cX11_hold 16 = .ok (.iconst (-1), 1) := by decide +kernel
theorem dX11_hold_17 : decode cX11_hold 17 = .ok (.ireturn, 1) := by decide +kernel
theorem dX11_hold_18 : decode cX11_hold 18 = .ok (.aload_n 2, 1) := by decide +kernel
theorem dX11_hold_19 : decode cX11_hold 19 = .ok (.getfield 124, 3) := by decide +kernel
theorem dX11_hold_22 : decode cX11_hold 22 = .ok (.bipush 6, 2) := by decide +kernel
theorem dX11_hold_24 : decode cX11_hold 24 = .ok (.iaload, 1) := by decide +kernel
theorem dX11_hold_25 : decode cX11_hold 25 = .ok (.istore_n 3, 1) := by decide +kernel
theorem dX11_hold_26 : decode cX11_hold 26 = .ok (.iconst 0, 1) := by decide +kernel
theorem dX11_hold_27 : decode cX11_hold 27 = .ok (.istore 4, 2) := by decide +kernel
theorem dX11_hold_29 : decode cX11_hold 29 = .ok (.iload 4, 2) := by decide +kernel
theorem dX11_hold_31 : decode cX11_hold 31 = .ok (.bipush 60, 2) := by decide +kernel
theorem dX11_hold_33 : decode cX11_hold 33 = .ok (.if_icmp .gt 28, 3) := by decide +kernel
theorem dX11_hold_36 : decode cX11_hold 36 = .ok (.aload_n 2, 1) := by decide +kernel
theorem dX11_hold_37 : decode cX11_hold 37 = .ok (.iload_n 1, 1) := by decide +kernel
theorem dX11_hold_38 : decode cX11_hold 38 = .ok (.aload_n 2, 1) := by decide +kernel
theorem dX11_hold_39 : decode cX11_hold 39 = .ok (.iload_n 3, 1) := by decide +kernel
theorem dX11_hold_40 : decode cX11_hold 40 = .ok (.iload 4, 2) := by decide +kernel
theorem dX11_hold_42 : decode cX11_hold 42 = .ok (.iadd, 1) := by decide +kernel
theorem dX11_hold_43 : decode cX11_hold 43 = .ok (.invokevirtual 142, 3) := by decide +kernel
theorem dX11_hold_46 : decode cX11_hold 46 = .ok (.invokevirtual 204, 3) := by decide +kernel
theorem dX11_hold_49 : decode cX11_hold 49 = .ok (.ifCond .ne 6, 3) := by decide +kernel
theorem dX11_hold_52 : decode cX11_hold 52 = .ok (.iload 4, 2) := by decide +kernel
theorem dX11_hold_54 : decode cX11_hold 54 = .ok (.ireturn, 1) := by decide +kernel
theorem dX11_hold_55 : decode cX11_hold 55 = .ok (.iinc 4 1, 3) := by decide +kernel
theorem dX11_hold_58 : decode cX11_hold 58 = .ok (.goto (-29), 3) := by decide +kernel
theorem dX11_hold_61 : decode cX11_hold 61 = .ok (.bipush (-2), 2) := by decide +kernel
theorem dX11_hold_63 : decode cX11_hold 63 = .ok (.ireturn, 1) := by decide +kernel
theorem dX11_look_0 : decode cX11_look 0 = .ok (.aload_n 0, 1) := by decide +kernel
theorem dX11_look_1 : decode cX11_look 1 = .ok (.getfield 43, 3) := by decide +kernel
theorem dX11_look_4 : decode cX11_look 4 = .ok (.getfield 111, 3) := by decide +kernel
theorem dX11_look_7 : decode cX11_look 7 = .ok (.invokevirtual 152, 3) := by decide +kernel
theorem dX11_look_10 : decode cX11_look 10 = .ok (.ifCond .eq 22, 3) := by decide +kernel
theorem dX11_look_13 : decode cX11_look 13 = .ok (.iload_n 1, 1) := by decide +kernel
theorem dX11_look_14 : decode cX11_look 14 = .ok (.iconst 0, 1) := by decide +kernel
theorem dX11_look_15 : decode cX11_look 15 = .ok (.bipush 40, 2) := by decide +kernel
theorem dX11_look_17 : decode cX11_look 17 = .ok (.invokestatic 90, 3) := by decide +kernel
theorem dX11_look_20 : decode cX11_look 20 = .ok (.ifCond .eq 12, 3) := by decide +kernel
theorem dX11_look_23 : decode cX11_look 23 = .ok (.iload_n 2, 1) := by decide +kernel
theorem dX11_look_24 : decode cX11_look 24 = .ok (.iconst 0, 1) := by decide +kernel
theorem dX11_look_25 : decode cX11_look 25 = .ok (.iconst 1, 1) := by decide +kernel
theorem dX11_look_26 : decode cX11_look 26 = .ok (.invokestatic 90, 3) := by decide +kernel
theorem dX11_look_29 : decode cX11_look 29 = .ok (.ifCond .ne 5, 3) := by decide +kernel
theorem dX11_look_32 : decode cX11_look 32 = .ok (.iconst (-1), 1) := by decide +kernel
theorem dX11_look_33 : decode cX11_look 33 = .ok (.ireturn, 1) := by decide +kernel
theorem dX11_look_34 : decode cX11_look 34 = .ok (.aload_n 0, 1) := by decide +kernel
theorem dX11_look_35 : decode cX11_look 35 = .ok (.getfield 75, 3) := by decide +kernel
theorem dX11_look_38 : decode cX11_look 38 = .ok (.aload_n 0, 1) := by decide +kernel
theorem dX11_look_39 : decode cX11_look 39 = .ok (.getfield 61, 3) := by decide +kernel
theorem dX11_look_42 : decode cX11_look 42 = .ok (.aload_n 0, 1) := by decide +kernel
theorem dX11_look_43 : decode cX11_look 43 = .ok (.getfield 43, 3) := by decide +kernel
theorem dX11_look_46 : decode cX11_look 46 = .ok (.aload_n 0, 1) := by decide +kernel
theorem dX11_look_47 : decode cX11_look 47 = .ok (.getfield 32, 3) := by decide +kernel
theorem dX11_look_50 : decode cX11_look 50 = .ok (.aload_n 0, 1) := by decide +kernel
theorem dX11_look_51 : decode cX11_look 51 = .ok (.getfield 36, 3) := by decide +kernel
theorem dX11_look_54 : decode cX11_look 54 = .ok (.iload_n 1, 1) := by decide +kernel
theorem dX11_look_55 : decode cX11_look 55 = .ok (.invokevirtual 243, 3) := by decide +kernel
theorem dX11_look_58 : decode cX11_look 58 = .ok (.aload_n 0, 1) := by decide +kernel
theorem dX11_look_59 : decode cX11_look 59 = .ok (.getfield 43, 3) := by decide +kernel
theorem dX11_look_62 : decode cX11_look 62 = .ok (.getfield 111, 3) := by decide +kernel
theorem dX11_look_65 : decode cX11_look 65 = .ok (.getfield 124, 3) := by decide +kernel
theorem dX11_look_68 : decode cX11_look 68 = .ok (.iconst 4, 1) := by decide +kernel
theorem dX11_look_69 : decode cX11_look 69 = .ok (.iaload, 1) := by decide +kernel
theorem dX11_look_70 : decode cX11_look 70 = .ok (.istore_n 3, 1) := by decide +kernel
theorem dX11_look_71 : decode cX11_look 71 = .ok (.aload_n 0, 1) := by decide +kernel
theorem dX11_look_72 : decode cX11_look 72 = .ok (.getfield 75, 3) := by decide +kernel
theorem dX11_look_75 : decode cX11_look 75 = .ok (.getfield 247, 3) := by decide +kernel
theorem dX11_look_78 : decode cX11_look 78 = .ok (.ifCond .eq 7, 3) := by decide +kernel
theorem dX11_look_81 : decode cX11_look 81 = .ok (.iload_n 3, 1) := by decide +kernel
theorem dX11_look_82 : decode cX11_look 82 = .ok (.ifCond .ne 6, 3) := by decide +kernel
theorem dX11_look_85 : decode cX11_look 85 = .ok (.bipush (-2), 2) := by decide +kernel
theorem dX11_look_87 : decode cX11_look 87 = .ok (.ireturn, 1) := by decide +kernel
theorem dX11_look_88 : decode cX11_look 88 = .ok (.aload_n 0, 1) := by decide +kernel
theorem dX11_look_89 : decode cX11_look 89 = .ok (.getfield 75, 3) := by decide +kernel
theorem dX11_look_92 : decode cX11_look 92 = .ok (.iload_n 3, 1) := by decide +kernel
theorem dX11_look_93 : decode cX11_look 93 = .ok (.invokevirtual 253, 3) := by decide +kernel
theorem dX11_look_96 : decode cX11_look 96 = .ok (.istore 4, 2) := by decide +kernel
theorem dX11_look_98 : decode cX11_look 98 = .ok (.iload_n 2, 1) := by decide +kernel
theorem dX11_look_99 : decode cX11_look 99 = .ok (.ifCond .ne 8, 3) := by decide +kernel
theorem dX11_look_102 : decode cX11_look 102 = .ok (.iload 4, 2) := by decide +kernel
theorem dX11_look_104 : decode cX11_look 104 = .ok (.goto 12, 3) := by decide +kernel
theorem dX11_look_107 : decode cX11_look 107 = .ok (.aload_n 0, 1) := by decide +kernel
theorem dX11_look_108 : decode cX11_look 108 = .ok (.getfield 75, 3) := by decide +kernel
theorem dX11_look_111 : decode cX11_look 111 = .ok (.iload 4, 2) := by decide +kernel
theorem dX11_look_113 : decode cX11_look 113 = .ok (.invokevirtual 256, 3) := by decide +kernel
theorem dX11_look_116 : decode cX11_look 116 = .ok (.ireturn, 1) := by decide +kernel
theorem dX11_pull_0 : decode cX11_pull 0 = .ok (.aload_n 0, 1) := by decide +kernel
theorem dX11_pull_1 : decode cX11_pull 1 = .ok (.getfield 43, 3) := by decide +kernel
theorem dX11_pull_4 : decode cX11_pull 4 = .ok (.getfield 111, 3) := by decide +kernel
theorem dX11_pull_7 : decode cX11_pull 7 = .ok (.astore_n 3, 1) := by decide +kernel
theorem dX11_pull_8 : decode cX11_pull 8 = .ok (.aload_n 3, 1) := by decide +kernel
theorem dX11_pull_9 : decode cX11_pull 9 = .ok (.iload_n 1, 1) := by decide +kernel
theorem dX11_pull_10 : decode cX11_pull 10 = .ok (.invokevirtual 136, 3) := by decide +kernel
theorem dX11_pull_13 : decode cX11_pull 13 = .ok (.ifCond .eq 24, 3) := by decide +kernel
theorem dX11_pull_16 : decode cX11_pull 16 = .ok (.aload_n 3, 1) := by decide +kernel
theorem dX11_pull_17 : decode cX11_pull 17 = .ok (.iload_n 2, 1) := by decide +kernel
theorem dX11_pull_18 : decode cX11_pull 18 = .ok (.invokevirtual 139, 3) := by decide +kernel
theorem dX11_pull_21 : decode cX11_pull 21 = .ok (.ifCond .eq 16, 3) := by decide +kernel
theorem dX11_pull_24 : decode cX11_pull 24 = .ok (.aload_n 3, 1) := by decide +kernel
theorem dX11_pull_25 : decode cX11_pull 25 = .ok (.getfield 124, 3) := by decide +kernel
theorem dX11_pull_28 : decode cX11_pull 28 = .ok (.bipush 32, 2) := by decide +kernel
theorem dX11_pull_30 : decode cX11_pull 30 = .ok (.iload_n 1, 1) := by decide +kernel
theorem dX11_pull_31 : decode cX11_pull 31 = .ok (.iadd, 1) := by decide +kernel
theorem dX11_pull_32 : decode cX11_pull 32 = .ok (.iaload, 1) := by decide +kernel
theorem dX11_pull_33 : decode cX11_pull 33 = .ok (.iconst 1, 1) := by decide +kernel
theorem dX11_pull_34 : decode cX11_pull 34 = .ok (.if_icmp .ge 5, 3) := by decide +kernel
theorem dX11_pull_37 : decode cX11_pull 37 = .ok (.iconst (-1), 1) := by decide +kernel
theorem dX11_pull_38 : decode cX11_pull 38 = .ok (.ireturn, 1) := by decide +kernel
theorem dX11_pull_39 : decode cX11_pull 39 = .ok (.aload_n 0, 1) := by decide +kernel
theorem dX11_pull_40 : decode cX11_pull 40 = .ok (.getfield 54, 3) := by decide +kernel
theorem dX11_pull_43 : decode cX11_pull 43 = .ok (.aload_n 3, 1) := by decide +kernel
theorem dX11_pull_44 : decode cX11_pull 44 = .ok (.invokevirtual 156, 3) := by decide +kernel
theorem dX11_pull_47 : decode cX11_pull 47 = .ok (.bipush 99, 2) := by decide +kernel
theorem dX11_pull_49 : decode cX11_pull 49 = .ok (.aload_n 3, 1) := by decide +kernel
theorem dX11_pull_50 : decode cX11_pull 50 = .ok (.getfield 124, 3) := by decide +kernel
theorem dX11_pull_53 : decode cX11_pull 53 = .ok (.bipush 58, 2) := by decide +kernel
theorem dX11_pull_55 : decode cX11_pull 55 = .ok (.iload_n 2, 1) := by decide +kernel
theorem dX11_pull_56 : decode cX11_pull 56 = .ok (.iadd, 1) := by decide +kernel
theorem dX11_pull_57 : decode cX11_pull 57 = .ok (.iaload, 1) := by decide +kernel
theorem dX11_pull_58 : decode cX11_pull 58 = .ok (.aload_n 3, 1) := by decide +kernel
theorem dX11_pull_59 : decode cX11_pull 59 = .ok (.getfield 124, 3) := by decide +kernel
theorem dX11_pull_62 : decode cX11_pull 62 = .ok (.bipush 32, 2) := by decide +kernel
theorem dX11_pull_64 : decode cX11_pull 64 = .ok (.iload_n 1, 1) := by decide +kernel
theorem dX11_pull_65 : decode cX11_pull 65 = .ok (.iadd, 1) := by decide +kernel
theorem dX11_pull_66 : decode cX11_pull 66 = .ok (.iaload, 1) := by decide +kernel
theorem dX11_pull_67 : decode cX11_pull 67 = .ok (.iadd, 1) := by decide +kernel
theorem dX11_pull_68 : decode cX11_pull 68 = .ok (.invokestatic 178, 3) := by decide +kernel
theorem dX11_pull_71 : decode cX11_pull 71 = .ok (.istore 4, 2) := by decide +kernel
theorem dX11_pull_73 : decode cX11_pull 73 = .ok (.aload_n 3, 1) := by decide +kernel
theorem dX11_pull_74 : decode cX11_pull 74 = .ok (.getfield 124, 3) := by decide +kernel
theorem dX11_pull_77 : decode cX11_pull 77 = .ok (.bipush 32, 2) := by decide +kernel
theorem dX11_pull_79 : decode cX11_pull 79 = .ok (.iload_n 1, 1) := by decide +kernel
theorem dX11_pull_80 : decode cX11_pull 80 = .ok (.iadd, 1) := by decide +kernel
theorem dX11_pull_81 : decode cX11_pull 81 = .ok (.iconst 0, 1) := by decide +kernel
theorem dX11_pull_82 : decode cX11_pull 82 = .ok (.iastore, 1) := by decide +kernel
theorem dX11_pull_83 : decode cX11_pull 83 = .ok (.aload_n 3, 1) := by decide +kernel
theorem dX11_pull_84 : decode cX11_pull 84 = .ok (.getfield 124, 3) := by decide +kernel
theorem dX11_pull_87 : decode cX11_pull 87 = .ok (.bipush 58, 2) := by decide +kernel
theorem dX11_pull_89 : decode cX11_pull 89 = .ok (.iload_n 2, 1) := by decide +kernel
theorem dX11_pull_90 : decode cX11_pull 90 = .ok (.iadd, 1) := by decide +kernel
theorem dX11_pull_91 : decode cX11_pull 91 = .ok (.iload 4, 2) := by decide +kernel
theorem dX11_pull_93 : decode cX11_pull 93 = .ok (.iastore, 1) := by decide +kernel
theorem dX11_pull_94 : decode cX11_pull 94 = .ok (.iload 4, 2) := by decide +kernel
theorem dX11_pull_96 : decode cX11_pull 96 = .ok (.ireturn, 1) := by decide +kernel
theorem dX11_ring_0 : decode cX11_ring 0 = .ok (.aload_n 0, 1) := by decide +kernel
theorem dX11_ring_1 : decode cX11_ring 1 = .ok (.getfield 43, 3) := by decide +kernel
theorem dX11_ring_4 : decode cX11_ring 4 = .ok (.getfield 111, 3) := by decide +kernel
theorem dX11_ring_7 : decode cX11_ring 7 = .ok (.iload_n 1, 1) := by decide +kernel
theorem dX11_ring_8 : decode cX11_ring 8 = .ok (.invokevirtual 136, 3) := by decide +kernel
theorem dX11_ring_11 : decode cX11_ring 11 = .ok (.ifCond .ne 5, 3) := by decide +kernel
theorem dX11_ring_14 : decode cX11_ring 14 = .ok (.iconst (-1), 1) := by decide +kernel
theorem dX11_ring_15 : decode cX11_ring 15 = .ok (.ireturn, 1) := by decide +kernel
theorem dX11_ring_16 : decode cX11_ring 16 = .ok (.iload_n 2, 1) := by decide +kernel
theorem dX11_ring_17 : decode cX11_ring 17 = .ok (.tableswitch 75 0 2 #[27, 43, 59], 27) := by decide +kernel
theorem dX11_ring_44 : decode cX11_ring 44 = .ok (.aload_n 0, 1) := by decide +kernel
theorem dX11_ring_45 : decode cX11_ring 45 = .ok (.getfield 43, 3) := by decide +kernel
theorem dX11_ring_48 : decode cX11_ring 48 = .ok (.getfield 111, 3) := by decide +kernel
theorem dX11_ring_51 : decode cX11_ring 51 = .ok (.getfield 124, 3) := by decide +kernel
theorem dX11_ring_54 : decode cX11_ring 54 = .ok (.bipush 20, 2) := by decide +kernel
theorem dX11_ring_56 : decode cX11_ring 56 = .ok (.iload_n 1, 1) := by decide +kernel
theorem dX11_ring_57 : decode cX11_ring 57 = .ok (.iadd, 1) := by decide +kernel
theorem dX11_ring_58 : decode cX11_ring 58 = .ok (.iaload, 1) := by decide +kernel
theorem dX11_ring_59 : decode cX11_ring 59 = .ok (.ireturn, 1) := by decide +kernel
theorem dX11_ring_60 : decode cX11_ring 60 = .ok (.aload_n 0, 1) := by decide +kernel
theorem dX11_ring_61 : decode cX11_ring 61 = .ok (.getfield 43, 3) := by decide +kernel
theorem dX11_ring_64 : decode cX11_ring 64 = .ok (.getfield 111, 3) := by decide +kernel
theorem dX11_ring_67 : decode cX11_ring 67 = .ok (.getfield 124, 3) := by decide +kernel
theorem dX11_ring_70 : decode cX11_ring 70 = .ok (.bipush 26, 2) := by decide +kernel
theorem dX11_ring_72 : decode cX11_ring 72 = .ok (.iload_n 1, 1) := by decide +kernel
theorem dX11_ring_73 : decode cX11_ring 73 = .ok (.iadd, 1) := by decide +kernel
theorem dX11_ring_74 : decode cX11_ring 74 = .ok (.iaload, 1) := by decide +kernel
theorem dX11_ring_75 : decode cX11_ring 75 = .ok (.ireturn, 1) := by decide +kernel
theorem dX11_ring_76 : decode cX11_ring 76 = .ok (.aload_n 0, 1) := by decide +kernel
theorem dX11_ring_77 : decode cX11_ring 77 = .ok (.getfield 43, 3) := by decide +kernel
theorem dX11_ring_80 : decode cX11_ring 80 = .ok (.getfield 111, 3) := by decide +kernel
theorem dX11_ring_83 : decode cX11_ring 83 = .ok (.getfield 124, 3) := by decide +kernel
theorem dX11_ring_86 : decode cX11_ring 86 = .ok (.bipush 32, 2) := by decide +kernel
theorem dX11_ring_88 : decode cX11_ring 88 = .ok (.iload_n 1, 1) := by decide +kernel
theorem dX11_ring_89 : decode cX11_ring 89 = .ok (.iadd, 1) := by decide +kernel
theorem dX11_ring_90 : decode cX11_ring 90 = .ok (.iaload, 1) := by decide +kernel
theorem dX11_ring_91 : decode cX11_ring 91 = .ok (.ireturn, 1) := by decide +kernel
theorem dX11_ring_92 : decode cX11_ring 92 = .ok (.iconst (-1), 1) := by decide +kernel
theorem dX11_ring_93 : decode cX11_ring 93 = .ok (.ireturn, 1) := by decide +kernel
theorem dX11_undo_0 : decode cX11_undo 0 = .ok (.aload_n 0, 1) := by decide +kernel
theorem dX11_undo_1 : decode cX11_undo 1 = .ok (.getfield 54, 3) := by decide +kernel
theorem dX11_undo_4 : decode cX11_undo 4 = .ok (.getfield 123, 3) := by decide +kernel
theorem dX11_undo_7 : decode cX11_undo 7 = .ok (.iconst 1, 1) := by decide +kernel
theorem dX11_undo_8 : decode cX11_undo 8 = .ok (.if_icmp .ge 5, 3) := by decide +kernel
theorem dX11_undo_11 : decode cX11_undo 11 = .ok (.iconst (-1), 1) := by decide +kernel
theorem dX11_undo_12 : decode cX11_undo 12 = .ok (.ireturn, 1) := by decide +kernel
theorem dX11_undo_13 : decode cX11_undo 13 = .ok (.aload_n 0, 1) := by decide +kernel
theorem dX11_undo_14 : decode cX11_undo 14 = .ok (.getfield 54, 3) := by decide +kernel
theorem dX11_undo_17 : decode cX11_undo 17 = .ok (.aload_n 0, 1) := by decide +kernel
theorem dX11_undo_18 : decode cX11_undo 18 = .ok (.getfield 43, 3) := by decide +kernel
theorem dX11_undo_21 : decode cX11_undo 21 = .ok (.getfield 111, 3) := by decide +kernel
theorem dX11_undo_24 : decode cX11_undo 24 = .ok (.invokevirtual 184, 3) := by decide +kernel
theorem dX11_undo_27 : decode cX11_undo 27 = .ok (.aload_n 0, 1) := by decide +kernel
theorem dX11_undo_28 : decode cX11_undo 28 = .ok (.getfield 54, 3) := by decide +kernel
theorem dX11_undo_31 : decode cX11_undo 31 = .ok (.getfield 123, 3) := by decide +kernel
theorem dX11_undo_34 : decode cX11_undo 34 = .ok (.ireturn, 1) := by decide +kernel
theorem dX11_wind_0 : decode cX11_wind 0 = .ok (.iload_n 1, 1) := by decide +kernel
theorem dX11_wind_1 : decode cX11_wind 1 = .ok (.iconst 0, 1) := by decide +kernel
theorem dX11_wind_2 : decode cX11_wind 2 = .ok (.aload_n 0, 1) := by decide +kernel
theorem dX11_wind_3 : decode cX11_wind 3 = .ok (.getfield 43, 3) := by decide +kernel
theorem dX11_wind_6 : decode cX11_wind 6 = .ok (.getfield 111, 3) := by decide +kernel
theorem dX11_wind_9 : decode cX11_wind 9 = .ok (.getfield 124, 3) := by decide +kernel
theorem dX11_wind_12 : decode cX11_wind 12 = .ok (.iconst 2, 1) := by decide +kernel
theorem dX11_wind_13 : decode cX11_wind 13 = .ok (.iaload, 1) := by decide +kernel
theorem dX11_wind_14 : decode cX11_wind 14 = .ok (.iconst 1, 1) := by decide +kernel
theorem dX11_wind_15 : decode cX11_wind 15 = .ok (.isub, 1) := by decide +kernel
theorem dX11_wind_16 : decode cX11_wind 16 = .ok (.invokestatic 90, 3) := by decide +kernel
theorem dX11_wind_19 : decode cX11_wind 19 = .ok (.ifCond .eq 17, 3) := by decide +kernel
theorem dX11_wind_22 : decode cX11_wind 22 = .ok (.aload_n 0, 1) := by decide +kernel
theorem dX11_wind_23 : decode cX11_wind 23 = .ok (.getfield 43, 3) := by decide +kernel
theorem dX11_wind_26 : decode cX11_wind 26 = .ok (.getfield 111, 3) := by decide +kernel
theorem dX11_wind_29 : decode cX11_wind 29 = .ok (.iload_n 1, 1) := by decide +kernel
theorem dX11_wind_30 : decode cX11_wind 30 = .ok (.invokevirtual 142, 3) := by decide +kernel
theorem dX11_wind_33 : decode cX11_wind 33 = .ok (.goto 4, 3) := by decide +kernel
theorem dX11_wind_36 : decode cX11_wind 36 = .ok (.iconst (-1), 1) := by decide +kernel
theorem dX11_wind_37 : decode cX11_wind 37 = .ok (.ireturn, 1) := by decide +kernel
theorem dX11_ahead_0 : decode cX11_ahead 0 = .ok (.iload_n 3, 1) := by decide +kernel
theorem dX11_ahead_1 : decode cX11_ahead 1 = .ok (.iconst 2, 1) := by decide +kernel
theorem dX11_ahead_2 : decode cX11_ahead 2 = .ok (.if_icmp .ne 7, 3) := by decide +kernel
theorem dX11_ahead_5 : decode cX11_ahead 5 = .ok (.iconst 1, 1) := by decide +kernel
theorem dX11_ahead_6 : decode cX11_ahead 6 = .ok (.goto 4, 3) := by decide +kernel
theorem dX11_ahead_9 : decode cX11_ahead 9 = .ok (.iconst 0, 1) := by decide +kernel
theorem dX11_ahead_10 : decode cX11_ahead 10 = .ok (.istore 4, 2) := by decide +kernel
theorem dX11_ahead_12 : decode cX11_ahead 12 = .ok (.aload_n 0, 1) := by decide +kernel
theorem dX11_ahead_13 : decode cX11_ahead 13 = .ok (.getfield 43, 3) := by decide +kernel
theorem dX11_ahead_16 : decode cX11_ahead 16 = .ok (.getfield 111, 3) := by decide +kernel
theorem dX11_ahead_19 : decode cX11_ahead 19 = .ok (.invokevirtual 152, 3) := by decide +kernel
theorem dX11_ahead_22 : decode cX11_ahead 22 = .ok (.ifCond .eq 22, 3) := by decide +kernel
theorem dX11_ahead_25 : decode cX11_ahead 25 = .ok (.iload_n 2, 1) := by decide +kernel
theorem dX11_ahead_26 : decode cX11_ahead 26 = .ok (.iconst 0, 1) := by decide +kernel
theorem dX11_ahead_27 : decode cX11_ahead 27 = .ok (.bipush 100, 2) := by decide +kernel
theorem dX11_ahead_29 : decode cX11_ahead 29 = .ok (.invokestatic 90, 3) := by decide +kernel
theorem dX11_ahead_32 : decode cX11_ahead 32 = .ok (.ifCond .eq 12, 3) := by decide +kernel
theorem dX11_ahead_35 : decode cX11_ahead 35 = .ok (.iload_n 3, 1) := by decide +kernel
theorem dX11_ahead_36 : decode cX11_ahead 36 = .ok (.iconst 0, 1) := by decide +kernel
theorem dX11_ahead_37 : decode cX11_ahead 37 = .ok (.iconst 2, 1) := by decide +kernel
theorem dX11_ahead_38 : decode cX11_ahead 38 = .ok (.invokestatic 90, 3) := by decide +kernel
theorem dX11_ahead_41 : decode cX11_ahead 41 = .ok (.ifCond .ne 5, 3) := by decide +kernel
theorem dX11_ahead_44 : decode cX11_ahead 44 = .ok (.iconst (-1), 1) := by decide +kernel
theorem dX11_ahead_45 : decode cX11_ahead 45 = .ok (.ireturn, 1) := by decide +kernel
theorem dX11_ahead_46 : decode cX11_ahead 46 = .ok (.iload 4, 2) := by decide +kernel
theorem dX11_ahead_48 : decode cX11_ahead 48 = .ok (.ifCond .ne 19, 3) := by decide +kernel
theorem dX11_ahead_51 : decode cX11_ahead 51 = .ok (.aload_n 0, 1) := by decide +kernel
theorem dX11_ahead_52 : decode cX11_ahead 52 = .ok (.getfield 43, 3) := by decide +kernel
theorem dX11_ahead_55 : decode cX11_ahead 55 = .ok (.getfield 111, 3) := by decide +kernel
theorem dX11_ahead_58 : decode cX11_ahead 58 = .ok (.iload_n 1, 1) := by decide +kernel
theorem dX11_ahead_59 : decode cX11_ahead 59 = .ok (.invokevirtual 139, 3) := by decide +kernel
theorem dX11_ahead_62 : decode cX11_ahead 62 = .ok (.ifCond .ne 5, 3) := by decide +kernel
theorem dX11_ahead_65 : decode cX11_ahead 65 = .ok (.iconst (-1), 1) := by decide +kernel
theorem dX11_ahead_66 : decode cX11_ahead 66 = .ok (.ireturn, 1) := by decide +kernel
theorem dX11_ahead_67 : decode cX11_ahead 67 = .ok (.aload_n 0, 1) := by decide +kernel
theorem dX11_ahead_68 : decode cX11_ahead 68 = .ok (.getfield 61, 3) := by decide +kernel
theorem dX11_ahead_71 : decode cX11_ahead 71 = .ok (.aload_n 0, 1) := by decide +kernel
theorem dX11_ahead_72 : decode cX11_ahead 72 = .ok (.getfield 43, 3) := by decide +kernel
theorem dX11_ahead_75 : decode cX11_ahead 75 = .ok (.getfield 111, 3) := by decide +kernel
theorem dX11_ahead_78 : decode cX11_ahead 78 = .ok (.aload_n 0, 1) := by decide +kernel
theorem dX11_ahead_79 : decode cX11_ahead 79 = .ok (.invokevirtual 159, 3) := by decide +kernel
theorem dX11_ahead_82 : decode cX11_ahead 82 = .ok (.invokevirtual 162, 3) := by decide +kernel
theorem dX11_ahead_85 : decode cX11_ahead 85 = .ok (.aload_n 0, 1) := by decide +kernel
theorem dX11_ahead_86 : decode cX11_ahead 86 = .ok (.getfield 61, 3) := by decide +kernel
theorem dX11_ahead_89 : decode cX11_ahead 89 = .ok (.iload_n 2, 1) := by decide +kernel
theorem dX11_ahead_90 : decode cX11_ahead 90 = .ok (.invokevirtual 187, 3) := by decide +kernel
theorem dX11_ahead_93 : decode cX11_ahead 93 = .ok (.iload 4, 2) := by decide +kernel
theorem dX11_ahead_95 : decode cX11_ahead 95 = .ok (.ifCond .eq 17, 3) := by decide +kernel
theorem dX11_ahead_98 : decode cX11_ahead 98 = .ok (.aload_n 0, 1) := by decide +kernel
theorem dX11_ahead_99 : decode cX11_ahead 99 = .ok (.getfield 61, 3) := by decide +kernel
theorem dX11_ahead_102 : decode cX11_ahead 102 = .ok (.getfield 170, 3) := by decide +kernel
theorem dX11_ahead_105 : decode cX11_ahead 105 = .ok (.getfield 124, 3) := by decide +kernel
theorem dX11_ahead_108 : decode cX11_ahead 108 = .ok (.bipush 7, 2) := by decide +kernel
theorem dX11_ahead_110 : decode cX11_ahead 110 = .ok (.iaload, 1) := by decide +kernel
theorem dX11_ahead_111 : decode cX11_ahead 111 = .ok (.ireturn, 1) := by decide +kernel
theorem dX11_ahead_112 : decode cX11_ahead 112 = .ok (.aload_n 0, 1) := by decide +kernel
theorem dX11_ahead_113 : decode cX11_ahead 113 = .ok (.getfield 61, 3) := by decide +kernel
theorem dX11_ahead_116 : decode cX11_ahead 116 = .ok (.getfield 170, 3) := by decide +kernel
theorem dX11_ahead_119 : decode cX11_ahead 119 = .ok (.getfield 124, 3) := by decide +kernel
theorem dX11_ahead_122 : decode cX11_ahead 122 = .ok (.iload_n 3, 1) := by decide +kernel
theorem dX11_ahead_123 : decode cX11_ahead 123 = .ok (.ifCond .ne 8, 3) := by decide +kernel
theorem dX11_ahead_126 : decode cX11_ahead 126 = .ok (.bipush 53, 2) := by decide +kernel
theorem dX11_ahead_128 : decode cX11_ahead 128 = .ok (.goto 5, 3) := by decide +kernel
theorem dX11_ahead_131 : decode cX11_ahead 131 = .ok (.bipush 58, 2) := by decide +kernel
theorem dX11_ahead_133 : decode cX11_ahead 133 = .ok (.iload_n 1, 1) := by decide +kernel
theorem dX11_ahead_134 : decode cX11_ahead 134 = .ok (.iadd, 1) := by decide +kernel
theorem dX11_ahead_135 : decode cX11_ahead 135 = .ok (.iaload, 1) := by decide +kernel
theorem dX11_ahead_136 : decode cX11_ahead 136 = .ok (.ireturn, 1) := by decide +kernel
theorem dX11_count_0 : decode cX11_count 0 = .ok (.iload_n 1, 1) := by decide +kernel
theorem dX11_count_1 : decode cX11_count 1 = .ok (.tableswitch 259 0 15 #[79, 92, 105, 118, 131, 144, 149, 157, 170, 184, 197, 210, 224, 235, 243, 251], 79) := by decide +kernel
theorem dX11_count_80 : decode cX11_count 80 = .ok (.aload_n 0, 1) := by decide +kernel
theorem dX11_count_81 : decode cX11_count 81 = .ok (.getfield 43, 3) := by decide +kernel
theorem dX11_count_84 : decode cX11_count 84 = .ok (.getfield 111, 3) := by decide +kernel
theorem dX11_count_87 : decode cX11_count 87 = .ok (.getfield 124, 3) := by decide +kernel
theorem dX11_count_90 : decode cX11_count 90 = .ok (.iconst 0, 1) := by decide +kernel
theorem dX11_count_91 : decode cX11_count 91 = .ok (.iaload, 1) := by decide +kernel
theorem dX11_count_92 : decode cX11_count 92 = .ok (.ireturn, 1) := by decide +kernel
theorem dX11_count_93 : decode cX11_count 93 = .ok (.aload_n 0, 1) := by decide +kernel
theorem dX11_count_94 : decode cX11_count 94 = .ok (.getfield 43, 3) := by decide +kernel
theorem dX11_count_97 : decode cX11_count 97 = .ok (.getfield 111, 3) := by decide +kernel
theorem dX11_count_100 : decode cX11_count 100 = .ok (.getfield 124, 3) := by decide +kernel
theorem dX11_count_103 : decode cX11_count 103 = .ok (.iconst 1, 1) := by decide +kernel
theorem dX11_count_104 : decode cX11_count 104 = .ok (.iaload, 1) := by decide +kernel
theorem dX11_count_105 : decode cX11_count 105 = .ok (.ireturn, 1) := by decide +kernel
theorem dX11_count_106 : decode cX11_count 106 = .ok (.aload_n 0, 1) := by decide +kernel
theorem dX11_count_107 : decode cX11_count 107 = .ok (.getfield 43, 3) := by decide +kernel
theorem dX11_count_110 : decode cX11_count 110 = .ok (.getfield 111, 3) := by decide +kernel
theorem dX11_count_113 : decode cX11_count 113 = .ok (.getfield 124, 3) := by decide +kernel
theorem dX11_count_116 : decode cX11_count 116 = .ok (.iconst 2, 1) := by decide +kernel
theorem dX11_count_117 : decode cX11_count 117 = .ok (.iaload, 1) := by decide +kernel
theorem dX11_count_118 : decode cX11_count 118 = .ok (.ireturn, 1) := by decide +kernel
theorem dX11_count_119 : decode cX11_count 119 = .ok (.aload_n 0, 1) := by decide +kernel
theorem dX11_count_120 : decode cX11_count 120 = .ok (.getfield 43, 3) := by decide +kernel
theorem dX11_count_123 : decode cX11_count 123 = .ok (.getfield 111, 3) := by decide +kernel
theorem dX11_count_126 : decode cX11_count 126 = .ok (.getfield 124, 3) := by decide +kernel
theorem dX11_count_129 : decode cX11_count 129 = .ok (.iconst 3, 1) := by decide +kernel
theorem dX11_count_130 : decode cX11_count 130 = .ok (.iaload, 1) := by decide +kernel
theorem dX11_count_131 : decode cX11_count 131 = .ok (.ireturn, 1) := by decide +kernel
theorem dX11_count_132 : decode cX11_count 132 = .ok (.aload_n 0, 1) := by decide +kernel
theorem dX11_count_133 : decode cX11_count 133 = .ok (.getfield 43, 3) := by decide +kernel
theorem dX11_count_136 : decode cX11_count 136 = .ok (.getfield 111, 3) := by decide +kernel
theorem dX11_count_139 : decode cX11_count 139 = .ok (.getfield 124, 3) := by decide +kernel
theorem dX11_count_142 : decode cX11_count 142 = .ok (.iconst 4, 1) := by decide +kernel
theorem dX11_count_143 : decode cX11_count 143 = .ok (.iaload, 1) := by decide +kernel
theorem dX11_count_144 : decode cX11_count 144 = .ok (.ireturn, 1) := by decide +kernel
theorem dX11_count_145 : decode cX11_count 145 = .ok (.aload_n 0, 1) := by decide +kernel
theorem dX11_count_146 : decode cX11_count 146 = .ok (.getfield 36, 3) := by decide +kernel
theorem dX11_count_149 : decode cX11_count 149 = .ok (.ireturn, 1) := by decide +kernel
theorem dX11_count_150 : decode cX11_count 150 = .ok (.aload_n 0, 1) := by decide +kernel
theorem dX11_count_151 : decode cX11_count 151 = .ok (.getfield 43, 3) := by decide +kernel
theorem dX11_count_154 : decode cX11_count 154 = .ok (.getfield 133, 3) := by decide +kernel
theorem dX11_count_157 : decode cX11_count 157 = .ok (.ireturn, 1) := by decide +kernel
theorem dX11_count_158 : decode cX11_count 158 = .ok (.aload_n 0, 1) := by decide +kernel
theorem dX11_count_159 : decode cX11_count 159 = .ok (.getfield 43, 3) := by decide +kernel
theorem dX11_count_162 : decode cX11_count 162 = .ok (.getfield 111, 3) := by decide +kernel
theorem dX11_count_165 : decode cX11_count 165 = .ok (.getfield 124, 3) := by decide +kernel
theorem dX11_count_168 : decode cX11_count 168 = .ok (.iconst 5, 1) := by decide +kernel
theorem dX11_count_169 : decode cX11_count 169 = .ok (.iaload, 1) := by decide +kernel
theorem dX11_count_170 : decode cX11_count 170 = .ok (.ireturn, 1) := by decide +kernel
theorem dX11_count_171 : decode cX11_count 171 = .ok (.aload_n 0, 1) := by decide +kernel
theorem dX11_count_172 : decode cX11_count 172 = .ok (.getfield 43, 3) := by decide +kernel
theorem dX11_count_175 : decode cX11_count 175 = .ok (.getfield 111, 3) := by decide +kernel
theorem dX11_count_178 : decode cX11_count 178 = .ok (.getfield 124, 3) := by decide +kernel
theorem dX11_count_181 : decode cX11_count 181 = .ok (.bipush 6, 2) := by decide +kernel
theorem dX11_count_183 : decode cX11_count 183 = .ok (.iaload, 1) := by decide +kernel
theorem dX11_count_184 : decode cX11_count 184 = .ok (.ireturn, 1) := by decide +kernel
theorem dX11_count_185 : decode cX11_count 185 = .ok (.aload_n 0, 1) := by decide +kernel
theorem dX11_count_186 : decode cX11_count 186 = .ok (.getfield 43, 3) := by decide +kernel
theorem dX11_count_189 : decode cX11_count 189 = .ok (.getfield 111, 3) := by decide +kernel
theorem dX11_count_192 : decode cX11_count 192 = .ok (.bipush 53, 2) := by decide +kernel
theorem dX11_count_194 : decode cX11_count 194 = .ok (.invokevirtual 146, 3) := by decide +kernel
theorem dX11_count_197 : decode cX11_count 197 = .ok (.ireturn, 1) := by decide +kernel
theorem dX11_count_198 : decode cX11_count 198 = .ok (.aload_n 0, 1) := by decide +kernel
theorem dX11_count_199 : decode cX11_count 199 = .ok (.getfield 43, 3) := by decide +kernel
theorem dX11_count_202 : decode cX11_count 202 = .ok (.getfield 111, 3) := by decide +kernel
theorem dX11_count_205 : decode cX11_count 205 = .ok (.bipush 58, 2) := by decide +kernel
theorem dX11_count_207 : decode cX11_count 207 = .ok (.invokevirtual 146, 3) := by decide +kernel
theorem dX11_count_210 : decode cX11_count 210 = .ok (.ireturn, 1) := by decide +kernel
theorem dX11_count_211 : decode cX11_count 211 = .ok (.aload_n 0, 1) := by decide +kernel
theorem dX11_count_212 : decode cX11_count 212 = .ok (.getfield 43, 3) := by decide +kernel
theorem dX11_count_215 : decode cX11_count 215 = .ok (.getfield 111, 3) := by decide +kernel
theorem dX11_count_218 : decode cX11_count 218 = .ok (.getfield 124, 3) := by decide +kernel
theorem dX11_count_221 : decode cX11_count 221 = .ok (.bipush 7, 2) := by decide +kernel
theorem dX11_count_223 : decode cX11_count 223 = .ok (.iaload, 1) := by decide +kernel
theorem dX11_count_224 : decode cX11_count 224 = .ok (.ireturn, 1) := by decide +kernel
theorem dX11_count_225 : decode cX11_count 225 = .ok (.aload_n 0, 1) := by decide +kernel
theorem dX11_count_226 : decode cX11_count 226 = .ok (.getfield 43, 3) := by decide +kernel
theorem dX11_count_229 : decode cX11_count 229 = .ok (.getfield 114, 3) := by decide +kernel
theorem dX11_count_232 : decode cX11_count 232 = .ok (.getfield 118, 3) := by decide +kernel
theorem dX11_count_235 : decode cX11_count 235 = .ok (.ireturn, 1) := by decide +kernel
theorem dX11_count_236 : decode cX11_count 236 = .ok (.aload_n 0, 1) := by decide +kernel
theorem dX11_count_237 : decode cX11_count 237 = .ok (.getfield 54, 3) := by decide +kernel
theorem dX11_count_240 : decode cX11_count 240 = .ok (.getfield 123, 3) := by decide +kernel
theorem dX11_count_243 : decode cX11_count 243 = .ok (.ireturn, 1) := by decide +kernel
theorem dX11_count_244 : decode cX11_count 244 = .ok (.aload_n 0, 1) := by decide +kernel
theorem dX11_count_245 : decode cX11_count 245 = .ok (.getfield 43, 3) := by decide +kernel
theorem dX11_count_248 : decode cX11_count 248 = .ok (.getfield 149, 3) := by decide +kernel
theorem dX11_count_251 : decode cX11_count 251 = .ok (.ireturn, 1) := by decide +kernel
theorem dX11_count_252 : decode cX11_count 252 = .ok (.aload_n 0, 1) := by decide +kernel
theorem dX11_count_253 : decode cX11_count 253 = .ok (.getfield 10, 3) := by decide +kernel
theorem dX11_count_256 : decode cX11_count 256 = .ok (.getfield 87, 3) := by decide +kernel
theorem dX11_count_259 : decode cX11_count 259 = .ok (.ireturn, 1) := by decide +kernel
theorem dX11_count_260 : decode cX11_count 260 = .ok (.iconst (-1), 1) := by decide +kernel
theorem dX11_count_261 : decode cX11_count 261 = .ok (.ireturn, 1) := by decide +kernel
theorem dX11_eased_0 : decode cX11_eased 0 = .ok (.aload_n 0, 1) := by decide +kernel
theorem dX11_eased_1 : decode cX11_eased 1 = .ok (.getfield 43, 3) := by decide +kernel
theorem dX11_eased_4 : decode cX11_eased 4 = .ok (.getfield 111, 3) := by decide +kernel
theorem dX11_eased_7 : decode cX11_eased 7 = .ok (.iload_n 1, 1) := by decide +kernel
theorem dX11_eased_8 : decode cX11_eased 8 = .ok (.invokevirtual 139, 3) := by decide +kernel
theorem dX11_eased_11 : decode cX11_eased 11 = .ok (.ifCond .ne 5, 3) := by decide +kernel
theorem dX11_eased_14 : decode cX11_eased 14 = .ok (.iconst (-1), 1) := by decide +kernel
theorem dX11_eased_15 : decode cX11_eased 15 = .ok (.ireturn, 1) := by decide +kernel
theorem dX11_eased_16 : decode cX11_eased 16 = .ok (.aload_n 0, 1) := by decide +kernel
theorem dX11_eased_17 : decode cX11_eased 17 = .ok (.getfield 61, 3) := by decide +kernel
theorem dX11_eased_20 : decode cX11_eased 20 = .ok (.aload_n 0, 1) := by decide +kernel
theorem dX11_eased_21 : decode cX11_eased 21 = .ok (.getfield 43, 3) := by decide +kernel
theorem dX11_eased_24 : decode cX11_eased 24 = .ok (.getfield 111, 3) := by decide +kernel
theorem dX11_eased_27 : decode cX11_eased 27 = .ok (.aload_n 0, 1) := by decide +kernel
theorem dX11_eased_28 : decode cX11_eased 28 = .ok (.invokevirtual 159, 3) := by decide +kernel
theorem dX11_eased_31 : decode cX11_eased 31 = .ok (.invokevirtual 162, 3) := by decide +kernel
theorem dX11_eased_34 : decode cX11_eased 34 = .ok (.aload_n 0, 1) := by decide +kernel
theorem dX11_eased_35 : decode cX11_eased 35 = .ok (.getfield 68, 3) := by decide +kernel
theorem dX11_eased_38 : decode cX11_eased 38 = .ok (.aload_n 0, 1) := by decide +kernel
theorem dX11_eased_39 : decode cX11_eased 39 = .ok (.getfield 61, 3) := by decide +kernel
theorem dX11_eased_42 : decode cX11_eased 42 = .ok (.iload_n 1, 1) := by decide +kernel
theorem dX11_eased_43 : decode cX11_eased 43 = .ok (.iload_n 1, 1) := by decide +kernel
theorem dX11_eased_44 : decode cX11_eased 44 = .ok (.invokevirtual 190, 3) := by decide +kernel
theorem dX11_eased_47 : decode cX11_eased 47 = .ok (.ireturn, 1) := by decide +kernel
theorem dX11_given_0 : decode cX11_given 0 = .ok (.aload_n 0, 1) := by decide +kernel
theorem dX11_given_1 : decode cX11_given 1 = .ok (.getfield 43, 3) := by decide +kernel
theorem dX11_given_4 : decode cX11_given 4 = .ok (.getfield 111, 3) := by decide +kernel
theorem dX11_given_7 : decode cX11_given 7 = .ok (.invokevirtual 152, 3) := by decide +kernel
theorem dX11_given_10 : decode cX11_given 10 = .ok (.ifCond .eq 22, 3) := by decide +kernel
theorem dX11_given_13 : decode cX11_given 13 = .ok (.iload_n 1, 1) := by decide +kernel
theorem dX11_given_14 : decode cX11_given 14 = .ok (.iconst 1, 1) := by decide +kernel
theorem dX11_given_15 : decode cX11_given 15 = .ok (.bipush 40, 2) := by decide +kernel
theorem dX11_given_17 : decode cX11_given 17 = .ok (.invokestatic 90, 3) := by decide +kernel
theorem dX11_given_20 : decode cX11_given 20 = .ok (.ifCond .eq 12, 3) := by decide +kernel
theorem dX11_given_23 : decode cX11_given 23 = .ok (.iload_n 2, 1) := by decide +kernel
theorem dX11_given_24 : decode cX11_given 24 = .ok (.iconst 0, 1) := by decide +kernel
theorem dX11_given_25 : decode cX11_given 25 = .ok (.iconst 1, 1) := by decide +kernel
theorem dX11_given_26 : decode cX11_given 26 = .ok (.invokestatic 90, 3) := by decide +kernel
theorem dX11_given_29 : decode cX11_given 29 = .ok (.ifCond .ne 6, 3) := by decide +kernel
theorem dX11_given_32 : decode cX11_given 32 = .ok (.bipush (-2), 2) := by decide +kernel
theorem dX11_given_34 : decode cX11_given 34 = .ok (.ireturn, 1) := by decide +kernel
theorem dX11_given_35 : decode cX11_given 35 = .ok (.aload_n 0, 1) := by decide +kernel
theorem dX11_given_36 : decode cX11_given 36 = .ok (.getfield 68, 3) := by decide +kernel
theorem dX11_given_39 : decode cX11_given 39 = .ok (.aload_n 0, 1) := by decide +kernel
theorem dX11_given_40 : decode cX11_given 40 = .ok (.getfield 61, 3) := by decide +kernel
theorem dX11_given_43 : decode cX11_given 43 = .ok (.aload_n 0, 1) := by decide +kernel
theorem dX11_given_44 : decode cX11_given 44 = .ok (.getfield 43, 3) := by decide +kernel
theorem dX11_given_47 : decode cX11_given 47 = .ok (.getfield 111, 3) := by decide +kernel
theorem dX11_given_50 : decode cX11_given 50 = .ok (.aload_n 0, 1) := by decide +kernel
theorem dX11_given_51 : decode cX11_given 51 = .ok (.invokevirtual 159, 3) := by decide +kernel
theorem dX11_given_54 : decode cX11_given 54 = .ok (.iload_n 1, 1) := by decide +kernel
theorem dX11_given_55 : decode cX11_given 55 = .ok (.invokevirtual 217, 3) := by decide +kernel
theorem dX11_given_58 : decode cX11_given 58 = .ok (.iload_n 2, 1) := by decide +kernel
theorem dX11_given_59 : decode cX11_given 59 = .ok (.ifCond .ne 13, 3) := by decide +kernel
theorem dX11_given_62 : decode cX11_given 62 = .ok (.aload_n 0, 1) := by decide +kernel
theorem dX11_given_63 : decode cX11_given 63 = .ok (.getfield 68, 3) := by decide +kernel
theorem dX11_given_66 : decode cX11_given 66 = .ok (.getfield 211, 3) := by decide +kernel
theorem dX11_given_69 : decode cX11_given 69 = .ok (.goto 10, 3) := by decide +kernel
theorem dX11_given_72 : decode cX11_given 72 = .ok (.aload_n 0, 1) := by decide +kernel
theorem dX11_given_73 : decode cX11_given 73 = .ok (.getfield 68, 3) := by decide +kernel
theorem dX11_given_76 : decode cX11_given 76 = .ok (.getfield 214, 3) := by decide +kernel
theorem dX11_given_79 : decode cX11_given 79 = .ok (.ireturn, 1) := by decide +kernel
theorem dX11_gusts_0 : decode cX11_gusts 0 = .ok (.aload_n 0, 1) := by decide +kernel
theorem dX11_gusts_1 : decode cX11_gusts 1 = .ok (.getfield 43, 3) := by decide +kernel
theorem dX11_gusts_4 : decode cX11_gusts 4 = .ok (.getfield 111, 3) := by decide +kernel
theorem dX11_gusts_7 : decode cX11_gusts 7 = .ok (.invokevirtual 152, 3) := by decide +kernel
theorem dX11_gusts_10 : decode cX11_gusts 10 = .ok (.ifCond .eq 23, 3) := by decide +kernel
theorem dX11_gusts_13 : decode cX11_gusts 13 = .ok (.iload_n 1, 1) := by decide +kernel
theorem dX11_gusts_14 : decode cX11_gusts 14 = .ok (.iconst 1, 1) := by decide +kernel
theorem dX11_gusts_15 : decode cX11_gusts 15 = .ok (.bipush 10, 2) := by decide +kernel
theorem dX11_gusts_17 : decode cX11_gusts 17 = .ok (.invokestatic 90, 3) := by decide +kernel
theorem dX11_gusts_20 : decode cX11_gusts 20 = .ok (.ifCond .eq 13, 3) := by decide +kernel
theorem dX11_gusts_23 : decode cX11_gusts 23 = .ok (.iload_n 2, 1) := by decide +kernel
theorem dX11_gusts_24 : decode cX11_gusts 24 = .ok (.iconst 1, 1) := by decide +kernel
theorem dX11_gusts_25 : decode cX11_gusts 25 = .ok (.bipush 40, 2) := by decide +kernel
theorem dX11_gusts_27 : decode cX11_gusts 27 = .ok (.invokestatic 90, 3) := by decide +kernel
theorem dX11_gusts_30 : decode cX11_gusts 30 = .ok (.ifCond .ne 5, 3) := by decide +kernel
theorem dX11_gusts_33 : decode cX11_gusts 33 = .ok (.iconst (-1), 1) := by decide +kernel
theorem dX11_gusts_34 : decode cX11_gusts 34 = .ok (.ireturn, 1) := by decide +kernel
theorem dX11_gusts_35 : decode cX11_gusts 35 = .ok (.iload_n 3, 1) := by decide +kernel
theorem dX11_gusts_36 : decode cX11_gusts 36 = .ok (.iconst 0, 1) := by decide +kernel
theorem dX11_gusts_37 : decode cX11_gusts 37 = .ok (.bipush 100, 2) := by decide +kernel
theorem dX11_gusts_39 : decode cX11_gusts 39 = .ok (.invokestatic 90, 3) := by decide +kernel
theorem dX11_gusts_42 : decode cX11_gusts 42 = .ok (.ifCond .eq 13, 3) := by decide +kernel
theorem dX11_gusts_45 : decode cX11_gusts 45 = .ok (.iload 4, 2) := by decide +kernel
theorem dX11_gusts_47 : decode cX11_gusts 47 = .ok (.iconst 0, 1) := by decide +kernel
theorem dX11_gusts_48 : decode cX11_gusts 48 = .ok (.iconst 1, 1) := by decide +kernel
theorem dX11_gusts_49 : decode cX11_gusts 49 = .ok (.invokestatic 90, 3) := by decide +kernel
theorem dX11_gusts_52 : decode cX11_gusts 52 = .ok (.ifCond .ne 5, 3) := by decide +kernel
theorem dX11_gusts_55 : decode cX11_gusts 55 = .ok (.iconst (-1), 1) := by decide +kernel
theorem dX11_gusts_56 : decode cX11_gusts 56 = .ok (.ireturn, 1) := by decide +kernel
theorem dX11_gusts_57 : decode cX11_gusts 57 = .ok (.aload_n 0, 1) := by decide +kernel
theorem dX11_gusts_58 : decode cX11_gusts 58 = .ok (.getfield 68, 3) := by decide +kernel
theorem dX11_gusts_61 : decode cX11_gusts 61 = .ok (.aload_n 0, 1) := by decide +kernel
theorem dX11_gusts_62 : decode cX11_gusts 62 = .ok (.getfield 43, 3) := by decide +kernel
theorem dX11_gusts_65 : decode cX11_gusts 65 = .ok (.getfield 149, 3) := by decide +kernel
theorem dX11_gusts_68 : decode cX11_gusts 68 = .ok (.putfield 259, 3) := by decide +kernel
theorem dX11_gusts_71 : decode cX11_gusts 71 = .ok (.iconst 0, 1) := by decide +kernel
theorem dX11_gusts_72 : decode cX11_gusts 72 = .ok (.istore 5, 2) := by decide +kernel
theorem dX11_gusts_74 : decode cX11_gusts 74 = .ok (.iconst 0, 1) := by decide +kernel
theorem dX11_gusts_75 : decode cX11_gusts 75 = .ok (.istore 6, 2) := by decide +kernel
theorem dX11_gusts_77 : decode cX11_gusts 77 = .ok (.iconst 0, 1) := by decide +kernel
theorem dX11_gusts_78 : decode cX11_gusts 78 = .ok (.istore 7, 2) := by decide +kernel
theorem dX11_gusts_80 : decode cX11_gusts 80 = .ok (.iload 7, 2) := by decide +kernel
theorem dX11_gusts_82 : decode cX11_gusts 82 = .ok (.iload_n 1, 1) := by decide +kernel
theorem dX11_gusts_83 : decode cX11_gusts 83 = .ok (.if_icmp .ge 84, 3) := by decide +kernel
theorem dX11_gusts_86 : decode cX11_gusts 86 = .ok (.aload_n 0, 1) := by decide +kernel
theorem dX11_gusts_87 : decode cX11_gusts 87 = .ok (.getfield 61, 3) := by decide +kernel
theorem dX11_gusts_90 : decode cX11_gusts 90 = .ok (.aload_n 0, 1) := by decide +kernel
theorem dX11_gusts_91 : decode cX11_gusts 91 = .ok (.getfield 43, 3) := by decide +kernel
theorem dX11_gusts_94 : decode cX11_gusts 94 = .ok (.getfield 111, 3) := by decide +kernel
theorem dX11_gusts_97 : decode cX11_gusts 97 = .ok (.aload_n 0, 1) := by decide +kernel
theorem dX11_gusts_98 : decode cX11_gusts 98 = .ok (.invokevirtual 159, 3) := by decide +kernel
theorem dX11_gusts_101 : decode cX11_gusts 101 = .ok (.invokevirtual 162, 3) := by decide +kernel
theorem dX11_gusts_104 : decode cX11_gusts 104 = .ok (.aload_n 0, 1) := by decide +kernel
theorem dX11_gusts_105 : decode cX11_gusts 105 = .ok (.getfield 68, 3) := by decide +kernel
theorem dX11_gusts_108 : decode cX11_gusts 108 = .ok (.aload_n 0, 1) := by decide +kernel
theorem dX11_gusts_109 : decode cX11_gusts 109 = .ok (.getfield 61, 3) := by decide +kernel
theorem dX11_gusts_112 : decode cX11_gusts 112 = .ok (.iload_n 2, 1) := by decide +kernel
theorem dX11_gusts_113 : decode cX11_gusts 113 = .ok (.iload_n 3, 1) := by decide +kernel
theorem dX11_gusts_114 : decode cX11_gusts 114 = .ok (.invokevirtual 262, 3) := by decide +kernel
theorem dX11_gusts_117 : decode cX11_gusts 117 = .ok (.iload 5, 2) := by decide +kernel
theorem dX11_gusts_119 : decode cX11_gusts 119 = .ok (.aload_n 0, 1) := by decide +kernel
theorem dX11_gusts_120 : decode cX11_gusts 120 = .ok (.getfield 68, 3) := by decide +kernel
theorem dX11_gusts_123 : decode cX11_gusts 123 = .ok (.aload_n 0, 1) := by decide +kernel
theorem dX11_gusts_124 : decode cX11_gusts 124 = .ok (.getfield 43, 3) := by decide +kernel
theorem dX11_gusts_127 : decode cX11_gusts 127 = .ok (.getfield 111, 3) := by decide +kernel
theorem dX11_gusts_130 : decode cX11_gusts 130 = .ok (.aload_n 0, 1) := by decide +kernel
theorem dX11_gusts_131 : decode cX11_gusts 131 = .ok (.getfield 61, 3) := by decide +kernel
theorem dX11_gusts_134 : decode cX11_gusts 134 = .ok (.getfield 170, 3) := by decide +kernel
theorem dX11_gusts_137 : decode cX11_gusts 137 = .ok (.invokevirtual 266, 3) := by decide +kernel
theorem dX11_gusts_140 : decode cX11_gusts 140 = .ok (.iadd, 1) := by decide +kernel
theorem dX11_gusts_141 : decode cX11_gusts 141 = .ok (.istore 5, 2) := by decide +kernel
theorem dX11_gusts_143 : decode cX11_gusts 143 = .ok (.iload 6, 2) := by decide +kernel
theorem dX11_gusts_145 : decode cX11_gusts 145 = .ok (.aload_n 0, 1) := by decide +kernel
theorem dX11_gusts_146 : decode cX11_gusts 146 = .ok (.getfield 61, 3) := by decide +kernel
theorem dX11_gusts_149 : decode cX11_gusts 149 = .ok (.getfield 170, 3) := by decide +kernel
theorem dX11_gusts_152 : decode cX11_gusts 152 = .ok (.getfield 124, 3) := by decide +kernel
theorem dX11_gusts_155 : decode cX11_gusts 155 = .ok (.bipush 7, 2) := by decide +kernel
theorem dX11_gusts_157 : decode cX11_gusts 157 = .ok (.iaload, 1) := by decide +kernel
theorem dX11_gusts_158 : decode cX11_gusts 158 = .ok (.iadd, 1) := by decide +kernel
theorem dX11_gusts_159 : decode cX11_gusts 159 = .ok (.istore 6, 2) := by decide +kernel
theorem dX11_gusts_161 : decode cX11_gusts 161 = .ok (.iinc 7 1, 3) := by decide +kernel
theorem dX11_gusts_164 : decode cX11_gusts 164 = .ok (.goto (-84), 3) := by decide +kernel
theorem dX11_gusts_167 : decode cX11_gusts 167 = .ok (.iload 4, 2) := by decide +kernel
theorem dX11_gusts_169 : decode cX11_gusts 169 = .ok (.ifCond .ne 8, 3) := by decide +kernel
theorem dX11_gusts_172 : decode cX11_gusts 172 = .ok (.iload 5, 2) := by decide +kernel
theorem dX11_gusts_174 : decode cX11_gusts 174 = .ok (.goto 5, 3) := by decide +kernel
theorem dX11_gusts_177 : decode cX11_gusts 177 = .ok (.iload 6, 2) := by decide +kernel
theorem dX11_gusts_179 : decode cX11_gusts 179 = .ok (.ireturn, 1) := by decide +kernel
theorem dX11_pence_0 : decode cX11_pence 0 = .ok (.iload_n 1, 1) := by decide +kernel
theorem dX11_pence_1 : decode cX11_pence 1 = .ok (.iconst 0, 1) := by decide +kernel
theorem dX11_pence_2 : decode cX11_pence 2 = .ok (.sipush 9999, 3) := by decide +kernel
theorem dX11_pence_5 : decode cX11_pence 5 = .ok (.invokestatic 90, 3) := by decide +kernel
theorem dX11_pence_8 : decode cX11_pence 8 = .ok (.ifCond .eq 17, 3) := by decide +kernel
theorem dX11_pence_11 : decode cX11_pence 11 = .ok (.aload_n 0, 1) := by decide +kernel
theorem dX11_pence_12 : decode cX11_pence 12 = .ok (.getfield 43, 3) := by decide +kernel
theorem dX11_pence_15 : decode cX11_pence 15 = .ok (.getfield 111, 3) := by decide +kernel
theorem dX11_pence_18 : decode cX11_pence 18 = .ok (.iload_n 2, 1) := by decide +kernel
theorem dX11_pence_19 : decode cX11_pence 19 = .ok (.invokevirtual 136, 3) := by decide +kernel
theorem dX11_pence_22 : decode cX11_pence 22 = .ok (.ifCond .ne 5, 3) := by decide +kernel
theorem dX11_pence_25 : decode cX11_pence 25 = .ok (.iconst (-1), 1) := by decide +kernel
theorem dX11_pence_26 : decode cX11_pence 26 = .ok (.ireturn, 1) := by decide +kernel
theorem dX11_pence_27 : decode cX11_pence 27 = .ok (.aload_n 0, 1) := by decide +kernel
theorem dX11_pence_28 : decode cX11_pence 28 = .ok (.getfield 68, 3) := by decide +kernel
theorem dX11_pence_31 : decode cX11_pence 31 = .ok (.aload_n 0, 1) := by decide +kernel
theorem dX11_pence_32 : decode cX11_pence 32 = .ok (.getfield 43, 3) := by decide +kernel
theorem dX11_pence_35 : decode cX11_pence 35 = .ok (.getfield 111, 3) := by decide +kernel
theorem dX11_pence_38 : decode cX11_pence 38 = .ok (.iload_n 1, 1) := by decide +kernel
theorem dX11_pence_39 : decode cX11_pence 39 = .ok (.iload_n 2, 1) := by decide +kernel
theorem dX11_pence_40 : decode cX11_pence 40 = .ok (.invokevirtual 228, 3) := by decide +kernel
theorem dX11_pence_43 : decode cX11_pence 43 = .ok (.ireturn, 1) := by decide +kernel
theorem dX11_rests_0 : decode cX11_rests 0 = .ok (.aload_n 0, 1) := by decide +kernel
theorem dX11_rests_1 : decode cX11_rests 1 = .ok (.getfield 43, 3) := by decide +kernel
theorem dX11_rests_4 : decode cX11_rests 4 = .ok (.getfield 111, 3) := by decide +kernel
theorem dX11_rests_7 : decode cX11_rests 7 = .ok (.iload_n 1, 1) := by decide +kernel
theorem dX11_rests_8 : decode cX11_rests 8 = .ok (.invokevirtual 139, 3) := by decide +kernel
theorem dX11_rests_11 : decode cX11_rests 11 = .ok (.ifCond .eq 22, 3) := by decide +kernel
theorem dX11_rests_14 : decode cX11_rests 14 = .ok (.aload_n 0, 1) := by decide +kernel
theorem dX11_rests_15 : decode cX11_rests 15 = .ok (.getfield 43, 3) := by decide +kernel
theorem dX11_rests_18 : decode cX11_rests 18 = .ok (.getfield 111, 3) := by decide +kernel
theorem dX11_rests_21 : decode cX11_rests 21 = .ok (.iload_n 2, 1) := by decide +kernel
theorem dX11_rests_22 : decode cX11_rests 22 = .ok (.invokevirtual 139, 3) := by decide +kernel
theorem dX11_rests_25 : decode cX11_rests 25 = .ok (.ifCond .eq 8, 3) := by decide +kernel
theorem dX11_rests_28 : decode cX11_rests 28 = .ok (.iload_n 1, 1) := by decide +kernel
theorem dX11_rests_29 : decode cX11_rests 29 = .ok (.iload_n 2, 1) := by decide +kernel
theorem dX11_rests_30 : decode cX11_rests 30 = .ok (.if_icmp .ne 5, 3) := by decide +kernel
theorem dX11_rests_33 : decode cX11_rests 33 = .ok (.iconst (-1), 1) := by decide +kernel
theorem dX11_rests_34 : decode cX11_rests 34 = .ok (.ireturn, 1) := by decide +kernel
theorem dX11_rests_35 : decode cX11_rests 35 = .ok (.iload_n 3, 1) := by decide +kernel
theorem dX11_rests_36 : decode cX11_rests 36 = .ok (.iconst 1, 1) := by decide +kernel
theorem dX11_rests_37 : decode cX11_rests 37 = .ok (.bipush 20, 2) := by decide +kernel
theorem dX11_rests_39 : decode cX11_rests 39 = .ok (.invokestatic 90, 3) := by decide +kernel
theorem dX11_rests_42 : decode cX11_rests 42 = .ok (.ifCond .eq 13, 3) := by decide +kernel
theorem dX11_rests_45 : decode cX11_rests 45 = .ok (.iload 4, 2) := by decide +kernel
theorem dX11_rests_47 : decode cX11_rests 47 = .ok (.iconst 0, 1) := by decide +kernel
theorem dX11_rests_48 : decode cX11_rests 48 = .ok (.iconst 2, 1) := by decide +kernel
theorem dX11_rests_49 : decode cX11_rests 49 = .ok (.invokestatic 90, 3) := by decide +kernel
theorem dX11_rests_52 : decode cX11_rests 52 = .ok (.ifCond .ne 5, 3) := by decide +kernel
theorem dX11_rests_55 : decode cX11_rests 55 = .ok (.iconst (-1), 1) := by decide +kernel
theorem dX11_rests_56 : decode cX11_rests 56 = .ok (.ireturn, 1) := by decide +kernel
theorem dX11_rests_57 : decode cX11_rests 57 = .ok (.aload_n 0, 1) := by decide +kernel
theorem dX11_rests_58 : decode cX11_rests 58 = .ok (.getfield 68, 3) := by decide +kernel
theorem dX11_rests_61 : decode cX11_rests 61 = .ok (.aload_n 0, 1) := by decide +kernel
theorem dX11_rests_62 : decode cX11_rests 62 = .ok (.getfield 61, 3) := by decide +kernel
theorem dX11_rests_65 : decode cX11_rests 65 = .ok (.aload_n 0, 1) := by decide +kernel
theorem dX11_rests_66 : decode cX11_rests 66 = .ok (.getfield 43, 3) := by decide +kernel
theorem dX11_rests_69 : decode cX11_rests 69 = .ok (.getfield 111, 3) := by decide +kernel
theorem dX11_rests_72 : decode cX11_rests 72 = .ok (.aload_n 0, 1) := by decide +kernel
theorem dX11_rests_73 : decode cX11_rests 73 = .ok (.invokevirtual 159, 3) := by decide +kernel
theorem dX11_rests_76 : decode cX11_rests 76 = .ok (.iload_n 1, 1) := by decide +kernel
theorem dX11_rests_77 : decode cX11_rests 77 = .ok (.iload_n 2, 1) := by decide +kernel
theorem dX11_rests_78 : decode cX11_rests 78 = .ok (.iload_n 3, 1) := by decide +kernel
theorem dX11_rests_79 : decode cX11_rests 79 = .ok (.invokevirtual 221, 3) := by decide +kernel
theorem dX11_rests_82 : decode cX11_rests 82 = .ok (.aload_n 0, 1) := by decide +kernel
theorem dX11_rests_83 : decode cX11_rests 83 = .ok (.getfield 68, 3) := by decide +kernel
theorem dX11_rests_86 : decode cX11_rests 86 = .ok (.aload_n 0, 1) := by decide +kernel
theorem dX11_rests_87 : decode cX11_rests 87 = .ok (.getfield 43, 3) := by decide +kernel
theorem dX11_rests_90 : decode cX11_rests 90 = .ok (.getfield 111, 3) := by decide +kernel
theorem dX11_rests_93 : decode cX11_rests 93 = .ok (.getfield 124, 3) := by decide +kernel
theorem dX11_rests_96 : decode cX11_rests 96 = .ok (.iconst 3, 1) := by decide +kernel
theorem dX11_rests_97 : decode cX11_rests 97 = .ok (.iaload, 1) := by decide +kernel
theorem dX11_rests_98 : decode cX11_rests 98 = .ok (.iload 4, 2) := by decide +kernel
theorem dX11_rests_100 : decode cX11_rests 100 = .ok (.invokevirtual 225, 3) := by decide +kernel
theorem dX11_rests_103 : decode cX11_rests 103 = .ok (.ireturn, 1) := by decide +kernel
theorem dX11_round_0 : decode cX11_round 0 = .ok (.aload_n 0, 1) := by decide +kernel
theorem dX11_round_1 : decode cX11_round 1 = .ok (.getfield 43, 3) := by decide +kernel
theorem dX11_round_4 : decode cX11_round 4 = .ok (.getfield 111, 3) := by decide +kernel
theorem dX11_round_7 : decode cX11_round 7 = .ok (.invokevirtual 152, 3) := by decide +kernel
theorem dX11_round_10 : decode cX11_round 10 = .ok (.ifCond .eq 21, 3) := by decide +kernel
theorem dX11_round_13 : decode cX11_round 13 = .ok (.aload_n 0, 1) := by decide +kernel
theorem dX11_round_14 : decode cX11_round 14 = .ok (.getfield 43, 3) := by decide +kernel
theorem dX11_round_17 : decode cX11_round 17 = .ok (.getfield 111, 3) := by decide +kernel
theorem dX11_round_20 : decode cX11_round 20 = .ok (.getfield 124, 3) := by decide +kernel
theorem dX11_round_23 : decode cX11_round 23 = .ok (.iconst 5, 1) := by decide +kernel
theorem dX11_round_24 : decode cX11_round 24 = .ok (.iaload, 1) := by decide +kernel
theorem dX11_round_25 : decode cX11_round 25 = .ok (.sipush 999, 3) := by decide +kernel
theorem dX11_round_28 : decode cX11_round 28 = .ok (.if_icmp .lt 5, 3) := by decide +kernel
theorem dX11_round_31 : decode cX11_round 31 = .ok (.iconst (-1), 1) := by decide +kernel
theorem dX11_round_32 : decode cX11_round 32 = .ok (.ireturn, 1) := by decide +kernel
theorem dX11_round_33 : decode cX11_round 33 = .ok (.aload_n 0, 1) := by decide +kernel
theorem dX11_round_34 : decode cX11_round 34 = .ok (.getfield 54, 3) := by decide +kernel
theorem dX11_round_37 : decode cX11_round 37 = .ok (.aload_n 0, 1) := by decide +kernel
theorem dX11_round_38 : decode cX11_round 38 = .ok (.getfield 43, 3) := by decide +kernel
theorem dX11_round_41 : decode cX11_round 41 = .ok (.getfield 111, 3) := by decide +kernel
theorem dX11_round_44 : decode cX11_round 44 = .ok (.invokevirtual 156, 3) := by decide +kernel
theorem dX11_round_47 : decode cX11_round 47 = .ok (.aload_n 0, 1) := by decide +kernel
theorem dX11_round_48 : decode cX11_round 48 = .ok (.getfield 61, 3) := by decide +kernel
theorem dX11_round_51 : decode cX11_round 51 = .ok (.aload_n 0, 1) := by decide +kernel
theorem dX11_round_52 : decode cX11_round 52 = .ok (.getfield 43, 3) := by decide +kernel
theorem dX11_round_55 : decode cX11_round 55 = .ok (.getfield 111, 3) := by decide +kernel
theorem dX11_round_58 : decode cX11_round 58 = .ok (.aload_n 0, 1) := by decide +kernel
theorem dX11_round_59 : decode cX11_round 59 = .ok (.invokevirtual 159, 3) := by decide +kernel
theorem dX11_round_62 : decode cX11_round 62 = .ok (.invokevirtual 162, 3) := by decide +kernel
theorem dX11_round_65 : decode cX11_round 65 = .ok (.aload_n 0, 1) := by decide +kernel
theorem dX11_round_66 : decode cX11_round 66 = .ok (.getfield 61, 3) := by decide +kernel
theorem dX11_round_69 : decode cX11_round 69 = .ok (.invokevirtual 166, 3) := by decide +kernel
theorem dX11_round_72 : decode cX11_round 72 = .ok (.istore_n 1, 1) := by decide +kernel
theorem dX11_round_73 : decode cX11_round 73 = .ok (.aload_n 0, 1) := by decide +kernel
theorem dX11_round_74 : decode cX11_round 74 = .ok (.getfield 43, 3) := by decide +kernel
theorem dX11_round_77 : decode cX11_round 77 = .ok (.getfield 111, 3) := by decide +kernel
theorem dX11_round_80 : decode cX11_round 80 = .ok (.aload_n 0, 1) := by decide +kernel
theorem dX11_round_81 : decode cX11_round 81 = .ok (.getfield 61, 3) := by decide +kernel
theorem dX11_round_84 : decode cX11_round 84 = .ok (.getfield 170, 3) := by decide +kernel
theorem dX11_round_87 : decode cX11_round 87 = .ok (.invokevirtual 105, 3) := by decide +kernel
theorem dX11_round_90 : decode cX11_round 90 = .ok (.iload_n 1, 1) := by decide +kernel
theorem dX11_round_91 : decode cX11_round 91 = .ok (.ireturn, 1) := by decide +kernel
theorem dX11_ruled_0 : decode cX11_ruled 0 = .ok (.aload_n 0, 1) := by decide +kernel
theorem dX11_ruled_1 : decode cX11_ruled 1 = .ok (.getfield 43, 3) := by decide +kernel
theorem dX11_ruled_4 : decode cX11_ruled 4 = .ok (.getfield 111, 3) := by decide +kernel
theorem dX11_ruled_7 : decode cX11_ruled 7 = .ok (.invokevirtual 152, 3) := by decide +kernel
theorem dX11_ruled_10 : decode cX11_ruled 10 = .ok (.ifCond .eq 12, 3) := by decide +kernel
theorem dX11_ruled_13 : decode cX11_ruled 13 = .ok (.iload_n 1, 1) := by decide +kernel
theorem dX11_ruled_14 : decode cX11_ruled 14 = .ok (.iconst 0, 1) := by decide +kernel
theorem dX11_ruled_15 : decode cX11_ruled 15 = .ok (.iconst 1, 1) := by decide +kernel
theorem dX11_ruled_16 : decode cX11_ruled 16 = .ok (.invokestatic 90, 3) := by decide +kernel
theorem dX11_ruled_19 : decode cX11_ruled 19 = .ok (.ifCond .ne 6, 3) := by decide +kernel
theorem dX11_ruled_22 : decode cX11_ruled 22 = .ok (.bipush (-3), 2) := by decide +kernel
theorem dX11_ruled_24 : decode cX11_ruled 24 = .ok (.ireturn, 1) := by decide +kernel
theorem dX11_ruled_25 : decode cX11_ruled 25 = .ok (.aload_n 0, 1) := by decide +kernel
theorem dX11_ruled_26 : decode cX11_ruled 26 = .ok (.getfield 75, 3) := by decide +kernel
theorem dX11_ruled_29 : decode cX11_ruled 29 = .ok (.aload_n 0, 1) := by decide +kernel
theorem dX11_ruled_30 : decode cX11_ruled 30 = .ok (.getfield 61, 3) := by decide +kernel
theorem dX11_ruled_33 : decode cX11_ruled 33 = .ok (.aload_n 0, 1) := by decide +kernel
theorem dX11_ruled_34 : decode cX11_ruled 34 = .ok (.getfield 43, 3) := by decide +kernel
theorem dX11_ruled_37 : decode cX11_ruled 37 = .ok (.aload_n 0, 1) := by decide +kernel
theorem dX11_ruled_38 : decode cX11_ruled 38 = .ok (.getfield 32, 3) := by decide +kernel
theorem dX11_ruled_41 : decode cX11_ruled 41 = .ok (.aload_n 0, 1) := by decide +kernel
theorem dX11_ruled_42 : decode cX11_ruled 42 = .ok (.getfield 36, 3) := by decide +kernel
theorem dX11_ruled_45 : decode cX11_ruled 45 = .ok (.iconst (-1), 1) := by decide +kernel
theorem dX11_ruled_46 : decode cX11_ruled 46 = .ok (.invokevirtual 243, 3) := by decide +kernel
theorem dX11_ruled_49 : decode cX11_ruled 49 = .ok (.iload_n 1, 1) := by decide +kernel
theorem dX11_ruled_50 : decode cX11_ruled 50 = .ok (.ifCond .ne 11, 3) := by decide +kernel
theorem dX11_ruled_53 : decode cX11_ruled 53 = .ok (.aload_n 0, 1) := by decide +kernel
theorem dX11_ruled_54 : decode cX11_ruled 54 = .ok (.getfield 75, 3) := by decide +kernel
theorem dX11_ruled_57 : decode cX11_ruled 57 = .ok (.getfield 247, 3) := by decide +kernel
theorem dX11_ruled_60 : decode cX11_ruled 60 = .ok (.ireturn, 1) := by decide +kernel
theorem dX11_ruled_61 : decode cX11_ruled 61 = .ok (.aload_n 0, 1) := by decide +kernel
theorem dX11_ruled_62 : decode cX11_ruled 62 = .ok (.getfield 75, 3) := by decide +kernel
theorem dX11_ruled_65 : decode cX11_ruled 65 = .ok (.getfield 247, 3) := by decide +kernel
theorem dX11_ruled_68 : decode cX11_ruled 68 = .ok (.ifCond .ne 8, 3) := by decide +kernel
theorem dX11_ruled_71 : decode cX11_ruled 71 = .ok (.bipush (-2), 2) := by decide +kernel
theorem dX11_ruled_73 : decode cX11_ruled 73 = .ok (.goto 10, 3) := by decide +kernel
theorem dX11_ruled_76 : decode cX11_ruled 76 = .ok (.aload_n 0, 1) := by decide +kernel
theorem dX11_ruled_77 : decode cX11_ruled 77 = .ok (.getfield 75, 3) := by decide +kernel
theorem dX11_ruled_80 : decode cX11_ruled 80 = .ok (.getfield 250, 3) := by decide +kernel
theorem dX11_ruled_83 : decode cX11_ruled 83 = .ok (.ireturn, 1) := by decide +kernel
theorem dX11_shoot_0 : decode cX11_shoot 0 = .ok (.aload_n 0, 1) := by decide +kernel
theorem dX11_shoot_1 : decode cX11_shoot 1 = .ok (.getfield 43, 3) := by decide +kernel
theorem dX11_shoot_4 : decode cX11_shoot 4 = .ok (.getfield 111, 3) := by decide +kernel
theorem dX11_shoot_7 : decode cX11_shoot 7 = .ok (.astore_n 3, 1) := by decide +kernel
theorem dX11_shoot_8 : decode cX11_shoot 8 = .ok (.aload_n 3, 1) := by decide +kernel
theorem dX11_shoot_9 : decode cX11_shoot 9 = .ok (.iload_n 1, 1) := by decide +kernel
theorem dX11_shoot_10 : decode cX11_shoot 10 = .ok (.invokevirtual 139, 3) := by decide +kernel
theorem dX11_shoot_13 : decode cX11_shoot 13 = .ok (.ifCond .eq 24, 3) := by decide +kernel
theorem dX11_shoot_16 : decode cX11_shoot 16 = .ok (.aload_n 3, 1) := by decide +kernel
theorem dX11_shoot_17 : decode cX11_shoot 17 = .ok (.iload_n 2, 1) := by decide +kernel
theorem dX11_shoot_18 : decode cX11_shoot 18 = .ok (.invokevirtual 136, 3) := by decide +kernel
theorem dX11_shoot_21 : decode cX11_shoot 21 = .ok (.ifCond .eq 16, 3) := by decide +kernel
theorem dX11_shoot_24 : decode cX11_shoot 24 = .ok (.aload_n 3, 1) := by decide +kernel
theorem dX11_shoot_25 : decode cX11_shoot 25 = .ok (.getfield 124, 3) := by decide +kernel
theorem dX11_shoot_28 : decode cX11_shoot 28 = .ok (.bipush 58, 2) := by decide +kernel
theorem dX11_shoot_30 : decode cX11_shoot 30 = .ok (.iload_n 1, 1) := by decide +kernel
theorem dX11_shoot_31 : decode cX11_shoot 31 = .ok (.iadd, 1) := by decide +kernel
theorem dX11_shoot_32 : decode cX11_shoot 32 = .ok (.iaload, 1) := by decide +kernel
theorem dX11_shoot_33 : decode cX11_shoot 33 = .ok (.iconst 1, 1) := by decide +kernel
theorem dX11_shoot_34 : decode cX11_shoot 34 = .ok (.if_icmp .ge 5, 3) := by decide +kernel
theorem dX11_shoot_37 : decode cX11_shoot 37 = .ok (.iconst (-1), 1) := by decide +kernel
theorem dX11_shoot_38 : decode cX11_shoot 38 = .ok (.ireturn, 1) := by decide +kernel
theorem dX11_shoot_39 : decode cX11_shoot 39 = .ok (.aload_n 0, 1) := by decide +kernel
theorem dX11_shoot_40 : decode cX11_shoot 40 = .ok (.getfield 54, 3) := by decide +kernel
theorem dX11_shoot_43 : decode cX11_shoot 43 = .ok (.aload_n 3, 1) := by decide +kernel
theorem dX11_shoot_44 : decode cX11_shoot 44 = .ok (.invokevirtual 156, 3) := by decide +kernel
theorem dX11_shoot_47 : decode cX11_shoot 47 = .ok (.aload_n 3, 1) := by decide +kernel
theorem dX11_shoot_48 : decode cX11_shoot 48 = .ok (.iload_n 1, 1) := by decide +kernel
