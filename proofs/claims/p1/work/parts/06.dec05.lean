theorem dX3_readFrom_11 : decode cX3_readFrom 11 = .ok (.iconst 0, 1) := by decide +kernel
theorem dX3_readFrom_12 : decode cX3_readFrom 12 = .ok (.istore_n 2, 1) := by decide +kernel
theorem dX3_readFrom_13 : decode cX3_readFrom 13 = .ok (.aload_n 0, 1) := by decide +kernel
theorem dX3_readFrom_14 : decode cX3_readFrom 14 = .ok (.aload_n 1, 1) := by decide +kernel
theorem dX3_readFrom_15 : decode cX3_readFrom 15 = .ok (.iload_n 2, 1) := by decide +kernel
theorem dX3_readFrom_16 : decode cX3_readFrom 16 = .ok (.invokevirtual 26, 3) := by decide +kernel
theorem dX3_readFrom_19 : decode cX3_readFrom 19 = .ok (.iinc 2 1, 3) := by decide +kernel
theorem dX3_readFrom_22 : decode cX3_readFrom 22 = .ok (.iload_n 2, 1) := by decide +kernel
theorem dX3_readFrom_23 : decode cX3_readFrom 23 = .ok (.sipush 400, 3) := by decide +kernel
theorem dX3_readFrom_26 : decode cX3_readFrom 26 = .ok (.if_icmp .gt 10, 3) := by decide +kernel
theorem dX3_readFrom_29 : decode cX3_readFrom 29 = .ok (.aload_n 1, 1) := by decide +kernel
theorem dX3_readFrom_30 : decode cX3_readFrom 30 = .ok (.invokevirtual 30, 3) := by decide +kernel
theorem dX3_readFrom_33 : decode cX3_readFrom 33 = .ok (.ifCond .ne (-20), 3) := by decide +kernel
theorem dX3_readFrom_36 : decode cX3_readFrom 36 = .ok (.aload_n 1, 1) := by decide +kernel
theorem dX3_readFrom_37 : decode cX3_readFrom 37 = .ok (.getfield 34, 3) := by decide +kernel
theorem dX3_readFrom_40 : decode cX3_readFrom 40 = .ok (.ifCond .ne 7, 3) := by decide +kernel
theorem dX3_readFrom_43 : decode cX3_readFrom 43 = .ok (.aload_n 0, 1) := by decide +kernel
theorem dX3_readFrom_44 : decode cX3_readFrom 44 = .ok (.invokevirtual 38, 3) := by decide +kernel
theorem dX3_readFrom_47 : decode cX3_readFrom 47 = .ok (.aload_n 1, 1) := by decide +kernel
theorem dX3_readFrom_48 : decode cX3_readFrom 48 = .ok (.getfield 34, 3) := by decide +kernel
theorem dX3_readFrom_51 : decode cX3_readFrom 51 = .ok (.ireturn, 1) := by decide +kernel
theorem dX4_copyFrom_0 : decode cX4_copyFrom 0 = .ok (.aload_n 0, 1) := by decide +kernel
theorem dX4_copyFrom_1 : decode cX4_copyFrom 1 = .ok (.getfield 12, 3) := by decide +kernel
theorem dX4_copyFrom_4 : decode cX4_copyFrom 4 = .ok (.aload_n 1, 1) := by decide +kernel
theorem dX4_copyFrom_5 : decode cX4_copyFrom 5 = .ok (.getfield 12, 3) := by decide +kernel
theorem dX4_copyFrom_8 : decode cX4_copyFrom 8 = .ok (.invokevirtual 39, 3) := by decide +kernel
theorem dX4_copyFrom_11 : decode cX4_copyFrom 11 = .ok (.aload_n 0, 1) := by decide +kernel
theorem dX4_copyFrom_12 : decode cX4_copyFrom 12 = .ok (.getfield 18, 3) := by decide +kernel
theorem dX4_copyFrom_15 : decode cX4_copyFrom 15 = .ok (.aload_n 1, 1) := by decide +kernel
theorem dX4_copyFrom_16 : decode cX4_copyFrom 16 = .ok (.getfield 18, 3) := by decide +kernel
theorem dX4_copyFrom_19 : decode cX4_copyFrom 19 = .ok (.invokevirtual 39, 3) := by decide +kernel
theorem dX4_copyFrom_22 : decode cX4_copyFrom 22 = .ok (.aload_n 0, 1) := by decide +kernel
theorem dX4_copyFrom_23 : decode cX4_copyFrom 23 = .ok (.getfield 24, 3) := by decide +kernel
theorem dX4_copyFrom_26 : decode cX4_copyFrom 26 = .ok (.aload_n 1, 1) := by decide +kernel
theorem dX4_copyFrom_27 : decode cX4_copyFrom 27 = .ok (.getfield 24, 3) := by decide +kernel
theorem dX4_copyFrom_30 : decode cX4_copyFrom 30 = .ok (.invokevirtual 43, 3) := by decide +kernel
theorem dX4_copyFrom_33 : decode cX4_copyFrom 33 = .ok (.aload_n 0, 1) := by decide +kernel
theorem dX4_copyFrom_34 : decode cX4_copyFrom 34 = .ok (.aload_n 1, 1) := by decide +kernel
theorem dX4_copyFrom_35 : decode cX4_copyFrom 35 = .ok (.getfield 28, 3) := by decide +kernel
theorem dX4_copyFrom_38 : decode cX4_copyFrom 38 = .ok (.putfield 28, 3) := by decide +kernel
theorem dX4_copyFrom_41 : decode cX4_copyFrom 41 = .ok (.aload_n 0, 1) := by decide +kernel
theorem dX4_copyFrom_42 : decode cX4_copyFrom 42 = .ok (.aload_n 1, 1) := by decide +kernel
theorem dX4_copyFrom_43 : decode cX4_copyFrom 43 = .ok (.getfield 32, 3) := by decide +kernel
theorem dX4_copyFrom_46 : decode cX4_copyFrom 46 = .ok (.putfield 32, 3) := by decide +kernel
theorem dX4_copyFrom_49 : decode cX4_copyFrom 49 = .ok (.return_, 1) := by decide +kernel
theorem dX5_copyFrom_0 : decode cX5_copyFrom 0 = .ok (.aload_n 1, 1) := by decide +kernel
theorem dX5_copyFrom_1 : decode cX5_copyFrom 1 = .ok (.getfield 11, 3) := by decide +kernel
theorem dX5_copyFrom_4 : decode cX5_copyFrom 4 = .ok (.iconst 0, 1) := by decide +kernel
theorem dX5_copyFrom_5 : decode cX5_copyFrom 5 = .ok (.aload_n 0, 1) := by decide +kernel
theorem dX5_copyFrom_6 : decode cX5_copyFrom 6 = .ok (.getfield 11, 3) := by decide +kernel
theorem dX5_copyFrom_9 : decode cX5_copyFrom 9 = .ok (.iconst 0, 1) := by decide +kernel
theorem dX5_copyFrom_10 : decode cX5_copyFrom 10 = .ok (.bipush 10, 2) := by decide +kernel
theorem dX5_copyFrom_12 : decode cX5_copyFrom 12 = .ok (.invokestatic 25, 3) := by decide +kernel
theorem dX5_copyFrom_15 : decode cX5_copyFrom 15 = .ok (.aload_n 1, 1) := by decide +kernel
theorem dX5_copyFrom_16 : decode cX5_copyFrom 16 = .ok (.getfield 15, 3) := by decide +kernel
theorem dX5_copyFrom_19 : decode cX5_copyFrom 19 = .ok (.iconst 0, 1) := by decide +kernel
theorem dX5_copyFrom_20 : decode cX5_copyFrom 20 = .ok (.aload_n 0, 1) := by decide +kernel
theorem dX5_copyFrom_21 : decode cX5_copyFrom 21 = .ok (.getfield 15, 3) := by decide +kernel
theorem dX5_copyFrom_24 : decode cX5_copyFrom 24 = .ok (.iconst 0, 1) := by decide +kernel
theorem dX5_copyFrom_25 : decode cX5_copyFrom 25 = .ok (.bipush 10, 2) := by decide +kernel
theorem dX5_copyFrom_27 : decode cX5_copyFrom 27 = .ok (.invokestatic 25, 3) := by decide +kernel
theorem dX5_copyFrom_30 : decode cX5_copyFrom 30 = .ok (.aload_n 1, 1) := by decide +kernel
theorem dX5_copyFrom_31 : decode cX5_copyFrom 31 = .ok (.getfield 18, 3) := by decide +kernel
theorem dX5_copyFrom_34 : decode cX5_copyFrom 34 = .ok (.iconst 0, 1) := by decide +kernel
theorem dX5_copyFrom_35 : decode cX5_copyFrom 35 = .ok (.aload_n 0, 1) := by decide +kernel
theorem dX5_copyFrom_36 : decode cX5_copyFrom 36 = .ok (.getfield 18, 3) := by decide +kernel
theorem dX5_copyFrom_39 : decode cX5_copyFrom 39 = .ok (.iconst 0, 1) := by decide +kernel
theorem dX5_copyFrom_40 : decode cX5_copyFrom 40 = .ok (.bipush 10, 2) := by decide +kernel
theorem dX5_copyFrom_42 : decode cX5_copyFrom 42 = .ok (.invokestatic 25, 3) := by decide +kernel
theorem dX5_copyFrom_45 : decode cX5_copyFrom 45 = .ok (.aload_n 0, 1) := by decide +kernel
theorem dX5_copyFrom_46 : decode cX5_copyFrom 46 = .ok (.aload_n 1, 1) := by decide +kernel
theorem dX5_copyFrom_47 : decode cX5_copyFrom 47 = .ok (.getfield 21, 3) := by decide +kernel
theorem dX5_copyFrom_50 : decode cX5_copyFrom 50 = .ok (.putfield 21, 3) := by decide +kernel
theorem dX5_copyFrom_53 : decode cX5_copyFrom 53 = .ok (.return_, 1) := by decide +kernel
theorem dX8_readFrom_0 : decode cX8_readFrom 0 = .ok (.aload_n 1, 1) := by decide +kernel
theorem dX8_readFrom_1 : decode cX8_readFrom 1 = .ok (.invokevirtual 24, 3) := by decide +kernel
theorem dX8_readFrom_4 : decode cX8_readFrom 4 = .ok (.aload_n 0, 1) := by decide +kernel
theorem dX8_readFrom_5 : decode cX8_readFrom 5 = .ok (.iconst 0, 1) := by decide +kernel
theorem dX8_readFrom_6 : decode cX8_readFrom 6 = .ok (.putfield 17, 3) := by decide +kernel
theorem dX8_readFrom_9 : decode cX8_readFrom 9 = .ok (.aload_n 0, 1) := by decide +kernel
theorem dX8_readFrom_10 : decode cX8_readFrom 10 = .ok (.iconst 0, 1) := by decide +kernel
theorem dX8_readFrom_11 : decode cX8_readFrom 11 = .ok (.putfield 21, 3) := by decide +kernel
theorem dX8_readFrom_14 : decode cX8_readFrom 14 = .ok (.iconst 0, 1) := by decide +kernel
theorem dX8_readFrom_15 : decode cX8_readFrom 15 = .ok (.istore_n 2, 1) := by decide +kernel
theorem dX8_readFrom_16 : decode cX8_readFrom 16 = .ok (.aload_n 0, 1) := by decide +kernel
theorem dX8_readFrom_17 : decode cX8_readFrom 17 = .ok (.aload_n 1, 1) := by decide +kernel
theorem dX8_readFrom_18 : decode cX8_readFrom 18 = .ok (.iload_n 2, 1) := by decide +kernel
theorem dX8_readFrom_19 : decode cX8_readFrom 19 = .ok (.invokevirtual 27, 3) := by decide +kernel
theorem dX8_readFrom_22 : decode cX8_readFrom 22 = .ok (.iinc 2 1, 3) := by decide +kernel
theorem dX8_readFrom_25 : decode cX8_readFrom 25 = .ok (.iload_n 2, 1) := by decide +kernel
theorem dX8_readFrom_26 : decode cX8_readFrom 26 = .ok (.sipush 400, 3) := by decide +kernel
theorem dX8_readFrom_29 : decode cX8_readFrom 29 = .ok (.if_icmp .gt 10, 3) := by decide +kernel
theorem dX8_readFrom_32 : decode cX8_readFrom 32 = .ok (.aload_n 1, 1) := by decide +kernel
theorem dX8_readFrom_33 : decode cX8_readFrom 33 = .ok (.invokevirtual 31, 3) := by decide +kernel
theorem dX8_readFrom_36 : decode cX8_readFrom 36 = .ok (.ifCond .ne (-20), 3) := by decide +kernel
theorem dX8_readFrom_39 : decode cX8_readFrom 39 = .ok (.aload_n 1, 1) := by decide +kernel
theorem dX8_readFrom_40 : decode cX8_readFrom 40 = .ok (.getfield 35, 3) := by decide +kernel
theorem dX8_readFrom_43 : decode cX8_readFrom 43 = .ok (.ireturn, 1) := by decide +kernel
theorem dX10_addBytes_0 : decode cX10_addBytes 0 = .ok (.bipush 24, 2) := by decide +kernel
theorem dX10_addBytes_2 : decode cX10_addBytes 2 = .ok (.istore_n 2, 1) := by decide +kernel
theorem dX10_addBytes_3 : decode cX10_addBytes 3 = .ok (.iload_n 2, 1) := by decide +kernel
theorem dX10_addBytes_4 : decode cX10_addBytes 4 = .ok (.ifCond .lt 45, 3) := by decide +kernel
theorem dX10_addBytes_7 : decode cX10_addBytes 7 = .ok (.aload_n 0, 1) := by decide +kernel
theorem dX10_addBytes_8 : decode cX10_addBytes 8 = .ok (.getfield 15, 3) := by decide +kernel
theorem dX10_addBytes_11 : decode cX10_addBytes 11 = .ok (.sipush 400, 3) := by decide +kernel
theorem dX10_addBytes_14 : decode cX10_addBytes 14 = .ok (.if_icmp .ge 35, 3) := by decide +kernel
theorem dX10_addBytes_17 : decode cX10_addBytes 17 = .ok (.aload_n 0, 1) := by decide +kernel
theorem dX10_addBytes_18 : decode cX10_addBytes 18 = .ok (.getfield 11, 3) := by decide +kernel
theorem dX10_addBytes_21 : decode cX10_addBytes 21 = .ok (.aload_n 0, 1) := by decide +kernel
theorem dX10_addBytes_22 : decode cX10_addBytes 22 = .ok (.getfield 15, 3) := by decide +kernel
theorem dX10_addBytes_25 : decode cX10_addBytes 25 = .ok (.iload_n 1, 1) := by decide +kernel
theorem dX10_addBytes_26 : decode cX10_addBytes 26 = .ok (.iload_n 2, 1) := by decide +kernel
theorem dX10_addBytes_27 : decode cX10_addBytes 27 = .ok (.iushr, 1) := by decide +kernel
theorem dX10_addBytes_28 : decode cX10_addBytes 28 = .ok (.sipush 255, 3) := by decide +kernel
theorem dX10_addBytes_31 : decode cX10_addBytes 31 = .ok (.iand, 1) := by decide +kernel
theorem dX10_addBytes_32 : decode cX10_addBytes 32 = .ok (.iastore, 1) := by decide +kernel
theorem dX10_addBytes_33 : decode cX10_addBytes 33 = .ok (.aload_n 0, 1) := by decide +kernel
theorem dX10_addBytes_34 : decode cX10_addBytes 34 = .ok (.dup, 1) := by decide +kernel
theorem dX10_addBytes_35 : decode cX10_addBytes 35 = .ok (.getfield 15, 3) := by decide +kernel
theorem dX10_addBytes_38 : decode cX10_addBytes 38 = .ok (.iconst 1, 1) := by decide +kernel
theorem dX10_addBytes_39 : decode cX10_addBytes 39 = .ok (.iadd, 1) := by decide +kernel
theorem dX10_addBytes_40 : decode cX10_addBytes 40 = .ok (.putfield 15, 3) := by decide +kernel
theorem dX10_addBytes_43 : decode cX10_addBytes 43 = .ok (.iinc 2 (-8), 3) := by decide +kernel
theorem dX10_addBytes_46 : decode cX10_addBytes 46 = .ok (.goto (-43), 3) := by decide +kernel
theorem dX10_addBytes_49 : decode cX10_addBytes 49 = .ok (.return_, 1) := by decide +kernel
theorem dX10_addToken_0 : decode cX10_addToken 0 = .ok (.aload_n 0, 1) := by decide +kernel
theorem dX10_addToken_1 : decode cX10_addToken 1 = .ok (.getfield 28, 3) := by decide +kernel
theorem dX10_addToken_4 : decode cX10_addToken 4 = .ok (.sipush 400, 3) := by decide +kernel
theorem dX10_addToken_7 : decode cX10_addToken 7 = .ok (.if_icmp .gt 43, 3) := by decide +kernel
theorem dX10_addToken_10 : decode cX10_addToken 10 = .ok (.aload_n 0, 1) := by decide +kernel
theorem dX10_addToken_11 : decode cX10_addToken 11 = .ok (.getfield 19, 3) := by decide +kernel
theorem dX10_addToken_14 : decode cX10_addToken 14 = .ok (.aload_n 0, 1) := by decide +kernel
theorem dX10_addToken_15 : decode cX10_addToken 15 = .ok (.getfield 28, 3) := by decide +kernel
theorem dX10_addToken_18 : decode cX10_addToken 18 = .ok (.iload_n 1, 1) := by decide +kernel
theorem dX10_addToken_19 : decode cX10_addToken 19 = .ok (.iastore, 1) := by decide +kernel
theorem dX10_addToken_20 : decode cX10_addToken 20 = .ok (.aload_n 0, 1) := by decide +kernel
theorem dX10_addToken_21 : decode cX10_addToken 21 = .ok (.getfield 22, 3) := by decide +kernel
theorem dX10_addToken_24 : decode cX10_addToken 24 = .ok (.aload_n 0, 1) := by decide +kernel
theorem dX10_addToken_25 : decode cX10_addToken 25 = .ok (.getfield 28, 3) := by decide +kernel
theorem dX10_addToken_28 : decode cX10_addToken 28 = .ok (.iload_n 2, 1) := by decide +kernel
theorem dX10_addToken_29 : decode cX10_addToken 29 = .ok (.iastore, 1) := by decide +kernel
theorem dX10_addToken_30 : decode cX10_addToken 30 = .ok (.aload_n 0, 1) := by decide +kernel
theorem dX10_addToken_31 : decode cX10_addToken 31 = .ok (.getfield 25, 3) := by decide +kernel
theorem dX10_addToken_34 : decode cX10_addToken 34 = .ok (.aload_n 0, 1) := by decide +kernel
theorem dX10_addToken_35 : decode cX10_addToken 35 = .ok (.getfield 28, 3) := by decide +kernel
theorem dX10_addToken_38 : decode cX10_addToken 38 = .ok (.iload_n 3, 1) := by decide +kernel
theorem dX10_addToken_39 : decode cX10_addToken 39 = .ok (.iastore, 1) := by decide +kernel
theorem dX10_addToken_40 : decode cX10_addToken 40 = .ok (.aload_n 0, 1) := by decide +kernel
theorem dX10_addToken_41 : decode cX10_addToken 41 = .ok (.dup, 1) := by decide +kernel
theorem dX10_addToken_42 : decode cX10_addToken 42 = .ok (.getfield 28, 3) := by decide +kernel
theorem dX10_addToken_45 : decode cX10_addToken 45 = .ok (.iconst 1, 1) := by decide +kernel
theorem dX10_addToken_46 : decode cX10_addToken 46 = .ok (.iadd, 1) := by decide +kernel
theorem dX10_addToken_47 : decode cX10_addToken 47 = .ok (.putfield 28, 3) := by decide +kernel
theorem dX10_addToken_50 : decode cX10_addToken 50 = .ok (.return_, 1) := by decide +kernel
theorem dX11_allEased_0 : decode cX11_allEased 0 = .ok (.aload_n 0, 1) := by decide +kernel
theorem dX11_allEased_1 : decode cX11_allEased 1 = .ok (.getfield 43, 3) := by decide +kernel
theorem dX11_allEased_4 : decode cX11_allEased 4 = .ok (.getfield 111, 3) := by decide +kernel
theorem dX11_allEased_7 : decode cX11_allEased 7 = .ok (.invokevirtual 152, 3) := by decide +kernel
theorem dX11_allEased_10 : decode cX11_allEased 10 = .ok (.ifCond .ne 5, 3) := by decide +kernel
theorem dX11_allEased_13 : decode cX11_allEased 13 = .ok (.iconst (-1), 1) := by decide +kernel
theorem dX11_allEased_14 : decode cX11_allEased 14 = .ok (.ireturn, 1) := by decide +kernel
theorem dX11_allEased_15 : decode cX11_allEased 15 = .ok (.aload_n 0, 1) := by decide +kernel
theorem dX11_allEased_16 : decode cX11_allEased 16 = .ok (.getfield 61, 3) := by decide +kernel
theorem dX11_allEased_19 : decode cX11_allEased 19 = .ok (.aload_n 0, 1) := by decide +kernel
theorem dX11_allEased_20 : decode cX11_allEased 20 = .ok (.getfield 43, 3) := by decide +kernel
theorem dX11_allEased_23 : decode cX11_allEased 23 = .ok (.getfield 111, 3) := by decide +kernel
theorem dX11_allEased_26 : decode cX11_allEased 26 = .ok (.aload_n 0, 1) := by decide +kernel
theorem dX11_allEased_27 : decode cX11_allEased 27 = .ok (.invokevirtual 159, 3) := by decide +kernel
theorem dX11_allEased_30 : decode cX11_allEased 30 = .ok (.invokevirtual 162, 3) := by decide +kernel
theorem dX11_allEased_33 : decode cX11_allEased 33 = .ok (.aload_n 0, 1) := by decide +kernel
theorem dX11_allEased_34 : decode cX11_allEased 34 = .ok (.getfield 68, 3) := by decide +kernel
theorem dX11_allEased_37 : decode cX11_allEased 37 = .ok (.aload_n 0, 1) := by decide +kernel
theorem dX11_allEased_38 : decode cX11_allEased 38 = .ok (.getfield 61, 3) := by decide +kernel
theorem dX11_allEased_41 : decode cX11_allEased 41 = .ok (.iconst 0, 1) := by decide +kernel
theorem dX11_allEased_42 : decode cX11_allEased 42 = .ok (.aload_n 0, 1) := by decide +kernel
theorem dX11_allEased_43 : decode cX11_allEased 43 = .ok (.getfield 43, 3) := by decide +kernel
theorem dX11_allEased_46 : decode cX11_allEased 46 = .ok (.getfield 111, 3) := by decide +kernel
theorem dX11_allEased_49 : decode cX11_allEased 49 = .ok (.getfield 124, 3) := by decide +kernel
theorem dX11_allEased_52 : decode cX11_allEased 52 = .ok (.iconst 4, 1) := by decide +kernel
theorem dX11_allEased_53 : decode cX11_allEased 53 = .ok (.iaload, 1) := by decide +kernel
theorem dX11_allEased_54 : decode cX11_allEased 54 = .ok (.iconst 1, 1) := by decide +kernel
theorem dX11_allEased_55 : decode cX11_allEased 55 = .ok (.isub, 1) := by decide +kernel
theorem dX11_allEased_56 : decode cX11_allEased 56 = .ok (.invokevirtual 190, 3) := by decide +kernel
theorem dX11_allEased_59 : decode cX11_allEased 59 = .ok (.ireturn, 1) := by decide +kernel
theorem dX12_allEased_0 : decode cX12_allEased 0 = .ok (.aload_n 0, 1) := by decide +kernel
theorem dX12_allEased_1 : decode cX12_allEased 1 = .ok (.invokevirtual 294, 3) := by decide +kernel
theorem dX12_allEased_4 : decode cX12_allEased 4 = .ok (.ifCond .eq 11, 3) := by decide +kernel
theorem dX12_allEased_7 : decode cX12_allEased 7 = .ok (.aload_n 0, 1) := by decide +kernel
theorem dX12_allEased_8 : decode cX12_allEased 8 = .ok (.iconst (-1), 1) := by decide +kernel
theorem dX12_allEased_9 : decode cX12_allEased 9 = .ok (.invokevirtual 384, 3) := by decide +kernel
theorem dX12_allEased_12 : decode cX12_allEased 12 = .ok (.goto 4, 3) := by decide +kernel
theorem dX12_allEased_15 : decode cX12_allEased 15 = .ok (.iconst (-1), 1) := by decide +kernel
theorem dX12_allEased_16 : decode cX12_allEased 16 = .ok (.ireturn, 1) := by decide +kernel
theorem dX12_isArcher_0 : decode cX12_isArcher 0 = .ok (.iload_n 1, 1) := by decide +kernel
theorem dX12_isArcher_1 : decode cX12_isArcher 1 = .ok (.ifCond .lt 17, 3) := by decide +kernel
theorem dX12_isArcher_4 : decode cX12_isArcher 4 = .ok (.iload_n 1, 1) := by decide +kernel
theorem dX12_isArcher_5 : decode cX12_isArcher 5 = .ok (.aload_n 0, 1) := by decide +kernel
theorem dX12_isArcher_6 : decode cX12_isArcher 6 = .ok (.getfield 39, 3) := by decide +kernel
theorem dX12_isArcher_9 : decode cX12_isArcher 9 = .ok (.iconst 5, 1) := by decide +kernel
theorem dX12_isArcher_10 : decode cX12_isArcher 10 = .ok (.iaload, 1) := by decide +kernel
theorem dX12_isArcher_11 : decode cX12_isArcher 11 = .ok (.if_icmp .ge 7, 3) := by decide +kernel
theorem dX12_isArcher_14 : decode cX12_isArcher 14 = .ok (.iconst 1, 1) := by decide +kernel
theorem dX12_isArcher_15 : decode cX12_isArcher 15 = .ok (.goto 4, 3) := by decide +kernel
theorem dX12_isArcher_18 : decode cX12_isArcher 18 = .ok (.iconst 0, 1) := by decide +kernel
theorem dX12_isArcher_19 : decode cX12_isArcher 19 = .ok (.ireturn, 1) := by decide +kernel
theorem dX12_isLetter_0 : decode cX12_isLetter 0 = .ok (.iload_n 1, 1) := by decide +kernel
theorem dX12_isLetter_1 : decode cX12_isLetter 1 = .ok (.aload_n 0, 1) := by decide +kernel
theorem dX12_isLetter_2 : decode cX12_isLetter 2 = .ok (.getfield 89, 3) := by decide +kernel
theorem dX12_isLetter_5 : decode cX12_isLetter 5 = .ok (.if_icmp .ge 29, 3) := by decide +kernel
theorem dX12_isLetter_8 : decode cX12_isLetter 8 = .ok (.aload_n 0, 1) := by decide +kernel
theorem dX12_isLetter_9 : decode cX12_isLetter 9 = .ok (.getfield 7, 3) := by decide +kernel
theorem dX12_isLetter_12 : decode cX12_isLetter 12 = .ok (.iload_n 1, 1) := by decide +kernel
theorem dX12_isLetter_13 : decode cX12_isLetter 13 = .ok (.baload, 1) := by decide +kernel
theorem dX12_isLetter_14 : decode cX12_isLetter 14 = .ok (.bipush 97, 2) := by decide +kernel
theorem dX12_isLetter_16 : decode cX12_isLetter 16 = .ok (.if_icmp .lt 18, 3) := by decide +kernel
theorem dX12_isLetter_19 : decode cX12_isLetter 19 = .ok (.aload_n 0, 1) := by decide +kernel
theorem dX12_isLetter_20 : decode cX12_isLetter 20 = .ok (.getfield 7, 3) := by decide +kernel
theorem dX12_isLetter_23 : decode cX12_isLetter 23 = .ok (.iload_n 1, 1) := by decide +kernel
theorem dX12_isLetter_24 : decode cX12_isLetter 24 = .ok (.baload, 1) := by decide +kernel
theorem dX12_isLetter_25 : decode cX12_isLetter 25 = .ok (.bipush 122, 2) := by decide +kernel
theorem dX12_isLetter_27 : decode cX12_isLetter 27 = .ok (.if_icmp .gt 7, 3) := by decide +kernel
theorem dX12_isLetter_30 : decode cX12_isLetter 30 = .ok (.iconst 1, 1) := by decide +kernel
theorem dX12_isLetter_31 : decode cX12_isLetter 31 = .ok (.goto 4, 3) := by decide +kernel
theorem dX12_isLetter_34 : decode cX12_isLetter 34 = .ok (.iconst 0, 1) := by decide +kernel
theorem dX12_isLetter_35 : decode cX12_isLetter 35 = .ok (.ireturn, 1) := by decide +kernel
theorem dX12_readsAll_0 : decode cX12_readsAll 0 = .ok (.aload_n 0, 1) := by decide +kernel
theorem dX12_readsAll_1 : decode cX12_readsAll 1 = .ok (.getfield 17, 3) := by decide +kernel
theorem dX12_readsAll_4 : decode cX12_readsAll 4 = .ok (.aload_n 0, 1) := by decide +kernel
theorem dX12_readsAll_5 : decode cX12_readsAll 5 = .ok (.getfield 157, 3) := by decide +kernel
theorem dX12_readsAll_8 : decode cX12_readsAll 8 = .ok (.iconst 0, 1) := by decide +kernel
theorem dX12_readsAll_9 : decode cX12_readsAll 9 = .ok (.iastore, 1) := by decide +kernel
theorem dX12_readsAll_10 : decode cX12_readsAll 10 = .ok (.aload_n 0, 1) := by decide +kernel
theorem dX12_readsAll_11 : decode cX12_readsAll 11 = .ok (.iconst 0, 1) := by decide +kernel
theorem dX12_readsAll_12 : decode cX12_readsAll 12 = .ok (.putfield 255, 3) := by decide +kernel
theorem dX12_readsAll_15 : decode cX12_readsAll 15 = .ok (.aload_n 0, 1) := by decide +kernel
theorem dX12_readsAll_16 : decode cX12_readsAll 16 = .ok (.iconst 0, 1) := by decide +kernel
theorem dX12_readsAll_17 : decode cX12_readsAll 17 = .ok (.putfield 99, 3) := by decide +kernel
theorem dX12_readsAll_20 : decode cX12_readsAll 20 = .ok (.aload_n 0, 1) := by decide +kernel
theorem dX12_readsAll_21 : decode cX12_readsAll 21 = .ok (.iconst 0, 1) := by decide +kernel
theorem dX12_readsAll_22 : decode cX12_readsAll 22 = .ok (.putfield 96, 3) := by decide +kernel
theorem dX12_readsAll_25 : decode cX12_readsAll 25 = .ok (.aload_n 0, 1) := by decide +kernel
theorem dX12_readsAll_26 : decode cX12_readsAll 26 = .ok (.iconst 0, 1) := by decide +kernel
theorem dX12_readsAll_27 : decode cX12_readsAll 27 = .ok (.putfield 160, 3) := by decide +kernel
theorem dX12_readsAll_30 : decode cX12_readsAll 30 = .ok (.aload_n 0, 1) := by decide +kernel
theorem dX12_readsAll_31 : decode cX12_readsAll 31 = .ok (.invokevirtual 264, 3) := by decide +kernel
theorem dX12_readsAll_34 : decode cX12_readsAll 34 = .ok (.istore_n 1, 1) := by decide +kernel
theorem dX12_readsAll_35 : decode cX12_readsAll 35 = .ok (.iload_n 1, 1) := by decide +kernel
theorem dX12_readsAll_36 : decode cX12_readsAll 36 = .ok (.ifCond .eq 30, 3) := by decide +kernel
theorem dX12_readsAll_39 : decode cX12_readsAll 39 = .ok (.aload_n 0, 1) := by decide +kernel
theorem dX12_readsAll_40 : decode cX12_readsAll 40 = .ok (.invokevirtual 102, 3) := by decide +kernel
theorem dX12_readsAll_43 : decode cX12_readsAll 43 = .ok (.bipush 59, 2) := by decide +kernel
theorem dX12_readsAll_45 : decode cX12_readsAll 45 = .ok (.if_icmp .ne 21, 3) := by decide +kernel
theorem dX12_readsAll_48 : decode cX12_readsAll 48 = .ok (.aload_n 0, 1) := by decide +kernel
theorem dX12_readsAll_49 : decode cX12_readsAll 49 = .ok (.dup, 1) := by decide +kernel
theorem dX12_readsAll_50 : decode cX12_readsAll 50 = .ok (.getfield 99, 3) := by decide +kernel
theorem dX12_readsAll_53 : decode cX12_readsAll 53 = .ok (.iconst 1, 1) := by decide +kernel
theorem dX12_readsAll_54 : decode cX12_readsAll 54 = .ok (.iadd, 1) := by decide +kernel
theorem dX12_readsAll_55 : decode cX12_readsAll 55 = .ok (.putfield 99, 3) := by decide +kernel
theorem dX12_readsAll_58 : decode cX12_readsAll 58 = .ok (.aload_n 0, 1) := by decide +kernel
theorem dX12_readsAll_59 : decode cX12_readsAll 59 = .ok (.invokevirtual 264, 3) := by decide +kernel
theorem dX12_readsAll_62 : decode cX12_readsAll 62 = .ok (.istore_n 1, 1) := by decide +kernel
theorem dX12_readsAll_63 : decode cX12_readsAll 63 = .ok (.goto (-28), 3) := by decide +kernel
theorem dX12_readsAll_66 : decode cX12_readsAll 66 = .ok (.iload_n 1, 1) := by decide +kernel
theorem dX12_readsAll_67 : decode cX12_readsAll 67 = .ok (.ifCond .eq 21, 3) := by decide +kernel
theorem dX12_readsAll_70 : decode cX12_readsAll 70 = .ok (.aload_n 0, 1) := by decide +kernel
theorem dX12_readsAll_71 : decode cX12_readsAll 71 = .ok (.invokevirtual 102, 3) := by decide +kernel
theorem dX12_readsAll_74 : decode cX12_readsAll 74 = .ok (.iconst (-1), 1) := by decide +kernel
theorem dX12_readsAll_75 : decode cX12_readsAll 75 = .ok (.if_icmp .eq 13, 3) := by decide +kernel
theorem dX12_readsAll_78 : decode cX12_readsAll 78 = .ok (.aload_n 0, 1) := by decide +kernel
theorem dX12_readsAll_79 : decode cX12_readsAll 79 = .ok (.iconst 0, 1) := by decide +kernel
theorem dX12_readsAll_80 : decode cX12_readsAll 80 = .ok (.aload_n 0, 1) := by decide +kernel
theorem dX12_readsAll_81 : decode cX12_readsAll 81 = .ok (.getfield 99, 3) := by decide +kernel
theorem dX12_readsAll_84 : decode cX12_readsAll 84 = .ok (.invokevirtual 120, 3) := by decide +kernel
theorem dX12_readsAll_87 : decode cX12_readsAll 87 = .ok (.pop, 1) := by decide +kernel
theorem dX12_readsAll_88 : decode cX12_readsAll 88 = .ok (.aload_n 0, 1) := by decide +kernel
theorem dX12_readsAll_89 : decode cX12_readsAll 89 = .ok (.iconst 0, 1) := by decide +kernel
theorem dX12_readsAll_90 : decode cX12_readsAll 90 = .ok (.putfield 89, 3) := by decide +kernel
theorem dX12_readsAll_93 : decode cX12_readsAll 93 = .ok (.aload_n 0, 1) := by decide +kernel
theorem dX12_readsAll_94 : decode cX12_readsAll 94 = .ok (.getfield 96, 3) := by decide +kernel
theorem dX12_readsAll_97 : decode cX12_readsAll 97 = .ok (.ifCond .ne 7, 3) := by decide +kernel
theorem dX12_readsAll_100 : decode cX12_readsAll 100 = .ok (.iconst 1, 1) := by decide +kernel
theorem dX12_readsAll_101 : decode cX12_readsAll 101 = .ok (.goto 4, 3) := by decide +kernel
theorem dX12_readsAll_104 : decode cX12_readsAll 104 = .ok (.iconst 0, 1) := by decide +kernel
theorem dX12_readsAll_105 : decode cX12_readsAll 105 = .ok (.ireturn, 1) := by decide +kernel
theorem dX1_hasArcher_0 : decode cX1_hasArcher 0 = .ok (.iload_n 1, 1) := by decide +kernel
theorem dX1_hasArcher_1 : decode cX1_hasArcher 1 = .ok (.iconst 0, 1) := by decide +kernel
theorem dX1_hasArcher_2 : decode cX1_hasArcher 2 = .ok (.aload_n 0, 1) := by decide +kernel
theorem dX1_hasArcher_3 : decode cX1_hasArcher 3 = .ok (.getfield 11, 3) := by decide +kernel
theorem dX1_hasArcher_6 : decode cX1_hasArcher 6 = .ok (.iconst 4, 1) := by decide +kernel
theorem dX1_hasArcher_7 : decode cX1_hasArcher 7 = .ok (.iaload, 1) := by decide +kernel
theorem dX1_hasArcher_8 : decode cX1_hasArcher 8 = .ok (.iconst 1, 1) := by decide +kernel
theorem dX1_hasArcher_9 : decode cX1_hasArcher 9 = .ok (.isub, 1) := by decide +kernel
theorem dX1_hasArcher_10 : decode cX1_hasArcher 10 = .ok (.invokestatic 27, 3) := by decide +kernel
theorem dX1_hasArcher_13 : decode cX1_hasArcher 13 = .ok (.ireturn, 1) := by decide +kernel
theorem dJ7_fill_53178_0 : decode cJ7_fill_53178 0 = .ok (.iconst 0, 1) := by decide +kernel
theorem dJ7_fill_53178_1 : decode cJ7_fill_53178 1 = .ok (.istore_n 2, 1) := by decide +kernel
theorem dJ7_fill_53178_2 : decode cJ7_fill_53178 2 = .ok (.aload_n 0, 1) := by decide +kernel
theorem dJ7_fill_53178_3 : decode cJ7_fill_53178 3 = .ok (.arraylength, 1) := by decide +kernel
theorem dJ7_fill_53178_4 : decode cJ7_fill_53178 4 = .ok (.istore_n 3, 1) := by decide +kernel
theorem dJ7_fill_53178_5 : decode cJ7_fill_53178 5 = .ok (.iload_n 2, 1) := by decide +kernel
theorem dJ7_fill_53178_6 : decode cJ7_fill_53178 6 = .ok (.iload_n 3, 1) := by decide +kernel
theorem dJ7_fill_53178_7 : decode cJ7_fill_53178 7 = .ok (.if_icmp .ge 13, 3) := by decide +kernel
theorem dJ7_fill_53178_10 : decode cJ7_fill_53178 10 = .ok (.aload_n 0, 1) := by decide +kernel
theorem dJ7_fill_53178_11 : decode cJ7_fill_53178 11 = .ok (.iload_n 2, 1) := by decide +kernel
theorem dJ7_fill_53178_12 : decode cJ7_fill_53178 12 = .ok (.iload_n 1, 1) := by decide +kernel
theorem dJ7_fill_53178_13 : decode cJ7_fill_53178 13 = .ok (.iastore, 1) := by decide +kernel
theorem dJ7_fill_53178_14 : decode cJ7_fill_53178 14 = .ok (.iinc 2 1, 3) := by decide +kernel
theorem dJ7_fill_53178_17 : decode cJ7_fill_53178 17 = .ok (.goto (-12), 3) := by decide +kernel
theorem dJ7_fill_53178_20 : decode cJ7_fill_53178 20 = .ok (.return_, 1) := by decide +kernel
theorem dX3_readClause_0 : decode cX3_readClause 0 = .ok (.aload_n 1, 1) := by decide +kernel
theorem dX3_readClause_1 : decode cX3_readClause 1 = .ok (.getfield 41, 3) := by decide +kernel
theorem dX3_readClause_4 : decode cX3_readClause 4 = .ok (.iconst 3, 1) := by decide +kernel
theorem dX3_readClause_5 : decode cX3_readClause 5 = .ok (.if_icmp .ne 10, 3) := by decide +kernel
theorem dX3_readClause_8 : decode cX3_readClause 8 = .ok (.aload_n 1, 1) := by decide +kernel
theorem dX3_readClause_9 : decode cX3_readClause 9 = .ok (.getfield 44, 3) := by decide +kernel
theorem dX3_readClause_12 : decode cX3_readClause 12 = .ok (.goto 4, 3) := by decide +kernel
theorem dX3_readClause_15 : decode cX3_readClause 15 = .ok (.iconst (-1), 1) := by decide +kernel
theorem dX3_readClause_16 : decode cX3_readClause 16 = .ok (.istore_n 3, 1) := by decide +kernel
theorem dX3_readClause_17 : decode cX3_readClause 17 = .ok (.iload_n 3, 1) := by decide +kernel
theorem dX3_readClause_18 : decode cX3_readClause 18 = .ok (.invokestatic 47, 3) := by decide +kernel
theorem dX3_readClause_21 : decode cX3_readClause 21 = .ok (.ifCond .ne 15, 3) := by decide +kernel
theorem dX3_readClause_24 : decode cX3_readClause 24 = .ok (.aload_n 1, 1) := by decide +kernel
theorem dX3_readClause_25 : decode cX3_readClause 25 = .ok (.aload_n 1, 1) := by decide +kernel
theorem dX3_readClause_26 : decode cX3_readClause 26 = .ok (.getfield 51, 3) := by decide +kernel
theorem dX3_readClause_29 : decode cX3_readClause 29 = .ok (.iconst 0, 1) := by decide +kernel
theorem dX3_readClause_30 : decode cX3_readClause 30 = .ok (.invokevirtual 54, 3) := by decide +kernel
theorem dX3_readClause_33 : decode cX3_readClause 33 = .ok (.goto 62, 3) := by decide +kernel
theorem dX3_readClause_36 : decode cX3_readClause 36 = .ok (.iload_n 2, 1) := by decide +kernel
theorem dX3_readClause_37 : decode cX3_readClause 37 = .ok (.bipush 40, 2) := by decide +kernel
theorem dX3_readClause_39 : decode cX3_readClause 39 = .ok (.if_icmp .ge 34, 3) := by decide +kernel
theorem dX3_readClause_42 : decode cX3_readClause 42 = .ok (.iload_n 3, 1) := by decide +kernel
theorem dX3_readClause_43 : decode cX3_readClause 43 = .ok (.bipush 13, 2) := by decide +kernel
theorem dX3_readClause_45 : decode cX3_readClause 45 = .ok (.if_icmp .ne 7, 3) := by decide +kernel
theorem dX3_readClause_48 : decode cX3_readClause 48 = .ok (.iconst 1, 1) := by decide +kernel
theorem dX3_readClause_49 : decode cX3_readClause 49 = .ok (.goto 4, 3) := by decide +kernel
theorem dX3_readClause_52 : decode cX3_readClause 52 = .ok (.iconst 0, 1) := by decide +kernel
theorem dX3_readClause_53 : decode cX3_readClause 53 = .ok (.iload_n 2, 1) := by decide +kernel
theorem dX3_readClause_54 : decode cX3_readClause 54 = .ok (.ifCond .ne 7, 3) := by decide +kernel
theorem dX3_readClause_57 : decode cX3_readClause 57 = .ok (.iconst 1, 1) := by decide +kernel
theorem dX3_readClause_58 : decode cX3_readClause 58 = .ok (.goto 4, 3) := by decide +kernel
theorem dX3_readClause_61 : decode cX3_readClause 61 = .ok (.iconst 0, 1) := by decide +kernel
theorem dX3_readClause_62 : decode cX3_readClause 62 = .ok (.if_icmp .ne 11, 3) := by decide +kernel
theorem dX3_readClause_65 : decode cX3_readClause 65 = .ok (.aload_n 0, 1) := by decide +kernel
theorem dX3_readClause_66 : decode cX3_readClause 66 = .ok (.iload_n 3, 1) := by decide +kernel
theorem dX3_readClause_67 : decode cX3_readClause 67 = .ok (.invokevirtual 58, 3) := by decide +kernel
theorem dX3_readClause_70 : decode cX3_readClause 70 = .ok (.ifCond .eq 15, 3) := by decide +kernel
theorem dX3_readClause_73 : decode cX3_readClause 73 = .ok (.aload_n 1, 1) := by decide +kernel
theorem dX3_readClause_74 : decode cX3_readClause 74 = .ok (.aload_n 1, 1) := by decide +kernel
theorem dX3_readClause_75 : decode cX3_readClause 75 = .ok (.getfield 51, 3) := by decide +kernel
theorem dX3_readClause_78 : decode cX3_readClause 78 = .ok (.iconst 4, 1) := by decide +kernel
theorem dX3_readClause_79 : decode cX3_readClause 79 = .ok (.invokevirtual 54, 3) := by decide +kernel
theorem dX3_readClause_82 : decode cX3_readClause 82 = .ok (.goto 13, 3) := by decide +kernel
theorem dX3_readClause_85 : decode cX3_readClause 85 = .ok (.aload_n 1, 1) := by decide +kernel
theorem dX3_readClause_86 : decode cX3_readClause 86 = .ok (.invokevirtual 61, 3) := by decide +kernel
theorem dX3_readClause_89 : decode cX3_readClause 89 = .ok (.aload_n 0, 1) := by decide +kernel
theorem dX3_readClause_90 : decode cX3_readClause 90 = .ok (.aload_n 1, 1) := by decide +kernel
theorem dX3_readClause_91 : decode cX3_readClause 91 = .ok (.iload_n 3, 1) := by decide +kernel
theorem dX3_readClause_92 : decode cX3_readClause 92 = .ok (.invokevirtual 64, 3) := by decide +kernel
theorem dX3_readClause_95 : decode cX3_readClause 95 = .ok (.return_, 1) := by decide +kernel
theorem dX8_readClause_0 : decode cX8_readClause 0 = .ok (.aload_n 1, 1) := by decide +kernel
theorem dX8_readClause_1 : decode cX8_readClause 1 = .ok (.bipush 14, 2) := by decide +kernel
theorem dX8_readClause_3 : decode cX8_readClause 3 = .ok (.invokevirtual 49, 3) := by decide +kernel
theorem dX8_readClause_6 : decode cX8_readClause 6 = .ok (.ifCond .ne 13, 3) := by decide +kernel
theorem dX8_readClause_9 : decode cX8_readClause 9 = .ok (.aload_n 1, 1) := by decide +kernel
theorem dX8_readClause_10 : decode cX8_readClause 10 = .ok (.aload_n 1, 1) := by decide +kernel
theorem dX8_readClause_11 : decode cX8_readClause 11 = .ok (.getfield 53, 3) := by decide +kernel
theorem dX8_readClause_14 : decode cX8_readClause 14 = .ok (.iconst 0, 1) := by decide +kernel
theorem dX8_readClause_15 : decode cX8_readClause 15 = .ok (.invokevirtual 56, 3) := by decide +kernel
theorem dX8_readClause_18 : decode cX8_readClause 18 = .ok (.return_, 1) := by decide +kernel
theorem dX8_readClause_19 : decode cX8_readClause 19 = .ok (.iload_n 2, 1) := by decide +kernel
theorem dX8_readClause_20 : decode cX8_readClause 20 = .ok (.bipush 12, 2) := by decide +kernel
theorem dX8_readClause_22 : decode cX8_readClause 22 = .ok (.if_icmp .lt 13, 3) := by decide +kernel
theorem dX8_readClause_25 : decode cX8_readClause 25 = .ok (.aload_n 1, 1) := by decide +kernel
theorem dX8_readClause_26 : decode cX8_readClause 26 = .ok (.aload_n 1, 1) := by decide +kernel
theorem dX8_readClause_27 : decode cX8_readClause 27 = .ok (.getfield 53, 3) := by decide +kernel
theorem dX8_readClause_30 : decode cX8_readClause 30 = .ok (.iconst 4, 1) := by decide +kernel
theorem dX8_readClause_31 : decode cX8_readClause 31 = .ok (.invokevirtual 56, 3) := by decide +kernel
theorem dX8_readClause_34 : decode cX8_readClause 34 = .ok (.return_, 1) := by decide +kernel
theorem dX8_readClause_35 : decode cX8_readClause 35 = .ok (.aload_n 1, 1) := by decide +kernel
theorem dX8_readClause_36 : decode cX8_readClause 36 = .ok (.invokevirtual 60, 3) := by decide +kernel
theorem dX8_readClause_39 : decode cX8_readClause 39 = .ok (.aload_n 0, 1) := by decide +kernel
theorem dX8_readClause_40 : decode cX8_readClause 40 = .ok (.aload_n 1, 1) := by decide +kernel
theorem dX8_readClause_41 : decode cX8_readClause 41 = .ok (.invokevirtual 63, 3) := by decide +kernel
theorem dX8_readClause_44 : decode cX8_readClause 44 = .ok (.aload_n 1, 1) := by decide +kernel
theorem dX8_readClause_45 : decode cX8_readClause 45 = .ok (.getfield 35, 3) := by decide +kernel
theorem dX8_readClause_48 : decode cX8_readClause 48 = .ok (.ifCond .ne 31, 3) := by decide +kernel
theorem dX8_readClause_51 : decode cX8_readClause 51 = .ok (.aload_n 1, 1) := by decide +kernel
theorem dX8_readClause_52 : decode cX8_readClause 52 = .ok (.bipush 15, 2) := by decide +kernel
theorem dX8_readClause_54 : decode cX8_readClause 54 = .ok (.invokevirtual 49, 3) := by decide +kernel
theorem dX8_readClause_57 : decode cX8_readClause 57 = .ok (.ifCond .eq 22, 3) := by decide +kernel
theorem dX8_readClause_60 : decode cX8_readClause 60 = .ok (.aload_n 1, 1) := by decide +kernel
theorem dX8_readClause_61 : decode cX8_readClause 61 = .ok (.invokevirtual 60, 3) := by decide +kernel
theorem dX8_readClause_64 : decode cX8_readClause 64 = .ok (.aload_n 0, 1) := by decide +kernel
theorem dX8_readClause_65 : decode cX8_readClause 65 = .ok (.aload_n 1, 1) := by decide +kernel
theorem dX8_readClause_66 : decode cX8_readClause 66 = .ok (.iconst 0, 1) := by decide +kernel
theorem dX8_readClause_67 : decode cX8_readClause 67 = .ok (.invokevirtual 67, 3) := by decide +kernel
theorem dX8_readClause_70 : decode cX8_readClause 70 = .ok (.aload_n 0, 1) := by decide +kernel
theorem dX8_readClause_71 : decode cX8_readClause 71 = .ok (.iconst 4, 1) := by decide +kernel
theorem dX8_readClause_72 : decode cX8_readClause 72 = .ok (.iconst 0, 1) := by decide +kernel
theorem dX8_readClause_73 : decode cX8_readClause 73 = .ok (.invokevirtual 70, 3) := by decide +kernel
theorem dX8_readClause_76 : decode cX8_readClause 76 = .ok (.goto 9, 3) := by decide +kernel
theorem dX8_readClause_79 : decode cX8_readClause 79 = .ok (.aload_n 0, 1) := by decide +kernel
theorem dX8_readClause_80 : decode cX8_readClause 80 = .ok (.iconst 3, 1) := by decide +kernel
theorem dX8_readClause_81 : decode cX8_readClause 81 = .ok (.iconst 0, 1) := by decide +kernel
theorem dX8_readClause_82 : decode cX8_readClause 82 = .ok (.invokevirtual 70, 3) := by decide +kernel
theorem dX8_readClause_85 : decode cX8_readClause 85 = .ok (.return_, 1) := by decide +kernel
theorem dX11_leastSkill_0 : decode cX11_leastSkill 0 = .ok (.aload_n 0, 1) := by decide +kernel
theorem dX11_leastSkill_1 : decode cX11_leastSkill 1 = .ok (.getfield 43, 3) := by decide +kernel
theorem dX11_leastSkill_4 : decode cX11_leastSkill 4 = .ok (.getfield 111, 3) := by decide +kernel
theorem dX11_leastSkill_7 : decode cX11_leastSkill 7 = .ok (.iload_n 1, 1) := by decide +kernel
theorem dX11_leastSkill_8 : decode cX11_leastSkill 8 = .ok (.invokevirtual 139, 3) := by decide +kernel
theorem dX11_leastSkill_11 : decode cX11_leastSkill 11 = .ok (.ifCond .eq 13, 3) := by decide +kernel
theorem dX11_leastSkill_14 : decode cX11_leastSkill 14 = .ok (.iload_n 2, 1) := by decide +kernel
theorem dX11_leastSkill_15 : decode cX11_leastSkill 15 = .ok (.iconst 1, 1) := by decide +kernel
theorem dX11_leastSkill_16 : decode cX11_leastSkill 16 = .ok (.bipush 40, 2) := by decide +kernel
theorem dX11_leastSkill_18 : decode cX11_leastSkill 18 = .ok (.invokestatic 90, 3) := by decide +kernel
theorem dX11_leastSkill_21 : decode cX11_leastSkill 21 = .ok (.ifCond .ne 5, 3) := by decide +kernel
theorem dX11_leastSkill_24 : decode cX11_leastSkill 24 = .ok (.iconst (-1), 1) := by decide +kernel
theorem dX11_leastSkill_25 : decode cX11_leastSkill 25 = .ok (.ireturn, 1) := by decide +kernel
theorem dX11_leastSkill_26 : decode cX11_leastSkill 26 = .ok (.iconst 1, 1) := by decide +kernel
theorem dX11_leastSkill_27 : decode cX11_leastSkill 27 = .ok (.istore_n 3, 1) := by decide +kernel
theorem dX11_leastSkill_28 : decode cX11_leastSkill 28 = .ok (.iload_n 3, 1) := by decide +kernel
theorem dX11_leastSkill_29 : decode cX11_leastSkill 29 = .ok (.bipush 9, 2) := by decide +kernel
theorem dX11_leastSkill_31 : decode cX11_leastSkill 31 = .ok (.if_icmp .gt 71, 3) := by decide +kernel
theorem dX11_leastSkill_34 : decode cX11_leastSkill 34 = .ok (.aload_n 0, 1) := by decide +kernel
theorem dX11_leastSkill_35 : decode cX11_leastSkill 35 = .ok (.getfield 61, 3) := by decide +kernel
theorem dX11_leastSkill_38 : decode cX11_leastSkill 38 = .ok (.aload_n 0, 1) := by decide +kernel
theorem dX11_leastSkill_39 : decode cX11_leastSkill 39 = .ok (.getfield 43, 3) := by decide +kernel
theorem dX11_leastSkill_42 : decode cX11_leastSkill 42 = .ok (.getfield 111, 3) := by decide +kernel
theorem dX11_leastSkill_45 : decode cX11_leastSkill 45 = .ok (.aload_n 0, 1) := by decide +kernel
theorem dX11_leastSkill_46 : decode cX11_leastSkill 46 = .ok (.invokevirtual 159, 3) := by decide +kernel
theorem dX11_leastSkill_49 : decode cX11_leastSkill 49 = .ok (.invokevirtual 162, 3) := by decide +kernel
theorem dX11_leastSkill_52 : decode cX11_leastSkill 52 = .ok (.aload_n 0, 1) := by decide +kernel
theorem dX11_leastSkill_53 : decode cX11_leastSkill 53 = .ok (.getfield 61, 3) := by decide +kernel
theorem dX11_leastSkill_56 : decode cX11_leastSkill 56 = .ok (.getfield 170, 3) := by decide +kernel
theorem dX11_leastSkill_59 : decode cX11_leastSkill 59 = .ok (.getfield 124, 3) := by decide +kernel
theorem dX11_leastSkill_62 : decode cX11_leastSkill 62 = .ok (.bipush 43, 2) := by decide +kernel
theorem dX11_leastSkill_64 : decode cX11_leastSkill 64 = .ok (.iload_n 1, 1) := by decide +kernel
theorem dX11_leastSkill_65 : decode cX11_leastSkill 65 = .ok (.iadd, 1) := by decide +kernel
theorem dX11_leastSkill_66 : decode cX11_leastSkill 66 = .ok (.iload_n 3, 1) := by decide +kernel
theorem dX11_leastSkill_67 : decode cX11_leastSkill 67 = .ok (.iastore, 1) := by decide +kernel
theorem dX11_leastSkill_68 : decode cX11_leastSkill 68 = .ok (.aload_n 0, 1) := by decide +kernel
theorem dX11_leastSkill_69 : decode cX11_leastSkill 69 = .ok (.getfield 61, 3) := by decide +kernel
theorem dX11_leastSkill_72 : decode cX11_leastSkill 72 = .ok (.iload_n 2, 1) := by decide +kernel
theorem dX11_leastSkill_73 : decode cX11_leastSkill 73 = .ok (.invokevirtual 187, 3) := by decide +kernel
theorem dX11_leastSkill_76 : decode cX11_leastSkill 76 = .ok (.aload_n 0, 1) := by decide +kernel
theorem dX11_leastSkill_77 : decode cX11_leastSkill 77 = .ok (.getfield 61, 3) := by decide +kernel
theorem dX11_leastSkill_80 : decode cX11_leastSkill 80 = .ok (.getfield 170, 3) := by decide +kernel
theorem dX11_leastSkill_83 : decode cX11_leastSkill 83 = .ok (.getfield 124, 3) := by decide +kernel
theorem dX11_leastSkill_86 : decode cX11_leastSkill 86 = .ok (.bipush 53, 2) := by decide +kernel
theorem dX11_leastSkill_88 : decode cX11_leastSkill 88 = .ok (.iload_n 1, 1) := by decide +kernel
theorem dX11_leastSkill_89 : decode cX11_leastSkill 89 = .ok (.iadd, 1) := by decide +kernel
theorem dX11_leastSkill_90 : decode cX11_leastSkill 90 = .ok (.iaload, 1) := by decide +kernel
theorem dX11_leastSkill_91 : decode cX11_leastSkill 91 = .ok (.ifCond .ne 5, 3) := by decide +kernel
theorem dX11_leastSkill_94 : decode cX11_leastSkill 94 = .ok (.iload_n 3, 1) := by decide +kernel
theorem dX11_leastSkill_95 : decode cX11_leastSkill 95 = .ok (.ireturn, 1) := by decide +kernel
theorem dX11_leastSkill_96 : decode cX11_leastSkill 96 = .ok (.iinc 3 1, 3) := by decide +kernel
theorem dX11_leastSkill_99 : decode cX11_leastSkill 99 = .ok (.goto (-71), 3) := by decide +kernel
theorem dX11_leastSkill_102 : decode cX11_leastSkill 102 = .ok (.bipush (-2), 2) := by decide +kernel
theorem dX11_leastSkill_104 : decode cX11_leastSkill 104 = .ok (.ireturn, 1) := by decide +kernel
theorem dX12_clauseHere_0 : decode cX12_clauseHere 0 = .ok (.aload_n 0, 1) := by decide +kernel
theorem dX12_clauseHere_1 : decode cX12_clauseHere 1 = .ok (.invokevirtual 102, 3) := by decide +kernel
theorem dX12_clauseHere_4 : decode cX12_clauseHere 4 = .ok (.pop, 1) := by decide +kernel
theorem dX12_clauseHere_5 : decode cX12_clauseHere 5 = .ok (.aload_n 0, 1) := by decide +kernel
theorem dX12_clauseHere_6 : decode cX12_clauseHere 6 = .ok (.getfield 99, 3) := by decide +kernel
theorem dX12_clauseHere_9 : decode cX12_clauseHere 9 = .ok (.istore_n 1, 1) := by decide +kernel
theorem dX12_clauseHere_10 : decode cX12_clauseHere 10 = .ok (.aload_n 0, 1) := by decide +kernel
theorem dX12_clauseHere_11 : decode cX12_clauseHere 11 = .ok (.getfield 157, 3) := by decide +kernel
theorem dX12_clauseHere_14 : decode cX12_clauseHere 14 = .ok (.bipush 6, 2) := by decide +kernel
theorem dX12_clauseHere_16 : decode cX12_clauseHere 16 = .ok (.if_icmp .ne 7, 3) := by decide +kernel
theorem dX12_clauseHere_19 : decode cX12_clauseHere 19 = .ok (.iconst 1, 1) := by decide +kernel
theorem dX12_clauseHere_20 : decode cX12_clauseHere 20 = .ok (.goto 4, 3) := by decide +kernel
theorem dX12_clauseHere_23 : decode cX12_clauseHere 23 = .ok (.iconst 0, 1) := by decide +kernel
theorem dX12_clauseHere_24 : decode cX12_clauseHere 24 = .ok (.istore_n 2, 1) := by decide +kernel
theorem dX12_clauseHere_25 : decode cX12_clauseHere 25 = .ok (.iload_n 2, 1) := by decide +kernel
theorem dX12_clauseHere_26 : decode cX12_clauseHere 26 = .ok (.ifCond .eq 13, 3) := by decide +kernel
theorem dX12_clauseHere_29 : decode cX12_clauseHere 29 = .ok (.aload_n 0, 1) := by decide +kernel
theorem dX12_clauseHere_30 : decode cX12_clauseHere 30 = .ok (.invokevirtual 250, 3) := by decide +kernel
theorem dX12_clauseHere_33 : decode cX12_clauseHere 33 = .ok (.ifCond .ne 23, 3) := by decide +kernel
theorem dX12_clauseHere_36 : decode cX12_clauseHere 36 = .ok (.goto 13, 3) := by decide +kernel
theorem dX12_clauseHere_39 : decode cX12_clauseHere 39 = .ok (.aload_n 0, 1) := by decide +kernel
theorem dX12_clauseHere_40 : decode cX12_clauseHere 40 = .ok (.ldc2_w 253, 3) := by decide +kernel
theorem dX12_clauseHere_43 : decode cX12_clauseHere 43 = .ok (.invokevirtual 110, 3) := by decide +kernel
theorem dX12_clauseHere_46 : decode cX12_clauseHere 46 = .ok (.ifCond .ne 10, 3) := by decide +kernel
theorem dX12_clauseHere_49 : decode cX12_clauseHere 49 = .ok (.aload_n 0, 1) := by decide +kernel
theorem dX12_clauseHere_50 : decode cX12_clauseHere 50 = .ok (.iconst 0, 1) := by decide +kernel
theorem dX12_clauseHere_51 : decode cX12_clauseHere 51 = .ok (.iload_n 1, 1) := by decide +kernel
theorem dX12_clauseHere_52 : decode cX12_clauseHere 52 = .ok (.invokevirtual 120, 3) := by decide +kernel
theorem dX12_clauseHere_55 : decode cX12_clauseHere 55 = .ok (.ireturn, 1) := by decide +kernel
theorem dX12_clauseHere_56 : decode cX12_clauseHere 56 = .ok (.aload_n 0, 1) := by decide +kernel
theorem dX12_clauseHere_57 : decode cX12_clauseHere 57 = .ok (.getfield 255, 3) := by decide +kernel
theorem dX12_clauseHere_60 : decode cX12_clauseHere 60 = .ok (.iload_n 2, 1) := by decide +kernel
theorem dX12_clauseHere_61 : decode cX12_clauseHere 61 = .ok (.ifCond .eq 8, 3) := by decide +kernel
theorem dX12_clauseHere_64 : decode cX12_clauseHere 64 = .ok (.bipush 40, 2) := by decide +kernel
theorem dX12_clauseHere_66 : decode cX12_clauseHere 66 = .ok (.goto 5, 3) := by decide +kernel
theorem dX12_clauseHere_69 : decode cX12_clauseHere 69 = .ok (.bipush 12, 2) := by decide +kernel
theorem dX12_clauseHere_71 : decode cX12_clauseHere 71 = .ok (.if_icmp .ne 10, 3) := by decide +kernel
theorem dX12_clauseHere_74 : decode cX12_clauseHere 74 = .ok (.aload_n 0, 1) := by decide +kernel
theorem dX12_clauseHere_75 : decode cX12_clauseHere 75 = .ok (.iconst 4, 1) := by decide +kernel
theorem dX12_clauseHere_76 : decode cX12_clauseHere 76 = .ok (.iload_n 1, 1) := by decide +kernel
theorem dX12_clauseHere_77 : decode cX12_clauseHere 77 = .ok (.invokevirtual 120, 3) := by decide +kernel
theorem dX12_clauseHere_80 : decode cX12_clauseHere 80 = .ok (.ireturn, 1) := by decide +kernel
theorem dX12_clauseHere_81 : decode cX12_clauseHere 81 = .ok (.aload_n 0, 1) := by decide +kernel
theorem dX12_clauseHere_82 : decode cX12_clauseHere 82 = .ok (.dup, 1) := by decide +kernel
theorem dX12_clauseHere_83 : decode cX12_clauseHere 83 = .ok (.getfield 255, 3) := by decide +kernel
theorem dX12_clauseHere_86 : decode cX12_clauseHere 86 = .ok (.iconst 1, 1) := by decide +kernel
theorem dX12_clauseHere_87 : decode cX12_clauseHere 87 = .ok (.iadd, 1) := by decide +kernel
theorem dX12_clauseHere_88 : decode cX12_clauseHere 88 = .ok (.putfield 255, 3) := by decide +kernel
theorem dX12_clauseHere_91 : decode cX12_clauseHere 91 = .ok (.iload_n 2, 1) := by decide +kernel
theorem dX12_clauseHere_92 : decode cX12_clauseHere 92 = .ok (.ifCond .eq 11, 3) := by decide +kernel
theorem dX12_clauseHere_95 : decode cX12_clauseHere 95 = .ok (.aload_n 0, 1) := by decide +kernel
theorem dX12_clauseHere_96 : decode cX12_clauseHere 96 = .ok (.iload_n 1, 1) := by decide +kernel
theorem dX12_clauseHere_97 : decode cX12_clauseHere 97 = .ok (.invokevirtual 258, 3) := by decide +kernel
theorem dX12_clauseHere_100 : decode cX12_clauseHere 100 = .ok (.goto 7, 3) := by decide +kernel
theorem dX12_clauseHere_103 : decode cX12_clauseHere 103 = .ok (.aload_n 0, 1) := by decide +kernel
theorem dX12_clauseHere_104 : decode cX12_clauseHere 104 = .ok (.invokevirtual 261, 3) := by decide +kernel
theorem dX12_clauseHere_107 : decode cX12_clauseHere 107 = .ok (.ireturn, 1) := by decide +kernel
theorem dX12_leastSkill_0 : decode cX12_leastSkill 0 = .ok (.aload_n 0, 1) := by decide +kernel
theorem dX12_leastSkill_1 : decode cX12_leastSkill 1 = .ok (.iload_n 1, 1) := by decide +kernel
theorem dX12_leastSkill_2 : decode cX12_leastSkill 2 = .ok (.invokevirtual 314, 3) := by decide +kernel
theorem dX12_leastSkill_5 : decode cX12_leastSkill 5 = .ok (.ifCond .eq 15, 3) := by decide +kernel
theorem dX12_leastSkill_8 : decode cX12_leastSkill 8 = .ok (.iload_n 2, 1) := by decide +kernel
theorem dX12_leastSkill_9 : decode cX12_leastSkill 9 = .ok (.i2l, 1) := by decide +kernel
theorem dX12_leastSkill_10 : decode cX12_leastSkill 10 = .ok (.lconst 1, 1) := by decide +kernel
theorem dX12_leastSkill_11 : decode cX12_leastSkill 11 = .ok (.ldc2_w 404, 3) := by decide +kernel
theorem dX12_leastSkill_14 : decode cX12_leastSkill 14 = .ok (.invokestatic 127, 3) := by decide +kernel
theorem dX12_leastSkill_17 : decode cX12_leastSkill 17 = .ok (.ifCond .ne 5, 3) := by decide +kernel
theorem dX12_leastSkill_20 : decode cX12_leastSkill 20 = .ok (.iconst (-1), 1) := by decide +kernel
theorem dX12_leastSkill_21 : decode cX12_leastSkill 21 = .ok (.ireturn, 1) := by decide +kernel
theorem dX12_leastSkill_22 : decode cX12_leastSkill 22 = .ok (.bipush (-2), 2) := by decide +kernel
theorem dX12_leastSkill_24 : decode cX12_leastSkill 24 = .ok (.istore_n 3, 1) := by decide +kernel
theorem dX12_leastSkill_25 : decode cX12_leastSkill 25 = .ok (.aload_n 0, 1) := by decide +kernel
theorem dX12_leastSkill_26 : decode cX12_leastSkill 26 = .ok (.invokevirtual 372, 3) := by decide +kernel
theorem dX12_leastSkill_29 : decode cX12_leastSkill 29 = .ok (.iconst 1, 1) := by decide +kernel
theorem dX12_leastSkill_30 : decode cX12_leastSkill 30 = .ok (.istore 4, 2) := by decide +kernel
theorem dX12_leastSkill_32 : decode cX12_leastSkill 32 = .ok (.iload 4, 2) := by decide +kernel
theorem dX12_leastSkill_34 : decode cX12_leastSkill 34 = .ok (.bipush 9, 2) := by decide +kernel
theorem dX12_leastSkill_36 : decode cX12_leastSkill 36 = .ok (.if_icmp .gt 46, 3) := by decide +kernel
theorem dX12_leastSkill_39 : decode cX12_leastSkill 39 = .ok (.iload_n 3, 1) := by decide +kernel
theorem dX12_leastSkill_40 : decode cX12_leastSkill 40 = .ok (.ifCond .ge 42, 3) := by decide +kernel
theorem dX12_leastSkill_43 : decode cX12_leastSkill 43 = .ok (.aload_n 0, 1) := by decide +kernel
theorem dX12_leastSkill_44 : decode cX12_leastSkill 44 = .ok (.getfield 39, 3) := by decide +kernel
theorem dX12_leastSkill_47 : decode cX12_leastSkill 47 = .ok (.bipush 25, 2) := by decide +kernel
theorem dX12_leastSkill_49 : decode cX12_leastSkill 49 = .ok (.iconst 3, 1) := by decide +kernel
theorem dX12_leastSkill_50 : decode cX12_leastSkill 50 = .ok (.iload_n 1, 1) := by decide +kernel
theorem dX12_leastSkill_51 : decode cX12_leastSkill 51 = .ok (.imul, 1) := by decide +kernel
theorem dX12_leastSkill_52 : decode cX12_leastSkill 52 = .ok (.iadd, 1) := by decide +kernel
theorem dX12_leastSkill_53 : decode cX12_leastSkill 53 = .ok (.iload 4, 2) := by decide +kernel
theorem dX12_leastSkill_55 : decode cX12_leastSkill 55 = .ok (.iastore, 1) := by decide +kernel
theorem dX12_leastSkill_56 : decode cX12_leastSkill 56 = .ok (.aload_n 0, 1) := by decide +kernel
theorem dX12_leastSkill_57 : decode cX12_leastSkill 57 = .ok (.iload_n 2, 1) := by decide +kernel
theorem dX12_leastSkill_58 : decode cX12_leastSkill 58 = .ok (.invokevirtual 375, 3) := by decide +kernel
theorem dX12_leastSkill_61 : decode cX12_leastSkill 61 = .ok (.aload_n 0, 1) := by decide +kernel
theorem dX12_leastSkill_62 : decode cX12_leastSkill 62 = .ok (.iload_n 1, 1) := by decide +kernel
theorem dX12_leastSkill_63 : decode cX12_leastSkill 63 = .ok (.invokevirtual 317, 3) := by decide +kernel
theorem dX12_leastSkill_66 : decode cX12_leastSkill 66 = .ok (.ifCond .ne 6, 3) := by decide +kernel
theorem dX12_leastSkill_69 : decode cX12_leastSkill 69 = .ok (.iload 4, 2) := by decide +kernel
theorem dX12_leastSkill_71 : decode cX12_leastSkill 71 = .ok (.istore_n 3, 1) := by decide +kernel
theorem dX12_leastSkill_72 : decode cX12_leastSkill 72 = .ok (.aload_n 0, 1) := by decide +kernel
theorem dX12_leastSkill_73 : decode cX12_leastSkill 73 = .ok (.invokevirtual 378, 3) := by decide +kernel
theorem dX12_leastSkill_76 : decode cX12_leastSkill 76 = .ok (.iinc 4 1, 3) := by decide +kernel
theorem dX12_leastSkill_79 : decode cX12_leastSkill 79 = .ok (.goto (-47), 3) := by decide +kernel
theorem dX12_leastSkill_82 : decode cX12_leastSkill 82 = .ok (.iload_n 3, 1) := by decide +kernel
theorem dX12_leastSkill_83 : decode cX12_leastSkill 83 = .ok (.ireturn, 1) := by decide +kernel
theorem dX3_opensClause_0 : decode cX3_opensClause 0 = .ok (.iload_n 0, 1) := by decide +kernel
theorem dX3_opensClause_1 : decode cX3_opensClause 1 = .ok (.bipush 13, 2) := by decide +kernel
theorem dX3_opensClause_3 : decode cX3_opensClause 3 = .ok (.if_icmp .eq 18, 3) := by decide +kernel
theorem dX3_opensClause_6 : decode cX3_opensClause 6 = .ok (.iload_n 0, 1) := by decide +kernel
theorem dX3_opensClause_7 : decode cX3_opensClause 7 = .ok (.bipush 10, 2) := by decide +kernel
theorem dX3_opensClause_9 : decode cX3_opensClause 9 = .ok (.if_icmp .eq 12, 3) := by decide +kernel
theorem dX3_opensClause_12 : decode cX3_opensClause 12 = .ok (.iload_n 0, 1) := by decide +kernel
theorem dX3_opensClause_13 : decode cX3_opensClause 13 = .ok (.iconst 1, 1) := by decide +kernel
theorem dX3_opensClause_14 : decode cX3_opensClause 14 = .ok (.if_icmp .eq 7, 3) := by decide +kernel
theorem dX3_opensClause_17 : decode cX3_opensClause 17 = .ok (.iload_n 0, 1) := by decide +kernel
theorem dX3_opensClause_18 : decode cX3_opensClause 18 = .ok (.ifCond .ne 7, 3) := by decide +kernel
theorem dX3_opensClause_21 : decode cX3_opensClause 21 = .ok (.iconst 1, 1) := by decide +kernel
theorem dX3_opensClause_22 : decode cX3_opensClause 22 = .ok (.goto 4, 3) := by decide +kernel
theorem dX3_opensClause_25 : decode cX3_opensClause 25 = .ok (.iconst 0, 1) := by decide +kernel
theorem dX3_opensClause_26 : decode cX3_opensClause 26 = .ok (.ireturn, 1) := by decide +kernel
theorem dX12_comingRound_0 : decode cX12_comingRound 0 = .ok (.aload_n 0, 1) := by decide +kernel
theorem dX12_comingRound_1 : decode cX12_comingRound 1 = .ok (.invokevirtual 294, 3) := by decide +kernel
theorem dX12_comingRound_4 : decode cX12_comingRound 4 = .ok (.ifCond .ne 7, 3) := by decide +kernel
theorem dX12_comingRound_7 : decode cX12_comingRound 7 = .ok (.iconst 0, 1) := by decide +kernel
theorem dX12_comingRound_8 : decode cX12_comingRound 8 = .ok (.goto 22, 3) := by decide +kernel
theorem dX12_comingRound_11 : decode cX12_comingRound 11 = .ok (.aload_n 0, 1) := by decide +kernel
theorem dX12_comingRound_12 : decode cX12_comingRound 12 = .ok (.getfield 39, 3) := by decide +kernel
theorem dX12_comingRound_15 : decode cX12_comingRound 15 = .ok (.iconst 3, 1) := by decide +kernel
theorem dX12_comingRound_16 : decode cX12_comingRound 16 = .ok (.iaload, 1) := by decide +kernel
theorem dX12_comingRound_17 : decode cX12_comingRound 17 = .ok (.ifCond .ne 7, 3) := by decide +kernel
theorem dX12_comingRound_20 : decode cX12_comingRound 20 = .ok (.iconst 1, 1) := by decide +kernel
theorem dX12_comingRound_21 : decode cX12_comingRound 21 = .ok (.goto 9, 3) := by decide +kernel
theorem dX12_comingRound_24 : decode cX12_comingRound 24 = .ok (.aload_n 0, 1) := by decide +kernel
theorem dX12_comingRound_25 : decode cX12_comingRound 25 = .ok (.getfield 39, 3) := by decide +kernel
theorem dX12_comingRound_28 : decode cX12_comingRound 28 = .ok (.iconst 3, 1) := by decide +kernel
theorem dX12_comingRound_29 : decode cX12_comingRound 29 = .ok (.iaload, 1) := by decide +kernel
theorem dX12_comingRound_30 : decode cX12_comingRound 30 = .ok (.ireturn, 1) := by decide +kernel
theorem dX12_isGreenWord_0 : decode cX12_isGreenWord 0 = .ok (.aload_n 0, 1) := by decide +kernel
theorem dX12_isGreenWord_1 : decode cX12_isGreenWord 1 = .ok (.ldc2_w 236, 3) := by decide +kernel
theorem dX12_isGreenWord_4 : decode cX12_isGreenWord 4 = .ok (.invokevirtual 110, 3) := by decide +kernel
theorem dX12_isGreenWord_7 : decode cX12_isGreenWord 7 = .ok (.ifCond .ne 33, 3) := by decide +kernel
theorem dX12_isGreenWord_10 : decode cX12_isGreenWord 10 = .ok (.aload_n 0, 1) := by decide +kernel
theorem dX12_isGreenWord_11 : decode cX12_isGreenWord 11 = .ok (.ldc2_w 151, 3) := by decide +kernel
theorem dX12_isGreenWord_14 : decode cX12_isGreenWord 14 = .ok (.invokevirtual 110, 3) := by decide +kernel
theorem dX12_isGreenWord_17 : decode cX12_isGreenWord 17 = .ok (.ifCond .ne 23, 3) := by decide +kernel
theorem dX12_isGreenWord_20 : decode cX12_isGreenWord 20 = .ok (.aload_n 0, 1) := by decide +kernel
theorem dX12_isGreenWord_21 : decode cX12_isGreenWord 21 = .ok (.ldc2_w 133, 3) := by decide +kernel
theorem dX12_isGreenWord_24 : decode cX12_isGreenWord 24 = .ok (.invokevirtual 110, 3) := by decide +kernel
theorem dX12_isGreenWord_27 : decode cX12_isGreenWord 27 = .ok (.ifCond .ne 13, 3) := by decide +kernel
theorem dX12_isGreenWord_30 : decode cX12_isGreenWord 30 = .ok (.aload_n 0, 1) := by decide +kernel
theorem dX12_isGreenWord_31 : decode cX12_isGreenWord 31 = .ok (.ldc2_w 131, 3) := by decide +kernel
theorem dX12_isGreenWord_34 : decode cX12_isGreenWord 34 = .ok (.invokevirtual 110, 3) := by decide +kernel
theorem dX12_isGreenWord_37 : decode cX12_isGreenWord 37 = .ok (.ifCond .eq 7, 3) := by decide +kernel
theorem dX12_isGreenWord_40 : decode cX12_isGreenWord 40 = .ok (.iconst 1, 1) := by decide +kernel
theorem dX12_isGreenWord_41 : decode cX12_isGreenWord 41 = .ok (.goto 4, 3) := by decide +kernel
theorem dX12_isGreenWord_44 : decode cX12_isGreenWord 44 = .ok (.iconst 0, 1) := by decide +kernel
theorem dX12_isGreenWord_45 : decode cX12_isGreenWord 45 = .ok (.ireturn, 1) := by decide +kernel
theorem dX1_sumOfArchers_0 : decode cX1_sumOfArchers 0 = .ok (.iconst 0, 1) := by decide +kernel
theorem dX1_sumOfArchers_1 : decode cX1_sumOfArchers 1 = .ok (.istore_n 2, 1) := by decide +kernel
theorem dX1_sumOfArchers_2 : decode cX1_sumOfArchers 2 = .ok (.iconst 0, 1) := by decide +kernel
theorem dX1_sumOfArchers_3 : decode cX1_sumOfArchers 3 = .ok (.istore_n 3, 1) := by decide +kernel
theorem dX1_sumOfArchers_4 : decode cX1_sumOfArchers 4 = .ok (.iload_n 3, 1) := by decide +kernel
theorem dX1_sumOfArchers_5 : decode cX1_sumOfArchers 5 = .ok (.aload_n 0, 1) := by decide +kernel
theorem dX1_sumOfArchers_6 : decode cX1_sumOfArchers 6 = .ok (.getfield 11, 3) := by decide +kernel
theorem dX1_sumOfArchers_9 : decode cX1_sumOfArchers 9 = .ok (.iconst 4, 1) := by decide +kernel
theorem dX1_sumOfArchers_10 : decode cX1_sumOfArchers 10 = .ok (.iaload, 1) := by decide +kernel
theorem dX1_sumOfArchers_11 : decode cX1_sumOfArchers 11 = .ok (.if_icmp .ge 20, 3) := by decide +kernel
theorem dX1_sumOfArchers_14 : decode cX1_sumOfArchers 14 = .ok (.iload_n 2, 1) := by decide +kernel
theorem dX1_sumOfArchers_15 : decode cX1_sumOfArchers 15 = .ok (.aload_n 0, 1) := by decide +kernel
theorem dX1_sumOfArchers_16 : decode cX1_sumOfArchers 16 = .ok (.getfield 11, 3) := by decide +kernel
theorem dX1_sumOfArchers_19 : decode cX1_sumOfArchers 19 = .ok (.iload_n 1, 1) := by decide +kernel
theorem dX1_sumOfArchers_20 : decode cX1_sumOfArchers 20 = .ok (.iload_n 3, 1) := by decide +kernel
theorem dX1_sumOfArchers_21 : decode cX1_sumOfArchers 21 = .ok (.iadd, 1) := by decide +kernel
theorem dX1_sumOfArchers_22 : decode cX1_sumOfArchers 22 = .ok (.iaload, 1) := by decide +kernel
theorem dX1_sumOfArchers_23 : decode cX1_sumOfArchers 23 = .ok (.iadd, 1) := by decide +kernel
theorem dX1_sumOfArchers_24 : decode cX1_sumOfArchers 24 = .ok (.istore_n 2, 1) := by decide +kernel
theorem dX1_sumOfArchers_25 : decode cX1_sumOfArchers 25 = .ok (.iinc 3 1, 3) := by decide +kernel
theorem dX1_sumOfArchers_28 : decode cX1_sumOfArchers 28 = .ok (.goto (-24), 3) := by decide +kernel
theorem dX1_sumOfArchers_31 : decode cX1_sumOfArchers 31 = .ok (.iload_n 2, 1) := by decide +kernel
theorem dX1_sumOfArchers_32 : decode cX1_sumOfArchers 32 = .ok (.ireturn, 1) := by decide +kernel
theorem dX10_hasNextClause_0 : decode cX10_hasNextClause 0 = .ok (.aload_n 0, 1) := by decide +kernel
theorem dX10_hasNextClause_1 : decode cX10_hasNextClause 1 = .ok (.bipush 59, 2) := by decide +kernel
theorem dX10_hasNextClause_3 : decode cX10_hasNextClause 3 = .ok (.invokevirtual 57, 3) := by decide +kernel
theorem dX10_hasNextClause_6 : decode cX10_hasNextClause 6 = .ok (.istore_n 1, 1) := by decide +kernel
theorem dX10_hasNextClause_7 : decode cX10_hasNextClause 7 = .ok (.iload_n 1, 1) := by decide +kernel
theorem dX10_hasNextClause_8 : decode cX10_hasNextClause 8 = .ok (.ifCond .eq 10, 3) := by decide +kernel
theorem dX10_hasNextClause_11 : decode cX10_hasNextClause 11 = .ok (.aload_n 0, 1) := by decide +kernel
theorem dX10_hasNextClause_12 : decode cX10_hasNextClause 12 = .ok (.invokevirtual 54, 3) := by decide +kernel
theorem dX10_hasNextClause_15 : decode cX10_hasNextClause 15 = .ok (.goto 19, 3) := by decide +kernel
theorem dX10_hasNextClause_18 : decode cX10_hasNextClause 18 = .ok (.aload_n 0, 1) := by decide +kernel
theorem dX10_hasNextClause_19 : decode cX10_hasNextClause 19 = .ok (.getfield 34, 3) := by decide +kernel
theorem dX10_hasNextClause_22 : decode cX10_hasNextClause 22 = .ok (.ifCond .eq 12, 3) := by decide +kernel
theorem dX10_hasNextClause_25 : decode cX10_hasNextClause 25 = .ok (.aload_n 0, 1) := by decide +kernel
theorem dX10_hasNextClause_26 : decode cX10_hasNextClause 26 = .ok (.aload_n 0, 1) := by decide +kernel
theorem dX10_hasNextClause_27 : decode cX10_hasNextClause 27 = .ok (.getfield 40, 3) := by decide +kernel
theorem dX10_hasNextClause_30 : decode cX10_hasNextClause 30 = .ok (.iconst 0, 1) := by decide +kernel
theorem dX10_hasNextClause_31 : decode cX10_hasNextClause 31 = .ok (.invokevirtual 61, 3) := by decide +kernel
theorem dX10_hasNextClause_34 : decode cX10_hasNextClause 34 = .ok (.iload_n 1, 1) := by decide +kernel
theorem dX10_hasNextClause_35 : decode cX10_hasNextClause 35 = .ok (.ifCond .eq 14, 3) := by decide +kernel
theorem dX10_hasNextClause_38 : decode cX10_hasNextClause 38 = .ok (.aload_n 0, 1) := by decide +kernel
theorem dX10_hasNextClause_39 : decode cX10_hasNextClause 39 = .ok (.getfield 43, 3) := by decide +kernel
theorem dX10_hasNextClause_42 : decode cX10_hasNextClause 42 = .ok (.ifCond .ne 7, 3) := by decide +kernel
theorem dX10_hasNextClause_45 : decode cX10_hasNextClause 45 = .ok (.iconst 1, 1) := by decide +kernel
theorem dX10_hasNextClause_46 : decode cX10_hasNextClause 46 = .ok (.goto 4, 3) := by decide +kernel
theorem dX10_hasNextClause_49 : decode cX10_hasNextClause 49 = .ok (.iconst 0, 1) := by decide +kernel
theorem dX10_hasNextClause_50 : decode cX10_hasNextClause 50 = .ok (.ireturn, 1) := by decide +kernel
