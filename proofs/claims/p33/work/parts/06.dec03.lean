theorem dX12_note_125 : decode cX12_note 125 = .ok (.iaload, 1) := by decide +kernel
theorem dX12_note_126 : decode cX12_note 126 = .ok (.iconst 1, 1) := by decide +kernel
theorem dX12_note_127 : decode cX12_note 127 = .ok (.iadd, 1) := by decide +kernel
theorem dX12_note_128 : decode cX12_note 128 = .ok (.iastore, 1) := by decide +kernel
theorem dX12_note_129 : decode cX12_note 129 = .ok (.aload_n 0, 1) := by decide +kernel
theorem dX12_note_130 : decode cX12_note 130 = .ok (.getfield 39, 3) := by decide +kernel
theorem dX12_note_133 : decode cX12_note 133 = .ok (.bipush 114, 2) := by decide +kernel
theorem dX12_note_135 : decode cX12_note 135 = .ok (.iaload, 1) := by decide +kernel
theorem dX12_note_136 : decode cX12_note 136 = .ok (.ireturn, 1) := by decide +kernel
theorem dX12_pull_0 : decode cX12_pull 0 = .ok (.aload_n 0, 1) := by decide +kernel
theorem dX12_pull_1 : decode cX12_pull 1 = .ok (.iload_n 1, 1) := by decide +kernel
theorem dX12_pull_2 : decode cX12_pull 2 = .ok (.invokevirtual 309, 3) := by decide +kernel
theorem dX12_pull_5 : decode cX12_pull 5 = .ok (.ifCond .eq 23, 3) := by decide +kernel
theorem dX12_pull_8 : decode cX12_pull 8 = .ok (.aload_n 0, 1) := by decide +kernel
theorem dX12_pull_9 : decode cX12_pull 9 = .ok (.iload_n 2, 1) := by decide +kernel
theorem dX12_pull_10 : decode cX12_pull 10 = .ok (.invokevirtual 314, 3) := by decide +kernel
theorem dX12_pull_13 : decode cX12_pull 13 = .ok (.ifCond .eq 15, 3) := by decide +kernel
theorem dX12_pull_16 : decode cX12_pull 16 = .ok (.aload_n 0, 1) := by decide +kernel
theorem dX12_pull_17 : decode cX12_pull 17 = .ok (.getfield 39, 3) := by decide +kernel
theorem dX12_pull_20 : decode cX12_pull 20 = .ok (.bipush 19, 2) := by decide +kernel
theorem dX12_pull_22 : decode cX12_pull 22 = .ok (.iload_n 1, 1) := by decide +kernel
theorem dX12_pull_23 : decode cX12_pull 23 = .ok (.iadd, 1) := by decide +kernel
theorem dX12_pull_24 : decode cX12_pull 24 = .ok (.iaload, 1) := by decide +kernel
theorem dX12_pull_25 : decode cX12_pull 25 = .ok (.ifCond .ne 5, 3) := by decide +kernel
theorem dX12_pull_28 : decode cX12_pull 28 = .ok (.iconst (-1), 1) := by decide +kernel
theorem dX12_pull_29 : decode cX12_pull 29 = .ok (.ireturn, 1) := by decide +kernel
theorem dX12_pull_30 : decode cX12_pull 30 = .ok (.aload_n 0, 1) := by decide +kernel
theorem dX12_pull_31 : decode cX12_pull 31 = .ok (.invokevirtual 363, 3) := by decide +kernel
theorem dX12_pull_34 : decode cX12_pull 34 = .ok (.aload_n 0, 1) := by decide +kernel
theorem dX12_pull_35 : decode cX12_pull 35 = .ok (.iload_n 2, 1) := by decide +kernel
theorem dX12_pull_36 : decode cX12_pull 36 = .ok (.invokevirtual 320, 3) := by decide +kernel
theorem dX12_pull_39 : decode cX12_pull 39 = .ok (.aload_n 0, 1) := by decide +kernel
theorem dX12_pull_40 : decode cX12_pull 40 = .ok (.getfield 39, 3) := by decide +kernel
theorem dX12_pull_43 : decode cX12_pull 43 = .ok (.bipush 19, 2) := by decide +kernel
theorem dX12_pull_45 : decode cX12_pull 45 = .ok (.iload_n 1, 1) := by decide +kernel
theorem dX12_pull_46 : decode cX12_pull 46 = .ok (.iadd, 1) := by decide +kernel
theorem dX12_pull_47 : decode cX12_pull 47 = .ok (.iaload, 1) := by decide +kernel
theorem dX12_pull_48 : decode cX12_pull 48 = .ok (.iadd, 1) := by decide +kernel
theorem dX12_pull_49 : decode cX12_pull 49 = .ok (.istore_n 3, 1) := by decide +kernel
theorem dX12_pull_50 : decode cX12_pull 50 = .ok (.aload_n 0, 1) := by decide +kernel
theorem dX12_pull_51 : decode cX12_pull 51 = .ok (.getfield 39, 3) := by decide +kernel
theorem dX12_pull_54 : decode cX12_pull 54 = .ok (.bipush 25, 2) := by decide +kernel
theorem dX12_pull_56 : decode cX12_pull 56 = .ok (.iconst 3, 1) := by decide +kernel
theorem dX12_pull_57 : decode cX12_pull 57 = .ok (.iload_n 2, 1) := by decide +kernel
theorem dX12_pull_58 : decode cX12_pull 58 = .ok (.imul, 1) := by decide +kernel
theorem dX12_pull_59 : decode cX12_pull 59 = .ok (.iadd, 1) := by decide +kernel
theorem dX12_pull_60 : decode cX12_pull 60 = .ok (.iconst 2, 1) := by decide +kernel
theorem dX12_pull_61 : decode cX12_pull 61 = .ok (.iadd, 1) := by decide +kernel
theorem dX12_pull_62 : decode cX12_pull 62 = .ok (.iload_n 3, 1) := by decide +kernel
theorem dX12_pull_63 : decode cX12_pull 63 = .ok (.bipush 99, 2) := by decide +kernel
theorem dX12_pull_65 : decode cX12_pull 65 = .ok (.if_icmp .le 8, 3) := by decide +kernel
theorem dX12_pull_68 : decode cX12_pull 68 = .ok (.bipush 99, 2) := by decide +kernel
theorem dX12_pull_70 : decode cX12_pull 70 = .ok (.goto 4, 3) := by decide +kernel
theorem dX12_pull_73 : decode cX12_pull 73 = .ok (.iload_n 3, 1) := by decide +kernel
theorem dX12_pull_74 : decode cX12_pull 74 = .ok (.iastore, 1) := by decide +kernel
theorem dX12_pull_75 : decode cX12_pull 75 = .ok (.aload_n 0, 1) := by decide +kernel
theorem dX12_pull_76 : decode cX12_pull 76 = .ok (.getfield 39, 3) := by decide +kernel
theorem dX12_pull_79 : decode cX12_pull 79 = .ok (.bipush 19, 2) := by decide +kernel
theorem dX12_pull_81 : decode cX12_pull 81 = .ok (.iload_n 1, 1) := by decide +kernel
theorem dX12_pull_82 : decode cX12_pull 82 = .ok (.iadd, 1) := by decide +kernel
theorem dX12_pull_83 : decode cX12_pull 83 = .ok (.iconst 0, 1) := by decide +kernel
theorem dX12_pull_84 : decode cX12_pull 84 = .ok (.iastore, 1) := by decide +kernel
theorem dX12_pull_85 : decode cX12_pull 85 = .ok (.aload_n 0, 1) := by decide +kernel
theorem dX12_pull_86 : decode cX12_pull 86 = .ok (.iload_n 2, 1) := by decide +kernel
theorem dX12_pull_87 : decode cX12_pull 87 = .ok (.invokevirtual 320, 3) := by decide +kernel
theorem dX12_pull_90 : decode cX12_pull 90 = .ok (.ireturn, 1) := by decide +kernel
theorem dX12_push_0 : decode cX12_push 0 = .ok (.aload_n 0, 1) := by decide +kernel
theorem dX12_push_1 : decode cX12_push 1 = .ok (.getfield 32, 3) := by decide +kernel
theorem dX12_push_4 : decode cX12_push 4 = .ok (.aload_n 0, 1) := by decide +kernel
theorem dX12_push_5 : decode cX12_push 5 = .ok (.getfield 279, 3) := by decide +kernel
theorem dX12_push_8 : decode cX12_push 8 = .ok (.lload_n 1, 1) := by decide +kernel
theorem dX12_push_9 : decode cX12_push 9 = .ok (.lastore, 1) := by decide +kernel
theorem dX12_push_10 : decode cX12_push 10 = .ok (.aload_n 0, 1) := by decide +kernel
theorem dX12_push_11 : decode cX12_push 11 = .ok (.dup, 1) := by decide +kernel
theorem dX12_push_12 : decode cX12_push 12 = .ok (.getfield 279, 3) := by decide +kernel
theorem dX12_push_15 : decode cX12_push 15 = .ok (.iconst 1, 1) := by decide +kernel
theorem dX12_push_16 : decode cX12_push 16 = .ok (.iadd, 1) := by decide +kernel
theorem dX12_push_17 : decode cX12_push 17 = .ok (.putfield 279, 3) := by decide +kernel
theorem dX12_push_20 : decode cX12_push 20 = .ok (.return_, 1) := by decide +kernel
theorem dX12_puts_0 : decode cX12_puts 0 = .ok (.aload_n 0, 1) := by decide +kernel
theorem dX12_puts_1 : decode cX12_puts 1 = .ok (.getfield 13, 3) := by decide +kernel
theorem dX12_puts_4 : decode cX12_puts 4 = .ok (.sipush 400, 3) := by decide +kernel
theorem dX12_puts_7 : decode cX12_puts 7 = .ok (.aload_n 0, 1) := by decide +kernel
theorem dX12_puts_8 : decode cX12_puts 8 = .ok (.getfield 157, 3) := by decide +kernel
theorem dX12_puts_11 : decode cX12_puts 11 = .ok (.imul, 1) := by decide +kernel
theorem dX12_puts_12 : decode cX12_puts 12 = .ok (.aload_n 0, 1) := by decide +kernel
theorem dX12_puts_13 : decode cX12_puts 13 = .ok (.getfield 17, 3) := by decide +kernel
theorem dX12_puts_16 : decode cX12_puts 16 = .ok (.aload_n 0, 1) := by decide +kernel
theorem dX12_puts_17 : decode cX12_puts 17 = .ok (.getfield 157, 3) := by decide +kernel
theorem dX12_puts_20 : decode cX12_puts 20 = .ok (.iaload, 1) := by decide +kernel
theorem dX12_puts_21 : decode cX12_puts 21 = .ok (.iadd, 1) := by decide +kernel
theorem dX12_puts_22 : decode cX12_puts 22 = .ok (.iload_n 1, 1) := by decide +kernel
theorem dX12_puts_23 : decode cX12_puts 23 = .ok (.bipush 16, 2) := by decide +kernel
theorem dX12_puts_25 : decode cX12_puts 25 = .ok (.iload_n 2, 1) := by decide +kernel
theorem dX12_puts_26 : decode cX12_puts 26 = .ok (.imul, 1) := by decide +kernel
theorem dX12_puts_27 : decode cX12_puts 27 = .ok (.iadd, 1) := by decide +kernel
theorem dX12_puts_28 : decode cX12_puts 28 = .ok (.iastore, 1) := by decide +kernel
theorem dX12_puts_29 : decode cX12_puts 29 = .ok (.aload_n 0, 1) := by decide +kernel
theorem dX12_puts_30 : decode cX12_puts 30 = .ok (.getfield 17, 3) := by decide +kernel
theorem dX12_puts_33 : decode cX12_puts 33 = .ok (.aload_n 0, 1) := by decide +kernel
theorem dX12_puts_34 : decode cX12_puts 34 = .ok (.getfield 157, 3) := by decide +kernel
theorem dX12_puts_37 : decode cX12_puts 37 = .ok (.dup2, 1) := by decide +kernel
theorem dX12_puts_38 : decode cX12_puts 38 = .ok (.iaload, 1) := by decide +kernel
theorem dX12_puts_39 : decode cX12_puts 39 = .ok (.iconst 1, 1) := by decide +kernel
theorem dX12_puts_40 : decode cX12_puts 40 = .ok (.iadd, 1) := by decide +kernel
theorem dX12_puts_41 : decode cX12_puts 41 = .ok (.iastore, 1) := by decide +kernel
theorem dX12_puts_42 : decode cX12_puts 42 = .ok (.return_, 1) := by decide +kernel
theorem dX12_ring_0 : decode cX12_ring 0 = .ok (.aload_n 0, 1) := by decide +kernel
theorem dX12_ring_1 : decode cX12_ring 1 = .ok (.iload_n 1, 1) := by decide +kernel
theorem dX12_ring_2 : decode cX12_ring 2 = .ok (.invokevirtual 309, 3) := by decide +kernel
theorem dX12_ring_5 : decode cX12_ring 5 = .ok (.ifCond .eq 15, 3) := by decide +kernel
theorem dX12_ring_8 : decode cX12_ring 8 = .ok (.iload_n 2, 1) := by decide +kernel
theorem dX12_ring_9 : decode cX12_ring 9 = .ok (.i2l, 1) := by decide +kernel
theorem dX12_ring_10 : decode cX12_ring 10 = .ok (.lconst 0, 1) := by decide +kernel
theorem dX12_ring_11 : decode cX12_ring 11 = .ok (.ldc2_w 312, 3) := by decide +kernel
theorem dX12_ring_14 : decode cX12_ring 14 = .ok (.invokestatic 127, 3) := by decide +kernel
theorem dX12_ring_17 : decode cX12_ring 17 = .ok (.ifCond .ne 5, 3) := by decide +kernel
theorem dX12_ring_20 : decode cX12_ring 20 = .ok (.iconst (-1), 1) := by decide +kernel
theorem dX12_ring_21 : decode cX12_ring 21 = .ok (.ireturn, 1) := by decide +kernel
theorem dX12_ring_22 : decode cX12_ring 22 = .ok (.iload_n 2, 1) := by decide +kernel
theorem dX12_ring_23 : decode cX12_ring 23 = .ok (.ifCond .ne 15, 3) := by decide +kernel
theorem dX12_ring_26 : decode cX12_ring 26 = .ok (.aload_n 0, 1) := by decide +kernel
theorem dX12_ring_27 : decode cX12_ring 27 = .ok (.getfield 39, 3) := by decide +kernel
theorem dX12_ring_30 : decode cX12_ring 30 = .ok (.bipush 13, 2) := by decide +kernel
theorem dX12_ring_32 : decode cX12_ring 32 = .ok (.iload_n 1, 1) := by decide +kernel
theorem dX12_ring_33 : decode cX12_ring 33 = .ok (.iadd, 1) := by decide +kernel
theorem dX12_ring_34 : decode cX12_ring 34 = .ok (.iaload, 1) := by decide +kernel
theorem dX12_ring_35 : decode cX12_ring 35 = .ok (.goto 29, 3) := by decide +kernel
theorem dX12_ring_38 : decode cX12_ring 38 = .ok (.iload_n 2, 1) := by decide +kernel
theorem dX12_ring_39 : decode cX12_ring 39 = .ok (.iconst 1, 1) := by decide +kernel
theorem dX12_ring_40 : decode cX12_ring 40 = .ok (.if_icmp .ne 15, 3) := by decide +kernel
theorem dX12_ring_43 : decode cX12_ring 43 = .ok (.aload_n 0, 1) := by decide +kernel
theorem dX12_ring_44 : decode cX12_ring 44 = .ok (.getfield 39, 3) := by decide +kernel
theorem dX12_ring_47 : decode cX12_ring 47 = .ok (.bipush 40, 2) := by decide +kernel
theorem dX12_ring_49 : decode cX12_ring 49 = .ok (.iload_n 1, 1) := by decide +kernel
theorem dX12_ring_50 : decode cX12_ring 50 = .ok (.iadd, 1) := by decide +kernel
theorem dX12_ring_51 : decode cX12_ring 51 = .ok (.iaload, 1) := by decide +kernel
theorem dX12_ring_52 : decode cX12_ring 52 = .ok (.goto 12, 3) := by decide +kernel
theorem dX12_ring_55 : decode cX12_ring 55 = .ok (.aload_n 0, 1) := by decide +kernel
theorem dX12_ring_56 : decode cX12_ring 56 = .ok (.getfield 39, 3) := by decide +kernel
theorem dX12_ring_59 : decode cX12_ring 59 = .ok (.bipush 19, 2) := by decide +kernel
theorem dX12_ring_61 : decode cX12_ring 61 = .ok (.iload_n 1, 1) := by decide +kernel
theorem dX12_ring_62 : decode cX12_ring 62 = .ok (.iadd, 1) := by decide +kernel
theorem dX12_ring_63 : decode cX12_ring 63 = .ok (.iaload, 1) := by decide +kernel
theorem dX12_ring_64 : decode cX12_ring 64 = .ok (.ireturn, 1) := by decide +kernel
theorem dX12_rule_0 : decode cX12_rule 0 = .ok (.aload_n 0, 1) := by decide +kernel
theorem dX12_rule_1 : decode cX12_rule 1 = .ok (.getfield 267, 3) := by decide +kernel
theorem dX12_rule_4 : decode cX12_rule 4 = .ok (.bipush 6, 2) := by decide +kernel
theorem dX12_rule_6 : decode cX12_rule 6 = .ok (.if_icmp .ne 5, 3) := by decide +kernel
theorem dX12_rule_9 : decode cX12_rule 9 = .ok (.iconst (-1), 1) := by decide +kernel
theorem dX12_rule_10 : decode cX12_rule 10 = .ok (.ireturn, 1) := by decide +kernel
theorem dX12_rule_11 : decode cX12_rule 11 = .ok (.aload_n 0, 1) := by decide +kernel
theorem dX12_rule_12 : decode cX12_rule 12 = .ok (.aload_n 0, 1) := by decide +kernel
theorem dX12_rule_13 : decode cX12_rule 13 = .ok (.getfield 267, 3) := by decide +kernel
theorem dX12_rule_16 : decode cX12_rule 16 = .ok (.putfield 157, 3) := by decide +kernel
theorem dX12_rule_19 : decode cX12_rule 19 = .ok (.aload_n 0, 1) := by decide +kernel
theorem dX12_rule_20 : decode cX12_rule 20 = .ok (.getfield 23, 3) := by decide +kernel
theorem dX12_rule_23 : decode cX12_rule 23 = .ok (.aload_n 0, 1) := by decide +kernel
theorem dX12_rule_24 : decode cX12_rule 24 = .ok (.getfield 157, 3) := by decide +kernel
theorem dX12_rule_27 : decode cX12_rule 27 = .ok (.iconst 0, 1) := by decide +kernel
theorem dX12_rule_28 : decode cX12_rule 28 = .ok (.iastore, 1) := by decide +kernel
theorem dX12_rule_29 : decode cX12_rule 29 = .ok (.aload_n 0, 1) := by decide +kernel
theorem dX12_rule_30 : decode cX12_rule 30 = .ok (.invokevirtual 270, 3) := by decide +kernel
theorem dX12_rule_33 : decode cX12_rule 33 = .ok (.ifCond .ne 11, 3) := by decide +kernel
theorem dX12_rule_36 : decode cX12_rule 36 = .ok (.bipush (-2), 2) := by decide +kernel
theorem dX12_rule_38 : decode cX12_rule 38 = .ok (.aload_n 0, 1) := by decide +kernel
theorem dX12_rule_39 : decode cX12_rule 39 = .ok (.getfield 96, 3) := by decide +kernel
theorem dX12_rule_42 : decode cX12_rule 42 = .ok (.isub, 1) := by decide +kernel
theorem dX12_rule_43 : decode cX12_rule 43 = .ok (.ireturn, 1) := by decide +kernel
theorem dX12_rule_44 : decode cX12_rule 44 = .ok (.aload_n 0, 1) := by decide +kernel
theorem dX12_rule_45 : decode cX12_rule 45 = .ok (.dup, 1) := by decide +kernel
theorem dX12_rule_46 : decode cX12_rule 46 = .ok (.getfield 267, 3) := by decide +kernel
theorem dX12_rule_49 : decode cX12_rule 49 = .ok (.iconst 1, 1) := by decide +kernel
theorem dX12_rule_50 : decode cX12_rule 50 = .ok (.iadd, 1) := by decide +kernel
theorem dX12_rule_51 : decode cX12_rule 51 = .ok (.putfield 267, 3) := by decide +kernel
theorem dX12_rule_54 : decode cX12_rule 54 = .ok (.aload_n 0, 1) := by decide +kernel
theorem dX12_rule_55 : decode cX12_rule 55 = .ok (.getfield 267, 3) := by decide +kernel
theorem dX12_rule_58 : decode cX12_rule 58 = .ok (.iconst 1, 1) := by decide +kernel
theorem dX12_rule_59 : decode cX12_rule 59 = .ok (.isub, 1) := by decide +kernel
theorem dX12_rule_60 : decode cX12_rule 60 = .ok (.ireturn, 1) := by decide +kernel
theorem dX12_seed_0 : decode cX12_seed 0 = .ok (.iload_n 1, 1) := by decide +kernel
theorem dX12_seed_1 : decode cX12_seed 1 = .ok (.ifCond .ge 5, 3) := by decide +kernel
theorem dX12_seed_4 : decode cX12_seed 4 = .ok (.iconst (-1), 1) := by decide +kernel
theorem dX12_seed_5 : decode cX12_seed 5 = .ok (.ireturn, 1) := by decide +kernel
theorem dX12_seed_6 : decode cX12_seed 6 = .ok (.aload_n 0, 1) := by decide +kernel
theorem dX12_seed_7 : decode cX12_seed 7 = .ok (.getfield 442, 3) := by decide +kernel
theorem dX12_seed_10 : decode cX12_seed 10 = .ok (.istore_n 2, 1) := by decide +kernel
theorem dX12_seed_11 : decode cX12_seed 11 = .ok (.aload_n 0, 1) := by decide +kernel
theorem dX12_seed_12 : decode cX12_seed 12 = .ok (.iload_n 1, 1) := by decide +kernel
theorem dX12_seed_13 : decode cX12_seed 13 = .ok (.putfield 442, 3) := by decide +kernel
theorem dX12_seed_16 : decode cX12_seed 16 = .ok (.iload_n 2, 1) := by decide +kernel
theorem dX12_seed_17 : decode cX12_seed 17 = .ok (.ireturn, 1) := by decide +kernel
theorem dX12_term_0 : decode cX12_term 0 = .ok (.aload_n 0, 1) := by decide +kernel
theorem dX12_term_1 : decode cX12_term 1 = .ok (.invokevirtual 187, 3) := by decide +kernel
theorem dX12_term_4 : decode cX12_term 4 = .ok (.ifCond .ne 5, 3) := by decide +kernel
theorem dX12_term_7 : decode cX12_term 7 = .ok (.iconst 0, 1) := by decide +kernel
theorem dX12_term_8 : decode cX12_term 8 = .ok (.ireturn, 1) := by decide +kernel
theorem dX12_term_9 : decode cX12_term 9 = .ok (.aload_n 0, 1) := by decide +kernel
theorem dX12_term_10 : decode cX12_term 10 = .ok (.invokevirtual 102, 3) := by decide +kernel
theorem dX12_term_13 : decode cX12_term 13 = .ok (.bipush 42, 2) := by decide +kernel
theorem dX12_term_15 : decode cX12_term 15 = .ok (.if_icmp .eq 21, 3) := by decide +kernel
theorem dX12_term_18 : decode cX12_term 18 = .ok (.aload_n 0, 1) := by decide +kernel
theorem dX12_term_19 : decode cX12_term 19 = .ok (.invokevirtual 102, 3) := by decide +kernel
theorem dX12_term_22 : decode cX12_term 22 = .ok (.bipush 47, 2) := by decide +kernel
theorem dX12_term_24 : decode cX12_term 24 = .ok (.if_icmp .eq 12, 3) := by decide +kernel
theorem dX12_term_27 : decode cX12_term 27 = .ok (.aload_n 0, 1) := by decide +kernel
theorem dX12_term_28 : decode cX12_term 28 = .ok (.invokevirtual 102, 3) := by decide +kernel
theorem dX12_term_31 : decode cX12_term 31 = .ok (.bipush 37, 2) := by decide +kernel
theorem dX12_term_33 : decode cX12_term 33 = .ok (.if_icmp .ne 70, 3) := by decide +kernel
theorem dX12_term_36 : decode cX12_term 36 = .ok (.aload_n 0, 1) := by decide +kernel
theorem dX12_term_37 : decode cX12_term 37 = .ok (.getfield 7, 3) := by decide +kernel
theorem dX12_term_40 : decode cX12_term 40 = .ok (.aload_n 0, 1) := by decide +kernel
theorem dX12_term_41 : decode cX12_term 41 = .ok (.getfield 99, 3) := by decide +kernel
theorem dX12_term_44 : decode cX12_term 44 = .ok (.baload, 1) := by decide +kernel
theorem dX12_term_45 : decode cX12_term 45 = .ok (.bipush 42, 2) := by decide +kernel
theorem dX12_term_47 : decode cX12_term 47 = .ok (.if_icmp .ne 7, 3) := by decide +kernel
theorem dX12_term_50 : decode cX12_term 50 = .ok (.iconst 4, 1) := by decide +kernel
theorem dX12_term_51 : decode cX12_term 51 = .ok (.goto 23, 3) := by decide +kernel
theorem dX12_term_54 : decode cX12_term 54 = .ok (.aload_n 0, 1) := by decide +kernel
theorem dX12_term_55 : decode cX12_term 55 = .ok (.getfield 7, 3) := by decide +kernel
theorem dX12_term_58 : decode cX12_term 58 = .ok (.aload_n 0, 1) := by decide +kernel
theorem dX12_term_59 : decode cX12_term 59 = .ok (.getfield 99, 3) := by decide +kernel
theorem dX12_term_62 : decode cX12_term 62 = .ok (.baload, 1) := by decide +kernel
theorem dX12_term_63 : decode cX12_term 63 = .ok (.bipush 47, 2) := by decide +kernel
theorem dX12_term_65 : decode cX12_term 65 = .ok (.if_icmp .ne 7, 3) := by decide +kernel
theorem dX12_term_68 : decode cX12_term 68 = .ok (.iconst 5, 1) := by decide +kernel
theorem dX12_term_69 : decode cX12_term 69 = .ok (.goto 5, 3) := by decide +kernel
theorem dX12_term_72 : decode cX12_term 72 = .ok (.bipush 14, 2) := by decide +kernel
theorem dX12_term_74 : decode cX12_term 74 = .ok (.istore_n 1, 1) := by decide +kernel
theorem dX12_term_75 : decode cX12_term 75 = .ok (.aload_n 0, 1) := by decide +kernel
theorem dX12_term_76 : decode cX12_term 76 = .ok (.dup, 1) := by decide +kernel
theorem dX12_term_77 : decode cX12_term 77 = .ok (.getfield 99, 3) := by decide +kernel
theorem dX12_term_80 : decode cX12_term 80 = .ok (.iconst 1, 1) := by decide +kernel
theorem dX12_term_81 : decode cX12_term 81 = .ok (.iadd, 1) := by decide +kernel
theorem dX12_term_82 : decode cX12_term 82 = .ok (.putfield 99, 3) := by decide +kernel
theorem dX12_term_85 : decode cX12_term 85 = .ok (.aload_n 0, 1) := by decide +kernel
theorem dX12_term_86 : decode cX12_term 86 = .ok (.invokevirtual 187, 3) := by decide +kernel
theorem dX12_term_89 : decode cX12_term 89 = .ok (.ifCond .ne 5, 3) := by decide +kernel
theorem dX12_term_92 : decode cX12_term 92 = .ok (.iconst 0, 1) := by decide +kernel
theorem dX12_term_93 : decode cX12_term 93 = .ok (.ireturn, 1) := by decide +kernel
theorem dX12_term_94 : decode cX12_term 94 = .ok (.aload_n 0, 1) := by decide +kernel
theorem dX12_term_95 : decode cX12_term 95 = .ok (.iload_n 1, 1) := by decide +kernel
theorem dX12_term_96 : decode cX12_term 96 = .ok (.iconst 0, 1) := by decide +kernel
theorem dX12_term_97 : decode cX12_term 97 = .ok (.invokevirtual 173, 3) := by decide +kernel
theorem dX12_term_100 : decode cX12_term 100 = .ok (.goto (-91), 3) := by decide +kernel
theorem dX12_term_103 : decode cX12_term 103 = .ok (.iconst 1, 1) := by decide +kernel
theorem dX12_term_104 : decode cX12_term 104 = .ok (.ireturn, 1) := by decide +kernel
theorem dX12_undo_0 : decode cX12_undo 0 = .ok (.aload_n 0, 1) := by decide +kernel
theorem dX12_undo_1 : decode cX12_undo 1 = .ok (.getfield 276, 3) := by decide +kernel
theorem dX12_undo_4 : decode cX12_undo 4 = .ok (.ifCond .ne 5, 3) := by decide +kernel
theorem dX12_undo_7 : decode cX12_undo 7 = .ok (.iconst (-1), 1) := by decide +kernel
theorem dX12_undo_8 : decode cX12_undo 8 = .ok (.ireturn, 1) := by decide +kernel
theorem dX12_undo_9 : decode cX12_undo 9 = .ok (.aload_n 0, 1) := by decide +kernel
theorem dX12_undo_10 : decode cX12_undo 10 = .ok (.dup, 1) := by decide +kernel
theorem dX12_undo_11 : decode cX12_undo 11 = .ok (.getfield 276, 3) := by decide +kernel
theorem dX12_undo_14 : decode cX12_undo 14 = .ok (.iconst 1, 1) := by decide +kernel
theorem dX12_undo_15 : decode cX12_undo 15 = .ok (.isub, 1) := by decide +kernel
theorem dX12_undo_16 : decode cX12_undo 16 = .ok (.putfield 276, 3) := by decide +kernel
theorem dX12_undo_19 : decode cX12_undo 19 = .ok (.iconst 0, 1) := by decide +kernel
theorem dX12_undo_20 : decode cX12_undo 20 = .ok (.istore_n 1, 1) := by decide +kernel
theorem dX12_undo_21 : decode cX12_undo 21 = .ok (.iload_n 1, 1) := by decide +kernel
theorem dX12_undo_22 : decode cX12_undo 22 = .ok (.bipush 30, 2) := by decide +kernel
theorem dX12_undo_24 : decode cX12_undo 24 = .ok (.if_icmp .ge 32, 3) := by decide +kernel
theorem dX12_undo_27 : decode cX12_undo 27 = .ok (.aload_n 0, 1) := by decide +kernel
theorem dX12_undo_28 : decode cX12_undo 28 = .ok (.getfield 39, 3) := by decide +kernel
theorem dX12_undo_31 : decode cX12_undo 31 = .ok (.bipush 10, 2) := by decide +kernel
theorem dX12_undo_33 : decode cX12_undo 33 = .ok (.iload_n 1, 1) := by decide +kernel
theorem dX12_undo_34 : decode cX12_undo 34 = .ok (.iadd, 1) := by decide +kernel
theorem dX12_undo_35 : decode cX12_undo 35 = .ok (.aload_n 0, 1) := by decide +kernel
theorem dX12_undo_36 : decode cX12_undo 36 = .ok (.getfield 55, 3) := by decide +kernel
theorem dX12_undo_39 : decode cX12_undo 39 = .ok (.bipush 30, 2) := by decide +kernel
theorem dX12_undo_41 : decode cX12_undo 41 = .ok (.aload_n 0, 1) := by decide +kernel
theorem dX12_undo_42 : decode cX12_undo 42 = .ok (.getfield 276, 3) := by decide +kernel
theorem dX12_undo_45 : decode cX12_undo 45 = .ok (.imul, 1) := by decide +kernel
theorem dX12_undo_46 : decode cX12_undo 46 = .ok (.iload_n 1, 1) := by decide +kernel
theorem dX12_undo_47 : decode cX12_undo 47 = .ok (.iadd, 1) := by decide +kernel
theorem dX12_undo_48 : decode cX12_undo 48 = .ok (.iaload, 1) := by decide +kernel
theorem dX12_undo_49 : decode cX12_undo 49 = .ok (.iastore, 1) := by decide +kernel
theorem dX12_undo_50 : decode cX12_undo 50 = .ok (.iinc 1 1, 3) := by decide +kernel
theorem dX12_undo_53 : decode cX12_undo 53 = .ok (.goto (-32), 3) := by decide +kernel
theorem dX12_undo_56 : decode cX12_undo 56 = .ok (.aload_n 0, 1) := by decide +kernel
theorem dX12_undo_57 : decode cX12_undo 57 = .ok (.getfield 276, 3) := by decide +kernel
theorem dX12_undo_60 : decode cX12_undo 60 = .ok (.ireturn, 1) := by decide +kernel
theorem dX12_wind_0 : decode cX12_wind 0 = .ok (.iload_n 1, 1) := by decide +kernel
theorem dX12_wind_1 : decode cX12_wind 1 = .ok (.ifCond .lt 19, 3) := by decide +kernel
theorem dX12_wind_4 : decode cX12_wind 4 = .ok (.iload_n 1, 1) := by decide +kernel
theorem dX12_wind_5 : decode cX12_wind 5 = .ok (.aload_n 0, 1) := by decide +kernel
theorem dX12_wind_6 : decode cX12_wind 6 = .ok (.invokevirtual 323, 3) := by decide +kernel
theorem dX12_wind_9 : decode cX12_wind 9 = .ok (.if_icmp .ge 11, 3) := by decide +kernel
theorem dX12_wind_12 : decode cX12_wind 12 = .ok (.aload_n 0, 1) := by decide +kernel
theorem dX12_wind_13 : decode cX12_wind 13 = .ok (.iload_n 1, 1) := by decide +kernel
theorem dX12_wind_14 : decode cX12_wind 14 = .ok (.invokevirtual 297, 3) := by decide +kernel
theorem dX12_wind_17 : decode cX12_wind 17 = .ok (.goto 4, 3) := by decide +kernel
theorem dX12_wind_20 : decode cX12_wind 20 = .ok (.iconst (-1), 1) := by decide +kernel
theorem dX12_wind_21 : decode cX12_wind 21 = .ok (.ireturn, 1) := by decide +kernel
theorem dX1_clear_0 : decode cX1_clear 0 = .ok (.aload_n 0, 1) := by decide +kernel
theorem dX1_clear_1 : decode cX1_clear 1 = .ok (.getfield 11, 3) := by decide +kernel
theorem dX1_clear_4 : decode cX1_clear 4 = .ok (.iconst 0, 1) := by decide +kernel
theorem dX1_clear_5 : decode cX1_clear 5 = .ok (.invokestatic 21, 3) := by decide +kernel
theorem dX1_clear_8 : decode cX1_clear 8 = .ok (.return_, 1) := by decide +kernel
theorem dX1_drift_0 : decode cX1_drift 0 = .ok (.aload_n 0, 1) := by decide +kernel
theorem dX1_drift_1 : decode cX1_drift 1 = .ok (.getfield 11, 3) := by decide +kernel
theorem dX1_drift_4 : decode cX1_drift 4 = .ok (.bipush 43, 2) := by decide +kernel
theorem dX1_drift_6 : decode cX1_drift 6 = .ok (.iload_n 1, 1) := by decide +kernel
theorem dX1_drift_7 : decode cX1_drift 7 = .ok (.iadd, 1) := by decide +kernel
theorem dX1_drift_8 : decode cX1_drift 8 = .ok (.iaload, 1) := by decide +kernel
theorem dX1_drift_9 : decode cX1_drift 9 = .ok (.istore_n 3, 1) := by decide +kernel
theorem dX1_drift_10 : decode cX1_drift 10 = .ok (.iload_n 3, 1) := by decide +kernel
theorem dX1_drift_11 : decode cX1_drift 11 = .ok (.iconst 1, 1) := by decide +kernel
theorem dX1_drift_12 : decode cX1_drift 12 = .ok (.if_icmp .ge 7, 3) := by decide +kernel
theorem dX1_drift_15 : decode cX1_drift 15 = .ok (.iconst 0, 1) := by decide +kernel
theorem dX1_drift_16 : decode cX1_drift 16 = .ok (.goto 18, 3) := by decide +kernel
theorem dX1_drift_19 : decode cX1_drift 19 = .ok (.iload_n 2, 1) := by decide +kernel
theorem dX1_drift_20 : decode cX1_drift 20 = .ok (.iconst 4, 1) := by decide +kernel
theorem dX1_drift_21 : decode cX1_drift 21 = .ok (.isub, 1) := by decide +kernel
theorem dX1_drift_22 : decode cX1_drift 22 = .ok (.aload_n 0, 1) := by decide +kernel
theorem dX1_drift_23 : decode cX1_drift 23 = .ok (.getfield 11, 3) := by decide +kernel
theorem dX1_drift_26 : decode cX1_drift 26 = .ok (.bipush 48, 2) := by decide +kernel
theorem dX1_drift_28 : decode cX1_drift 28 = .ok (.iload_n 1, 1) := by decide +kernel
theorem dX1_drift_29 : decode cX1_drift 29 = .ok (.iadd, 1) := by decide +kernel
theorem dX1_drift_30 : decode cX1_drift 30 = .ok (.iaload, 1) := by decide +kernel
theorem dX1_drift_31 : decode cX1_drift 31 = .ok (.imul, 1) := by decide +kernel
theorem dX1_drift_32 : decode cX1_drift 32 = .ok (.iload_n 3, 1) := by decide +kernel
theorem dX1_drift_33 : decode cX1_drift 33 = .ok (.idiv, 1) := by decide +kernel
theorem dX1_drift_34 : decode cX1_drift 34 = .ok (.ireturn, 1) := by decide +kernel
theorem dX1_loose_0 : decode cX1_loose 0 = .ok (.aload_n 0, 1) := by decide +kernel
theorem dX1_loose_1 : decode cX1_loose 1 = .ok (.iload_n 1, 1) := by decide +kernel
theorem dX1_loose_2 : decode cX1_loose 2 = .ok (.iload_n 2, 1) := by decide +kernel
theorem dX1_loose_3 : decode cX1_loose 3 = .ok (.iload_n 3, 1) := by decide +kernel
theorem dX1_loose_4 : decode cX1_loose 4 = .ok (.invokevirtual 42, 3) := by decide +kernel
theorem dX1_loose_7 : decode cX1_loose 7 = .ok (.istore 4, 2) := by decide +kernel
theorem dX1_loose_9 : decode cX1_loose 9 = .ok (.aload_n 0, 1) := by decide +kernel
theorem dX1_loose_10 : decode cX1_loose 10 = .ok (.iload 4, 2) := by decide +kernel
theorem dX1_loose_12 : decode cX1_loose 12 = .ok (.invokevirtual 39, 3) := by decide +kernel
theorem dX1_loose_15 : decode cX1_loose 15 = .ok (.istore 5, 2) := by decide +kernel
theorem dX1_loose_17 : decode cX1_loose 17 = .ok (.aload_n 0, 1) := by decide +kernel
theorem dX1_loose_18 : decode cX1_loose 18 = .ok (.getfield 11, 3) := by decide +kernel
theorem dX1_loose_21 : decode cX1_loose 21 = .ok (.bipush 58, 2) := by decide +kernel
theorem dX1_loose_23 : decode cX1_loose 23 = .ok (.iload_n 1, 1) := by decide +kernel
theorem dX1_loose_24 : decode cX1_loose 24 = .ok (.iadd, 1) := by decide +kernel
theorem dX1_loose_25 : decode cX1_loose 25 = .ok (.dup2, 1) := by decide +kernel
theorem dX1_loose_26 : decode cX1_loose 26 = .ok (.iaload, 1) := by decide +kernel
theorem dX1_loose_27 : decode cX1_loose 27 = .ok (.iconst 1, 1) := by decide +kernel
theorem dX1_loose_28 : decode cX1_loose 28 = .ok (.isub, 1) := by decide +kernel
theorem dX1_loose_29 : decode cX1_loose 29 = .ok (.iastore, 1) := by decide +kernel
theorem dX1_loose_30 : decode cX1_loose 30 = .ok (.aload_n 0, 1) := by decide +kernel
theorem dX1_loose_31 : decode cX1_loose 31 = .ok (.getfield 11, 3) := by decide +kernel
theorem dX1_loose_34 : decode cX1_loose 34 = .ok (.bipush 6, 2) := by decide +kernel
theorem dX1_loose_36 : decode cX1_loose 36 = .ok (.dup2, 1) := by decide +kernel
theorem dX1_loose_37 : decode cX1_loose 37 = .ok (.iaload, 1) := by decide +kernel
theorem dX1_loose_38 : decode cX1_loose 38 = .ok (.iconst 1, 1) := by decide +kernel
theorem dX1_loose_39 : decode cX1_loose 39 = .ok (.iadd, 1) := by decide +kernel
theorem dX1_loose_40 : decode cX1_loose 40 = .ok (.iastore, 1) := by decide +kernel
theorem dX1_loose_41 : decode cX1_loose 41 = .ok (.iload 4, 2) := by decide +kernel
theorem dX1_loose_43 : decode cX1_loose 43 = .ok (.iconst (-1), 1) := by decide +kernel
theorem dX1_loose_44 : decode cX1_loose 44 = .ok (.if_icmp .ne 17, 3) := by decide +kernel
theorem dX1_loose_47 : decode cX1_loose 47 = .ok (.aload_n 0, 1) := by decide +kernel
theorem dX1_loose_48 : decode cX1_loose 48 = .ok (.getfield 11, 3) := by decide +kernel
theorem dX1_loose_51 : decode cX1_loose 51 = .ok (.bipush 7, 2) := by decide +kernel
theorem dX1_loose_53 : decode cX1_loose 53 = .ok (.dup2, 1) := by decide +kernel
theorem dX1_loose_54 : decode cX1_loose 54 = .ok (.iaload, 1) := by decide +kernel
theorem dX1_loose_55 : decode cX1_loose 55 = .ok (.iconst 1, 1) := by decide +kernel
theorem dX1_loose_56 : decode cX1_loose 56 = .ok (.iadd, 1) := by decide +kernel
theorem dX1_loose_57 : decode cX1_loose 57 = .ok (.iastore, 1) := by decide +kernel
theorem dX1_loose_58 : decode cX1_loose 58 = .ok (.goto 70, 3) := by decide +kernel
theorem dX1_loose_61 : decode cX1_loose 61 = .ok (.iload 5, 2) := by decide +kernel
theorem dX1_loose_63 : decode cX1_loose 63 = .ok (.iconst (-1), 1) := by decide +kernel
theorem dX1_loose_64 : decode cX1_loose 64 = .ok (.if_icmp .eq 64, 3) := by decide +kernel
theorem dX1_loose_67 : decode cX1_loose 67 = .ok (.aload_n 0, 1) := by decide +kernel
theorem dX1_loose_68 : decode cX1_loose 68 = .ok (.getfield 11, 3) := by decide +kernel
theorem dX1_loose_71 : decode cX1_loose 71 = .ok (.bipush 32, 2) := by decide +kernel
theorem dX1_loose_73 : decode cX1_loose 73 = .ok (.iload 5, 2) := by decide +kernel
theorem dX1_loose_75 : decode cX1_loose 75 = .ok (.iadd, 1) := by decide +kernel
theorem dX1_loose_76 : decode cX1_loose 76 = .ok (.dup2, 1) := by decide +kernel
theorem dX1_loose_77 : decode cX1_loose 77 = .ok (.iaload, 1) := by decide +kernel
theorem dX1_loose_78 : decode cX1_loose 78 = .ok (.iconst 1, 1) := by decide +kernel
theorem dX1_loose_79 : decode cX1_loose 79 = .ok (.iadd, 1) := by decide +kernel
theorem dX1_loose_80 : decode cX1_loose 80 = .ok (.iastore, 1) := by decide +kernel
theorem dX1_loose_81 : decode cX1_loose 81 = .ok (.iload 5, 2) := by decide +kernel
theorem dX1_loose_83 : decode cX1_loose 83 = .ok (.aload_n 0, 1) := by decide +kernel
theorem dX1_loose_84 : decode cX1_loose 84 = .ok (.getfield 11, 3) := by decide +kernel
theorem dX1_loose_87 : decode cX1_loose 87 = .ok (.bipush 38, 2) := by decide +kernel
theorem dX1_loose_89 : decode cX1_loose 89 = .ok (.iload_n 1, 1) := by decide +kernel
theorem dX1_loose_90 : decode cX1_loose 90 = .ok (.iadd, 1) := by decide +kernel
theorem dX1_loose_91 : decode cX1_loose 91 = .ok (.iaload, 1) := by decide +kernel
theorem dX1_loose_92 : decode cX1_loose 92 = .ok (.if_icmp .ne 36, 3) := by decide +kernel
theorem dX1_loose_95 : decode cX1_loose 95 = .ok (.aload_n 0, 1) := by decide +kernel
theorem dX1_loose_96 : decode cX1_loose 96 = .ok (.getfield 11, 3) := by decide +kernel
theorem dX1_loose_99 : decode cX1_loose 99 = .ok (.bipush 53, 2) := by decide +kernel
theorem dX1_loose_101 : decode cX1_loose 101 = .ok (.iload_n 1, 1) := by decide +kernel
theorem dX1_loose_102 : decode cX1_loose 102 = .ok (.iadd, 1) := by decide +kernel
theorem dX1_loose_103 : decode cX1_loose 103 = .ok (.iconst 0, 1) := by decide +kernel
theorem dX1_loose_104 : decode cX1_loose 104 = .ok (.aload_n 0, 1) := by decide +kernel
theorem dX1_loose_105 : decode cX1_loose 105 = .ok (.getfield 11, 3) := by decide +kernel
theorem dX1_loose_108 : decode cX1_loose 108 = .ok (.bipush 53, 2) := by decide +kernel
theorem dX1_loose_110 : decode cX1_loose 110 = .ok (.iload_n 1, 1) := by decide +kernel
theorem dX1_loose_111 : decode cX1_loose 111 = .ok (.iadd, 1) := by decide +kernel
theorem dX1_loose_112 : decode cX1_loose 112 = .ok (.iaload, 1) := by decide +kernel
theorem dX1_loose_113 : decode cX1_loose 113 = .ok (.aload_n 0, 1) := by decide +kernel
theorem dX1_loose_114 : decode cX1_loose 114 = .ok (.getfield 11, 3) := by decide +kernel
theorem dX1_loose_117 : decode cX1_loose 117 = .ok (.bipush 26, 2) := by decide +kernel
theorem dX1_loose_119 : decode cX1_loose 119 = .ok (.iload 5, 2) := by decide +kernel
theorem dX1_loose_121 : decode cX1_loose 121 = .ok (.iadd, 1) := by decide +kernel
theorem dX1_loose_122 : decode cX1_loose 122 = .ok (.iaload, 1) := by decide +kernel
theorem dX1_loose_123 : decode cX1_loose 123 = .ok (.isub, 1) := by decide +kernel
theorem dX1_loose_124 : decode cX1_loose 124 = .ok (.invokestatic 46, 3) := by decide +kernel
theorem dX1_loose_127 : decode cX1_loose 127 = .ok (.iastore, 1) := by decide +kernel
theorem dX1_loose_128 : decode cX1_loose 128 = .ok (.iload 4, 2) := by decide +kernel
theorem dX1_loose_130 : decode cX1_loose 130 = .ok (.ireturn, 1) := by decide +kernel
theorem dX2_drawn_0 : decode cX2_drawn 0 = .ok (.aload_n 0, 1) := by decide +kernel
theorem dX2_drawn_1 : decode cX2_drawn 1 = .ok (.aload_n 0, 1) := by decide +kernel
theorem dX2_drawn_2 : decode cX2_drawn 2 = .ok (.getfield 18, 3) := by decide +kernel
theorem dX2_drawn_5 : decode cX2_drawn 5 = .ok (.i2l, 1) := by decide +kernel
theorem dX2_drawn_6 : decode cX2_drawn 6 = .ok (.ldc2_w 100, 3) := by decide +kernel
theorem dX2_drawn_9 : decode cX2_drawn 9 = .ok (.lmul, 1) := by decide +kernel
theorem dX2_drawn_10 : decode cX2_drawn 10 = .ok (.ldc2_w 102, 3) := by decide +kernel
theorem dX2_drawn_13 : decode cX2_drawn 13 = .ok (.ladd, 1) := by decide +kernel
theorem dX2_drawn_14 : decode cX2_drawn 14 = .ok (.ldc2_w 104, 3) := by decide +kernel
theorem dX2_drawn_17 : decode cX2_drawn 17 = .ok (.land, 1) := by decide +kernel
theorem dX2_drawn_18 : decode cX2_drawn 18 = .ok (.l2i, 1) := by decide +kernel
theorem dX2_drawn_19 : decode cX2_drawn 19 = .ok (.putfield 18, 3) := by decide +kernel
theorem dX2_drawn_22 : decode cX2_drawn 22 = .ok (.aload_n 0, 1) := by decide +kernel
theorem dX2_drawn_23 : decode cX2_drawn 23 = .ok (.getfield 18, 3) := by decide +kernel
theorem dX2_drawn_26 : decode cX2_drawn 26 = .ok (.ldc 106, 2) := by decide +kernel
theorem dX2_drawn_28 : decode cX2_drawn 28 = .ok (.idiv, 1) := by decide +kernel
theorem dX2_drawn_29 : decode cX2_drawn 29 = .ok (.ireturn, 1) := by decide +kernel
theorem dX5_agree_0 : decode cX5_agree 0 = .ok (.iconst 0, 1) := by decide +kernel
theorem dX5_agree_1 : decode cX5_agree 1 = .ok (.istore_n 3, 1) := by decide +kernel
theorem dX5_agree_2 : decode cX5_agree 2 = .ok (.iload_n 3, 1) := by decide +kernel
theorem dX5_agree_3 : decode cX5_agree 3 = .ok (.aload_n 0, 1) := by decide +kernel
theorem dX5_agree_4 : decode cX5_agree 4 = .ok (.getfield 21, 3) := by decide +kernel
theorem dX5_agree_7 : decode cX5_agree 7 = .ok (.if_icmp .ge 38, 3) := by decide +kernel
theorem dX5_agree_10 : decode cX5_agree 10 = .ok (.aload_n 0, 1) := by decide +kernel
theorem dX5_agree_11 : decode cX5_agree 11 = .ok (.getfield 11, 3) := by decide +kernel
theorem dX5_agree_14 : decode cX5_agree 14 = .ok (.iload_n 3, 1) := by decide +kernel
theorem dX5_agree_15 : decode cX5_agree 15 = .ok (.iaload, 1) := by decide +kernel
theorem dX5_agree_16 : decode cX5_agree 16 = .ok (.iload_n 1, 1) := by decide +kernel
theorem dX5_agree_17 : decode cX5_agree 17 = .ok (.if_icmp .ne 22, 3) := by decide +kernel
theorem dX5_agree_20 : decode cX5_agree 20 = .ok (.aload_n 2, 1) := by decide +kernel
theorem dX5_agree_21 : decode cX5_agree 21 = .ok (.aload_n 0, 1) := by decide +kernel
theorem dX5_agree_22 : decode cX5_agree 22 = .ok (.getfield 15, 3) := by decide +kernel
theorem dX5_agree_25 : decode cX5_agree 25 = .ok (.iload_n 3, 1) := by decide +kernel
theorem dX5_agree_26 : decode cX5_agree 26 = .ok (.iaload, 1) := by decide +kernel
theorem dX5_agree_27 : decode cX5_agree 27 = .ok (.iaload, 1) := by decide +kernel
theorem dX5_agree_28 : decode cX5_agree 28 = .ok (.aload_n 0, 1) := by decide +kernel
theorem dX5_agree_29 : decode cX5_agree 29 = .ok (.getfield 18, 3) := by decide +kernel
theorem dX5_agree_32 : decode cX5_agree 32 = .ok (.iload_n 3, 1) := by decide +kernel
theorem dX5_agree_33 : decode cX5_agree 33 = .ok (.iaload, 1) := by decide +kernel
theorem dX5_agree_34 : decode cX5_agree 34 = .ok (.if_icmp .eq 5, 3) := by decide +kernel
theorem dX5_agree_37 : decode cX5_agree 37 = .ok (.iconst 0, 1) := by decide +kernel
theorem dX5_agree_38 : decode cX5_agree 38 = .ok (.ireturn, 1) := by decide +kernel
theorem dX5_agree_39 : decode cX5_agree 39 = .ok (.iinc 3 1, 3) := by decide +kernel
theorem dX5_agree_42 : decode cX5_agree 42 = .ok (.goto (-40), 3) := by decide +kernel
theorem dX5_agree_45 : decode cX5_agree 45 = .ok (.iconst 1, 1) := by decide +kernel
theorem dX5_agree_46 : decode cX5_agree 46 = .ok (.ireturn, 1) := by decide +kernel
theorem dX6_aimOf_0 : decode cX6_aimOf 0 = .ok (.aload_n 0, 1) := by decide +kernel
theorem dX6_aimOf_1 : decode cX6_aimOf 1 = .ok (.getfield 12, 3) := by decide +kernel
theorem dX6_aimOf_4 : decode cX6_aimOf 4 = .ok (.getfield 56, 3) := by decide +kernel
theorem dX6_aimOf_7 : decode cX6_aimOf 7 = .ok (.astore_n 3, 1) := by decide +kernel
theorem dX6_aimOf_8 : decode cX6_aimOf 8 = .ok (.aload_n 0, 1) := by decide +kernel
theorem dX6_aimOf_9 : decode cX6_aimOf 9 = .ok (.getfield 39, 3) := by decide +kernel
theorem dX6_aimOf_12 : decode cX6_aimOf 12 = .ok (.iconst 0, 1) := by decide +kernel
theorem dX6_aimOf_13 : decode cX6_aimOf 13 = .ok (.iload_n 1, 1) := by decide +kernel
theorem dX6_aimOf_14 : decode cX6_aimOf 14 = .ok (.i2l, 1) := by decide +kernel
theorem dX6_aimOf_15 : decode cX6_aimOf 15 = .ok (.lastore, 1) := by decide +kernel
theorem dX6_aimOf_16 : decode cX6_aimOf 16 = .ok (.aload_n 0, 1) := by decide +kernel
theorem dX6_aimOf_17 : decode cX6_aimOf 17 = .ok (.getfield 39, 3) := by decide +kernel
theorem dX6_aimOf_20 : decode cX6_aimOf 20 = .ok (.bipush 6, 2) := by decide +kernel
theorem dX6_aimOf_22 : decode cX6_aimOf 22 = .ok (.aload_n 3, 1) := by decide +kernel
theorem dX6_aimOf_23 : decode cX6_aimOf 23 = .ok (.bipush 43, 2) := by decide +kernel
theorem dX6_aimOf_25 : decode cX6_aimOf 25 = .ok (.iload_n 1, 1) := by decide +kernel
theorem dX6_aimOf_26 : decode cX6_aimOf 26 = .ok (.iadd, 1) := by decide +kernel
theorem dX6_aimOf_27 : decode cX6_aimOf 27 = .ok (.iaload, 1) := by decide +kernel
theorem dX6_aimOf_28 : decode cX6_aimOf 28 = .ok (.i2l, 1) := by decide +kernel
theorem dX6_aimOf_29 : decode cX6_aimOf 29 = .ok (.lastore, 1) := by decide +kernel
theorem dX6_aimOf_30 : decode cX6_aimOf 30 = .ok (.aload_n 0, 1) := by decide +kernel
theorem dX6_aimOf_31 : decode cX6_aimOf 31 = .ok (.getfield 39, 3) := by decide +kernel
theorem dX6_aimOf_34 : decode cX6_aimOf 34 = .ok (.bipush 7, 2) := by decide +kernel
theorem dX6_aimOf_36 : decode cX6_aimOf 36 = .ok (.aload_n 3, 1) := by decide +kernel
theorem dX6_aimOf_37 : decode cX6_aimOf 37 = .ok (.bipush 48, 2) := by decide +kernel
theorem dX6_aimOf_39 : decode cX6_aimOf 39 = .ok (.iload_n 1, 1) := by decide +kernel
theorem dX6_aimOf_40 : decode cX6_aimOf 40 = .ok (.iadd, 1) := by decide +kernel
theorem dX6_aimOf_41 : decode cX6_aimOf 41 = .ok (.iaload, 1) := by decide +kernel
theorem dX6_aimOf_42 : decode cX6_aimOf 42 = .ok (.i2l, 1) := by decide +kernel
theorem dX6_aimOf_43 : decode cX6_aimOf 43 = .ok (.lastore, 1) := by decide +kernel
theorem dX6_aimOf_44 : decode cX6_aimOf 44 = .ok (.aload_n 0, 1) := by decide +kernel
theorem dX6_aimOf_45 : decode cX6_aimOf 45 = .ok (.getfield 39, 3) := by decide +kernel
theorem dX6_aimOf_48 : decode cX6_aimOf 48 = .ok (.bipush 8, 2) := by decide +kernel
theorem dX6_aimOf_50 : decode cX6_aimOf 50 = .ok (.aload_n 3, 1) := by decide +kernel
theorem dX6_aimOf_51 : decode cX6_aimOf 51 = .ok (.bipush 53, 2) := by decide +kernel
theorem dX6_aimOf_53 : decode cX6_aimOf 53 = .ok (.iload_n 1, 1) := by decide +kernel
theorem dX6_aimOf_54 : decode cX6_aimOf 54 = .ok (.iadd, 1) := by decide +kernel
theorem dX6_aimOf_55 : decode cX6_aimOf 55 = .ok (.iaload, 1) := by decide +kernel
theorem dX6_aimOf_56 : decode cX6_aimOf 56 = .ok (.i2l, 1) := by decide +kernel
theorem dX6_aimOf_57 : decode cX6_aimOf 57 = .ok (.lastore, 1) := by decide +kernel
theorem dX6_aimOf_58 : decode cX6_aimOf 58 = .ok (.aload_n 0, 1) := by decide +kernel
theorem dX6_aimOf_59 : decode cX6_aimOf 59 = .ok (.getfield 39, 3) := by decide +kernel
theorem dX6_aimOf_62 : decode cX6_aimOf 62 = .ok (.bipush 9, 2) := by decide +kernel
theorem dX6_aimOf_64 : decode cX6_aimOf 64 = .ok (.aload_n 3, 1) := by decide +kernel
theorem dX6_aimOf_65 : decode cX6_aimOf 65 = .ok (.bipush 58, 2) := by decide +kernel
theorem dX6_aimOf_67 : decode cX6_aimOf 67 = .ok (.iload_n 1, 1) := by decide +kernel
theorem dX6_aimOf_68 : decode cX6_aimOf 68 = .ok (.iadd, 1) := by decide +kernel
theorem dX6_aimOf_69 : decode cX6_aimOf 69 = .ok (.iaload, 1) := by decide +kernel
theorem dX6_aimOf_70 : decode cX6_aimOf 70 = .ok (.i2l, 1) := by decide +kernel
theorem dX6_aimOf_71 : decode cX6_aimOf 71 = .ok (.lastore, 1) := by decide +kernel
theorem dX6_aimOf_72 : decode cX6_aimOf 72 = .ok (.aload_n 0, 1) := by decide +kernel
theorem dX6_aimOf_73 : decode cX6_aimOf 73 = .ok (.getfield 39, 3) := by decide +kernel
theorem dX6_aimOf_76 : decode cX6_aimOf 76 = .ok (.bipush 10, 2) := by decide +kernel
theorem dX6_aimOf_78 : decode cX6_aimOf 78 = .ok (.iload_n 2, 1) := by decide +kernel
theorem dX6_aimOf_79 : decode cX6_aimOf 79 = .ok (.i2l, 1) := by decide +kernel
theorem dX6_aimOf_80 : decode cX6_aimOf 80 = .ok (.lastore, 1) := by decide +kernel
theorem dX6_aimOf_81 : decode cX6_aimOf 81 = .ok (.aload_n 0, 1) := by decide +kernel
theorem dX6_aimOf_82 : decode cX6_aimOf 82 = .ok (.getfield 39, 3) := by decide +kernel
theorem dX6_aimOf_85 : decode cX6_aimOf 85 = .ok (.bipush 11, 2) := by decide +kernel
theorem dX6_aimOf_87 : decode cX6_aimOf 87 = .ok (.aload_n 0, 1) := by decide +kernel
theorem dX6_aimOf_88 : decode cX6_aimOf 88 = .ok (.getfield 12, 3) := by decide +kernel
theorem dX6_aimOf_91 : decode cX6_aimOf 91 = .ok (.iload_n 1, 1) := by decide +kernel
theorem dX6_aimOf_92 : decode cX6_aimOf 92 = .ok (.iload_n 2, 1) := by decide +kernel
theorem dX6_aimOf_93 : decode cX6_aimOf 93 = .ok (.invokevirtual 84, 3) := by decide +kernel
theorem dX6_aimOf_96 : decode cX6_aimOf 96 = .ok (.i2l, 1) := by decide +kernel
theorem dX6_aimOf_97 : decode cX6_aimOf 97 = .ok (.lastore, 1) := by decide +kernel
theorem dX6_aimOf_98 : decode cX6_aimOf 98 = .ok (.aload_n 0, 1) := by decide +kernel
theorem dX6_aimOf_99 : decode cX6_aimOf 99 = .ok (.getfield 39, 3) := by decide +kernel
theorem dX6_aimOf_102 : decode cX6_aimOf 102 = .ok (.bipush 12, 2) := by decide +kernel
theorem dX6_aimOf_104 : decode cX6_aimOf 104 = .ok (.aload_n 3, 1) := by decide +kernel
theorem dX6_aimOf_105 : decode cX6_aimOf 105 = .ok (.iconst 5, 1) := by decide +kernel
theorem dX6_aimOf_106 : decode cX6_aimOf 106 = .ok (.iaload, 1) := by decide +kernel
theorem dX6_aimOf_107 : decode cX6_aimOf 107 = .ok (.i2l, 1) := by decide +kernel
theorem dX6_aimOf_108 : decode cX6_aimOf 108 = .ok (.lastore, 1) := by decide +kernel
theorem dX6_aimOf_109 : decode cX6_aimOf 109 = .ok (.iconst (-1), 1) := by decide +kernel
theorem dX6_aimOf_110 : decode cX6_aimOf 110 = .ok (.istore 4, 2) := by decide +kernel
theorem dX6_aimOf_112 : decode cX6_aimOf 112 = .ok (.lconst 0, 1) := by decide +kernel
theorem dX6_aimOf_113 : decode cX6_aimOf 113 = .ok (.lstore 5, 2) := by decide +kernel
theorem dX6_aimOf_115 : decode cX6_aimOf 115 = .ok (.iconst 0, 1) := by decide +kernel
theorem dX6_aimOf_116 : decode cX6_aimOf 116 = .ok (.istore 7, 2) := by decide +kernel
theorem dX6_aimOf_118 : decode cX6_aimOf 118 = .ok (.iload 7, 2) := by decide +kernel
theorem dX6_aimOf_120 : decode cX6_aimOf 120 = .ok (.aload_n 3, 1) := by decide +kernel
theorem dX6_aimOf_121 : decode cX6_aimOf 121 = .ok (.iconst 3, 1) := by decide +kernel
theorem dX6_aimOf_122 : decode cX6_aimOf 122 = .ok (.iaload, 1) := by decide +kernel
theorem dX6_aimOf_123 : decode cX6_aimOf 123 = .ok (.if_icmp .ge 115, 3) := by decide +kernel
theorem dX6_aimOf_126 : decode cX6_aimOf 126 = .ok (.aload_n 0, 1) := by decide +kernel
theorem dX6_aimOf_127 : decode cX6_aimOf 127 = .ok (.getfield 39, 3) := by decide +kernel
theorem dX6_aimOf_130 : decode cX6_aimOf 130 = .ok (.iconst 1, 1) := by decide +kernel
theorem dX6_aimOf_131 : decode cX6_aimOf 131 = .ok (.iload 7, 2) := by decide +kernel
theorem dX6_aimOf_133 : decode cX6_aimOf 133 = .ok (.i2l, 1) := by decide +kernel
theorem dX6_aimOf_134 : decode cX6_aimOf 134 = .ok (.lastore, 1) := by decide +kernel
theorem dX6_aimOf_135 : decode cX6_aimOf 135 = .ok (.aload_n 0, 1) := by decide +kernel
theorem dX6_aimOf_136 : decode cX6_aimOf 136 = .ok (.getfield 39, 3) := by decide +kernel
theorem dX6_aimOf_139 : decode cX6_aimOf 139 = .ok (.iconst 2, 1) := by decide +kernel
theorem dX6_aimOf_140 : decode cX6_aimOf 140 = .ok (.iload 7, 2) := by decide +kernel
theorem dX6_aimOf_142 : decode cX6_aimOf 142 = .ok (.aload_n 3, 1) := by decide +kernel
theorem dX6_aimOf_143 : decode cX6_aimOf 143 = .ok (.bipush 38, 2) := by decide +kernel
theorem dX6_aimOf_145 : decode cX6_aimOf 145 = .ok (.iload_n 1, 1) := by decide +kernel
theorem dX6_aimOf_146 : decode cX6_aimOf 146 = .ok (.iadd, 1) := by decide +kernel
theorem dX6_aimOf_147 : decode cX6_aimOf 147 = .ok (.iaload, 1) := by decide +kernel
theorem dX6_aimOf_148 : decode cX6_aimOf 148 = .ok (.if_icmp .ne 7, 3) := by decide +kernel
theorem dX6_aimOf_151 : decode cX6_aimOf 151 = .ok (.lconst 1, 1) := by decide +kernel
theorem dX6_aimOf_152 : decode cX6_aimOf 152 = .ok (.goto 4, 3) := by decide +kernel
theorem dX6_aimOf_155 : decode cX6_aimOf 155 = .ok (.lconst 0, 1) := by decide +kernel
theorem dX6_aimOf_156 : decode cX6_aimOf 156 = .ok (.lastore, 1) := by decide +kernel
theorem dX6_aimOf_157 : decode cX6_aimOf 157 = .ok (.aload_n 0, 1) := by decide +kernel
theorem dX6_aimOf_158 : decode cX6_aimOf 158 = .ok (.getfield 39, 3) := by decide +kernel
theorem dX6_aimOf_161 : decode cX6_aimOf 161 = .ok (.iconst 3, 1) := by decide +kernel
theorem dX6_aimOf_162 : decode cX6_aimOf 162 = .ok (.aload_n 3, 1) := by decide +kernel
theorem dX6_aimOf_163 : decode cX6_aimOf 163 = .ok (.bipush 20, 2) := by decide +kernel
theorem dX6_aimOf_165 : decode cX6_aimOf 165 = .ok (.iload 7, 2) := by decide +kernel
theorem dX6_aimOf_167 : decode cX6_aimOf 167 = .ok (.iadd, 1) := by decide +kernel
theorem dX6_aimOf_168 : decode cX6_aimOf 168 = .ok (.iaload, 1) := by decide +kernel
theorem dX6_aimOf_169 : decode cX6_aimOf 169 = .ok (.i2l, 1) := by decide +kernel
theorem dX6_aimOf_170 : decode cX6_aimOf 170 = .ok (.lastore, 1) := by decide +kernel
theorem dX6_aimOf_171 : decode cX6_aimOf 171 = .ok (.aload_n 0, 1) := by decide +kernel
theorem dX6_aimOf_172 : decode cX6_aimOf 172 = .ok (.getfield 39, 3) := by decide +kernel
theorem dX6_aimOf_175 : decode cX6_aimOf 175 = .ok (.iconst 4, 1) := by decide +kernel
theorem dX6_aimOf_176 : decode cX6_aimOf 176 = .ok (.aload_n 3, 1) := by decide +kernel
theorem dX6_aimOf_177 : decode cX6_aimOf 177 = .ok (.bipush 26, 2) := by decide +kernel
theorem dX6_aimOf_179 : decode cX6_aimOf 179 = .ok (.iload 7, 2) := by decide +kernel
theorem dX6_aimOf_181 : decode cX6_aimOf 181 = .ok (.iadd, 1) := by decide +kernel
theorem dX6_aimOf_182 : decode cX6_aimOf 182 = .ok (.iaload, 1) := by decide +kernel
theorem dX6_aimOf_183 : decode cX6_aimOf 183 = .ok (.i2l, 1) := by decide +kernel
theorem dX6_aimOf_184 : decode cX6_aimOf 184 = .ok (.lastore, 1) := by decide +kernel
theorem dX6_aimOf_185 : decode cX6_aimOf 185 = .ok (.aload_n 0, 1) := by decide +kernel
theorem dX6_aimOf_186 : decode cX6_aimOf 186 = .ok (.getfield 39, 3) := by decide +kernel
theorem dX6_aimOf_189 : decode cX6_aimOf 189 = .ok (.iconst 5, 1) := by decide +kernel
theorem dX6_aimOf_190 : decode cX6_aimOf 190 = .ok (.aload_n 3, 1) := by decide +kernel
theorem dX6_aimOf_191 : decode cX6_aimOf 191 = .ok (.bipush 32, 2) := by decide +kernel
theorem dX6_aimOf_193 : decode cX6_aimOf 193 = .ok (.iload 7, 2) := by decide +kernel
theorem dX6_aimOf_195 : decode cX6_aimOf 195 = .ok (.iadd, 1) := by decide +kernel
theorem dX6_aimOf_196 : decode cX6_aimOf 196 = .ok (.iaload, 1) := by decide +kernel
theorem dX6_aimOf_197 : decode cX6_aimOf 197 = .ok (.i2l, 1) := by decide +kernel
theorem dX6_aimOf_198 : decode cX6_aimOf 198 = .ok (.lastore, 1) := by decide +kernel
theorem dX6_aimOf_199 : decode cX6_aimOf 199 = .ok (.aload_n 0, 1) := by decide +kernel
theorem dX6_aimOf_200 : decode cX6_aimOf 200 = .ok (.getfield 33, 3) := by decide +kernel
theorem dX6_aimOf_203 : decode cX6_aimOf 203 = .ok (.aload_n 0, 1) := by decide +kernel
theorem dX6_aimOf_204 : decode cX6_aimOf 204 = .ok (.getfield 39, 3) := by decide +kernel
theorem dX6_aimOf_207 : decode cX6_aimOf 207 = .ok (.aload_n 0, 1) := by decide +kernel
theorem dX6_aimOf_208 : decode cX6_aimOf 208 = .ok (.getfield 43, 3) := by decide +kernel
theorem dX6_aimOf_211 : decode cX6_aimOf 211 = .ok (.invokevirtual 87, 3) := by decide +kernel
theorem dX6_aimOf_214 : decode cX6_aimOf 214 = .ok (.lstore 8, 2) := by decide +kernel
theorem dX6_aimOf_216 : decode cX6_aimOf 216 = .ok (.lload 8, 2) := by decide +kernel
theorem dX6_aimOf_218 : decode cX6_aimOf 218 = .ok (.lload 5, 2) := by decide +kernel
theorem dX6_aimOf_220 : decode cX6_aimOf 220 = .ok (.lcmp, 1) := by decide +kernel
theorem dX6_aimOf_221 : decode cX6_aimOf 221 = .ok (.ifCond .le 11, 3) := by decide +kernel
theorem dX6_aimOf_224 : decode cX6_aimOf 224 = .ok (.lload 8, 2) := by decide +kernel
theorem dX6_aimOf_226 : decode cX6_aimOf 226 = .ok (.lstore 5, 2) := by decide +kernel
theorem dX6_aimOf_228 : decode cX6_aimOf 228 = .ok (.iload 7, 2) := by decide +kernel
theorem dX6_aimOf_230 : decode cX6_aimOf 230 = .ok (.istore 4, 2) := by decide +kernel
theorem dX6_aimOf_232 : decode cX6_aimOf 232 = .ok (.iinc 7 1, 3) := by decide +kernel
theorem dX6_aimOf_235 : decode cX6_aimOf 235 = .ok (.goto (-117), 3) := by decide +kernel
theorem dX6_aimOf_238 : decode cX6_aimOf 238 = .ok (.iload 4, 2) := by decide +kernel
theorem dX6_aimOf_240 : decode cX6_aimOf 240 = .ok (.ireturn, 1) := by decide +kernel
theorem dX7_worth_0 : decode cX7_worth 0 = .ok (.iconst 0, 1) := by decide +kernel
theorem dX7_worth_1 : decode cX7_worth 1 = .ok (.istore_n 3, 1) := by decide +kernel
theorem dX7_worth_2 : decode cX7_worth 2 = .ok (.iconst 0, 1) := by decide +kernel
theorem dX7_worth_3 : decode cX7_worth 3 = .ok (.istore 4, 2) := by decide +kernel
theorem dX7_worth_5 : decode cX7_worth 5 = .ok (.iload 4, 2) := by decide +kernel
theorem dX7_worth_7 : decode cX7_worth 7 = .ok (.aload_n 0, 1) := by decide +kernel
theorem dX7_worth_8 : decode cX7_worth 8 = .ok (.getfield 7, 3) := by decide +kernel
theorem dX7_worth_11 : decode cX7_worth 11 = .ok (.arraylength, 1) := by decide +kernel
theorem dX7_worth_12 : decode cX7_worth 12 = .ok (.if_icmp .ge 179, 3) := by decide +kernel
theorem dX7_worth_15 : decode cX7_worth 15 = .ok (.aload_n 0, 1) := by decide +kernel
theorem dX7_worth_16 : decode cX7_worth 16 = .ok (.getfield 7, 3) := by decide +kernel
theorem dX7_worth_19 : decode cX7_worth 19 = .ok (.iload 4, 2) := by decide +kernel
theorem dX7_worth_21 : decode cX7_worth 21 = .ok (.iaload, 1) := by decide +kernel
theorem dX7_worth_22 : decode cX7_worth 22 = .ok (.bipush 32, 2) := by decide +kernel
theorem dX7_worth_24 : decode cX7_worth 24 = .ok (.irem, 1) := by decide +kernel
theorem dX7_worth_25 : decode cX7_worth 25 = .ok (.istore 5, 2) := by decide +kernel
theorem dX7_worth_27 : decode cX7_worth 27 = .ok (.aload_n 0, 1) := by decide +kernel
theorem dX7_worth_28 : decode cX7_worth 28 = .ok (.getfield 7, 3) := by decide +kernel
theorem dX7_worth_31 : decode cX7_worth 31 = .ok (.iload 4, 2) := by decide +kernel
theorem dX7_worth_33 : decode cX7_worth 33 = .ok (.iaload, 1) := by decide +kernel
theorem dX7_worth_34 : decode cX7_worth 34 = .ok (.bipush 32, 2) := by decide +kernel
theorem dX7_worth_36 : decode cX7_worth 36 = .ok (.idiv, 1) := by decide +kernel
theorem dX7_worth_37 : decode cX7_worth 37 = .ok (.istore 6, 2) := by decide +kernel
theorem dX7_worth_39 : decode cX7_worth 39 = .ok (.iload 5, 2) := by decide +kernel
theorem dX7_worth_41 : decode cX7_worth 41 = .ok (.iconst 1, 1) := by decide +kernel
theorem dX7_worth_42 : decode cX7_worth 42 = .ok (.if_icmp .gt 48, 3) := by decide +kernel
theorem dX7_worth_45 : decode cX7_worth 45 = .ok (.iload_n 3, 1) := by decide +kernel
theorem dX7_worth_46 : decode cX7_worth 46 = .ok (.aload_n 2, 1) := by decide +kernel
theorem dX7_worth_47 : decode cX7_worth 47 = .ok (.arraylength, 1) := by decide +kernel
theorem dX7_worth_48 : decode cX7_worth 48 = .ok (.if_icmp .ge 16, 3) := by decide +kernel
theorem dX7_worth_51 : decode cX7_worth 51 = .ok (.iload 5, 2) := by decide +kernel
theorem dX7_worth_53 : decode cX7_worth 53 = .ok (.iconst 1, 1) := by decide +kernel
theorem dX7_worth_54 : decode cX7_worth 54 = .ok (.if_icmp .ne 12, 3) := by decide +kernel
theorem dX7_worth_57 : decode cX7_worth 57 = .ok (.iload 6, 2) := by decide +kernel
theorem dX7_worth_59 : decode cX7_worth 59 = .ok (.aload_n 1, 1) := by decide +kernel
theorem dX7_worth_60 : decode cX7_worth 60 = .ok (.arraylength, 1) := by decide +kernel
theorem dX7_worth_61 : decode cX7_worth 61 = .ok (.if_icmp .lt 5, 3) := by decide +kernel
theorem dX7_worth_64 : decode cX7_worth 64 = .ok (.lconst 0, 1) := by decide +kernel
theorem dX7_worth_65 : decode cX7_worth 65 = .ok (.lreturn, 1) := by decide +kernel
theorem dX7_worth_66 : decode cX7_worth 66 = .ok (.aload_n 2, 1) := by decide +kernel
theorem dX7_worth_67 : decode cX7_worth 67 = .ok (.iload_n 3, 1) := by decide +kernel
theorem dX7_worth_68 : decode cX7_worth 68 = .ok (.iload 5, 2) := by decide +kernel
theorem dX7_worth_70 : decode cX7_worth 70 = .ok (.ifCond .ne 9, 3) := by decide +kernel
theorem dX7_worth_73 : decode cX7_worth 73 = .ok (.iload 6, 2) := by decide +kernel
theorem dX7_worth_75 : decode cX7_worth 75 = .ok (.i2l, 1) := by decide +kernel
theorem dX7_worth_76 : decode cX7_worth 76 = .ok (.goto 7, 3) := by decide +kernel
theorem dX7_worth_79 : decode cX7_worth 79 = .ok (.aload_n 1, 1) := by decide +kernel
theorem dX7_worth_80 : decode cX7_worth 80 = .ok (.iload 6, 2) := by decide +kernel
theorem dX7_worth_82 : decode cX7_worth 82 = .ok (.laload, 1) := by decide +kernel
theorem dX7_worth_83 : decode cX7_worth 83 = .ok (.lastore, 1) := by decide +kernel
theorem dX7_worth_84 : decode cX7_worth 84 = .ok (.iinc 3 1, 3) := by decide +kernel
theorem dX7_worth_87 : decode cX7_worth 87 = .ok (.goto 98, 3) := by decide +kernel
theorem dX7_worth_90 : decode cX7_worth 90 = .ok (.iload_n 3, 1) := by decide +kernel
theorem dX7_worth_91 : decode cX7_worth 91 = .ok (.iconst 1, 1) := by decide +kernel
theorem dX7_worth_92 : decode cX7_worth 92 = .ok (.if_icmp .lt 14, 3) := by decide +kernel
theorem dX7_worth_95 : decode cX7_worth 95 = .ok (.iload_n 3, 1) := by decide +kernel
theorem dX7_worth_96 : decode cX7_worth 96 = .ok (.iconst 2, 1) := by decide +kernel
theorem dX7_worth_97 : decode cX7_worth 97 = .ok (.if_icmp .ge 11, 3) := by decide +kernel
theorem dX7_worth_100 : decode cX7_worth 100 = .ok (.iload 5, 2) := by decide +kernel
theorem dX7_worth_102 : decode cX7_worth 102 = .ok (.iconst 4, 1) := by decide +kernel
theorem dX7_worth_103 : decode cX7_worth 103 = .ok (.if_icmp .lt 5, 3) := by decide +kernel
theorem dX7_worth_106 : decode cX7_worth 106 = .ok (.lconst 0, 1) := by decide +kernel
theorem dX7_worth_107 : decode cX7_worth 107 = .ok (.lreturn, 1) := by decide +kernel
theorem dX7_worth_108 : decode cX7_worth 108 = .ok (.iload 5, 2) := by decide +kernel
theorem dX7_worth_110 : decode cX7_worth 110 = .ok (.iconst 2, 1) := by decide +kernel
theorem dX7_worth_111 : decode cX7_worth 111 = .ok (.if_icmp .ne 18, 3) := by decide +kernel
theorem dX7_worth_114 : decode cX7_worth 114 = .ok (.aload_n 2, 1) := by decide +kernel
theorem dX7_worth_115 : decode cX7_worth 115 = .ok (.iload_n 3, 1) := by decide +kernel
theorem dX7_worth_116 : decode cX7_worth 116 = .ok (.iconst 1, 1) := by decide +kernel
theorem dX7_worth_117 : decode cX7_worth 117 = .ok (.isub, 1) := by decide +kernel
theorem dX7_worth_118 : decode cX7_worth 118 = .ok (.lconst 1, 1) := by decide +kernel
theorem dX7_worth_119 : decode cX7_worth 119 = .ok (.aload_n 2, 1) := by decide +kernel
theorem dX7_worth_120 : decode cX7_worth 120 = .ok (.iload_n 3, 1) := by decide +kernel
theorem dX7_worth_121 : decode cX7_worth 121 = .ok (.iconst 1, 1) := by decide +kernel
theorem dX7_worth_122 : decode cX7_worth 122 = .ok (.isub, 1) := by decide +kernel
theorem dX7_worth_123 : decode cX7_worth 123 = .ok (.laload, 1) := by decide +kernel
theorem dX7_worth_124 : decode cX7_worth 124 = .ok (.lsub, 1) := by decide +kernel
theorem dX7_worth_125 : decode cX7_worth 125 = .ok (.lastore, 1) := by decide +kernel
theorem dX7_worth_126 : decode cX7_worth 126 = .ok (.goto 59, 3) := by decide +kernel
theorem dX7_worth_129 : decode cX7_worth 129 = .ok (.iload 5, 2) := by decide +kernel
theorem dX7_worth_131 : decode cX7_worth 131 = .ok (.iconst 3, 1) := by decide +kernel
theorem dX7_worth_132 : decode cX7_worth 132 = .ok (.if_icmp .ne 9, 3) := by decide +kernel
theorem dX7_worth_135 : decode cX7_worth 135 = .ok (.aload_n 2, 1) := by decide +kernel
theorem dX7_worth_136 : decode cX7_worth 136 = .ok (.iload_n 3, 1) := by decide +kernel
theorem dX7_worth_137 : decode cX7_worth 137 = .ok (.iconst 1, 1) := by decide +kernel
theorem dX7_worth_138 : decode cX7_worth 138 = .ok (.isub, 1) := by decide +kernel
theorem dX7_worth_139 : decode cX7_worth 139 = .ok (.laload, 1) := by decide +kernel
theorem dX7_worth_140 : decode cX7_worth 140 = .ok (.lreturn, 1) := by decide +kernel
theorem dX7_worth_141 : decode cX7_worth 141 = .ok (.iload 5, 2) := by decide +kernel
theorem dX7_worth_143 : decode cX7_worth 143 = .ok (.iconst 4, 1) := by decide +kernel
theorem dX7_worth_144 : decode cX7_worth 144 = .ok (.if_icmp .ne 20, 3) := by decide +kernel
theorem dX7_worth_147 : decode cX7_worth 147 = .ok (.iinc 3 (-2), 3) := by decide +kernel
theorem dX7_worth_150 : decode cX7_worth 150 = .ok (.aload_n 2, 1) := by decide +kernel
theorem dX7_worth_151 : decode cX7_worth 151 = .ok (.iload_n 3, 1) := by decide +kernel
theorem dX7_worth_152 : decode cX7_worth 152 = .ok (.iconst 1, 1) := by decide +kernel
theorem dX7_worth_153 : decode cX7_worth 153 = .ok (.iadd, 1) := by decide +kernel
theorem dX7_worth_154 : decode cX7_worth 154 = .ok (.laload, 1) := by decide +kernel
theorem dX7_worth_155 : decode cX7_worth 155 = .ok (.lconst 0, 1) := by decide +kernel
theorem dX7_worth_156 : decode cX7_worth 156 = .ok (.lcmp, 1) := by decide +kernel
theorem dX7_worth_157 : decode cX7_worth 157 = .ok (.ifCond .eq 28, 3) := by decide +kernel
theorem dX7_worth_160 : decode cX7_worth 160 = .ok (.aload_n 2, 1) := by decide +kernel
theorem dX7_worth_161 : decode cX7_worth 161 = .ok (.iload_n 3, 1) := by decide +kernel
theorem dX7_worth_162 : decode cX7_worth 162 = .ok (.laload, 1) := by decide +kernel
theorem dX7_worth_163 : decode cX7_worth 163 = .ok (.lreturn, 1) := by decide +kernel
theorem dX7_worth_164 : decode cX7_worth 164 = .ok (.iinc 3 (-1), 3) := by decide +kernel
theorem dX7_worth_167 : decode cX7_worth 167 = .ok (.aload_n 2, 1) := by decide +kernel
theorem dX7_worth_168 : decode cX7_worth 168 = .ok (.iload_n 3, 1) := by decide +kernel
theorem dX7_worth_169 : decode cX7_worth 169 = .ok (.iconst 1, 1) := by decide +kernel
theorem dX7_worth_170 : decode cX7_worth 170 = .ok (.isub, 1) := by decide +kernel
theorem dX7_worth_171 : decode cX7_worth 171 = .ok (.iload 5, 2) := by decide +kernel
theorem dX7_worth_173 : decode cX7_worth 173 = .ok (.aload_n 2, 1) := by decide +kernel
theorem dX7_worth_174 : decode cX7_worth 174 = .ok (.iload_n 3, 1) := by decide +kernel
theorem dX7_worth_175 : decode cX7_worth 175 = .ok (.iconst 1, 1) := by decide +kernel
theorem dX7_worth_176 : decode cX7_worth 176 = .ok (.isub, 1) := by decide +kernel
theorem dX7_worth_177 : decode cX7_worth 177 = .ok (.laload, 1) := by decide +kernel
theorem dX7_worth_178 : decode cX7_worth 178 = .ok (.aload_n 2, 1) := by decide +kernel
theorem dX7_worth_179 : decode cX7_worth 179 = .ok (.iload_n 3, 1) := by decide +kernel
theorem dX7_worth_180 : decode cX7_worth 180 = .ok (.laload, 1) := by decide +kernel
theorem dX7_worth_181 : decode cX7_worth 181 = .ok (.invokestatic 17, 3) := by decide +kernel
theorem dX7_worth_184 : decode cX7_worth 184 = .ok (.lastore, 1) := by decide +kernel
theorem dX7_worth_185 : decode cX7_worth 185 = .ok (.iinc 4 1, 3) := by decide +kernel
theorem dX7_worth_188 : decode cX7_worth 188 = .ok (.goto (-183), 3) := by decide +kernel
theorem dX7_worth_191 : decode cX7_worth 191 = .ok (.lconst 0, 1) := by decide +kernel
theorem dX7_worth_192 : decode cX7_worth 192 = .ok (.lreturn, 1) := by decide +kernel
theorem dX11_ahead_0 : decode cX11_ahead 0 = .ok (.iload_n 3, 1) := by decide +kernel
theorem dX11_ahead_1 : decode cX11_ahead 1 = .ok (.iconst 2, 1) := by decide +kernel
theorem dX11_ahead_2 : decode cX11_ahead 2 = .ok (.if_icmp .ne 7, 3) := by decide +kernel
theorem dX11_ahead_5 : decode cX11_ahead 5 = .ok (.iconst 1, 1) := by decide +kernel
theorem dX11_ahead_6 : decode cX11_ahead 6 = .ok (.goto 4, 3) := by decide +kernel
theorem dX11_ahead_9 : decode cX11_ahead 9 = .ok (.iconst 0, 1) := by decide +kernel
theorem dX11_ahead_10 : decode cX11_ahead 10 = .ok (.istore 4, 2) := by decide +kernel
theorem dX11_ahead_12 : decode cX11_ahead 12 = .ok (.aload_n 0, 1) := by decide +kernel
theorem dX11_ahead_13 : decode cX11_ahead 13 = .ok (.getfield 43, 3) := by decide +kernel
theorem dX11_ahead_16 : decode cX11_ahead 16 = .ok (.getfield 111, 3) := by decide +kernel
theorem dX11_ahead_19 : decode cX11_ahead 19 = .ok (.invokevirtual 152, 3) := by decide +kernel
theorem dX11_ahead_22 : decode cX11_ahead 22 = .ok (.ifCond .eq 22, 3) := by decide +kernel
theorem dX11_ahead_25 : decode cX11_ahead 25 = .ok (.iload_n 2, 1) := by decide +kernel
theorem dX11_ahead_26 : decode cX11_ahead 26 = .ok (.iconst 0, 1) := by decide +kernel
theorem dX11_ahead_27 : decode cX11_ahead 27 = .ok (.bipush 100, 2) := by decide +kernel
theorem dX11_ahead_29 : decode cX11_ahead 29 = .ok (.invokestatic 90, 3) := by decide +kernel
theorem dX11_ahead_32 : decode cX11_ahead 32 = .ok (.ifCond .eq 12, 3) := by decide +kernel
theorem dX11_ahead_35 : decode cX11_ahead 35 = .ok (.iload_n 3, 1) := by decide +kernel
theorem dX11_ahead_36 : decode cX11_ahead 36 = .ok (.iconst 0, 1) := by decide +kernel
theorem dX11_ahead_37 : decode cX11_ahead 37 = .ok (.iconst 2, 1) := by decide +kernel
theorem dX11_ahead_38 : decode cX11_ahead 38 = .ok (.invokestatic 90, 3) := by decide +kernel
theorem dX11_ahead_41 : decode cX11_ahead 41 = .ok (.ifCond .ne 5, 3) := by decide +kernel
theorem dX11_ahead_44 : decode cX11_ahead 44 = .ok (.iconst (-1), 1) := by decide +kernel
theorem dX11_ahead_45 : decode cX11_ahead 45 = .ok (.ireturn, 1) := by decide +kernel
theorem dX11_ahead_46 : decode cX11_ahead 46 = .ok (.iload 4, 2) := by decide +kernel
theorem dX11_ahead_48 : decode cX11_ahead 48 = .ok (.ifCond .ne 19, 3) := by decide +kernel
theorem dX11_ahead_51 : decode cX11_ahead 51 = .ok (.aload_n 0, 1) := by decide +kernel
theorem dX11_ahead_52 : decode cX11_ahead 52 = .ok (.getfield 43, 3) := by decide +kernel
theorem dX11_ahead_55 : decode cX11_ahead 55 = .ok (.getfield 111, 3) := by decide +kernel
theorem dX11_ahead_58 : decode cX11_ahead 58 = .ok (.iload_n 1, 1) := by decide +kernel
theorem dX11_ahead_59 : decode cX11_ahead 59 = .ok (.invokevirtual 139, 3) := by decide +kernel
theorem dX11_ahead_62 : decode cX11_ahead 62 = .ok (.ifCond .ne 5, 3) := by decide +kernel
theorem dX11_ahead_65 : decode cX11_ahead 65 = .ok (.iconst (-1), 1) := by decide +kernel
theorem dX11_ahead_66 : decode cX11_ahead 66 = .ok (.ireturn, 1) := by decide +kernel
theorem dX11_ahead_67 : decode cX11_ahead 67 = .ok (.aload_n 0, 1) := by decide +kernel
theorem dX11_ahead_68 : decode cX11_ahead 68 = .ok (.getfield 61, 3) := by decide +kernel
theorem dX11_ahead_71 : decode cX11_ahead 71 = .ok (.aload_n 0, 1) := by decide +kernel
theorem dX11_ahead_72 : decode cX11_ahead 72 = .ok (.getfield 43, 3) := by decide +kernel
theorem dX11_ahead_75 : decode cX11_ahead 75 = .ok (.getfield 111, 3) := by decide +kernel
theorem dX11_ahead_78 : decode cX11_ahead 78 = .ok (.aload_n 0, 1) := by decide +kernel
theorem dX11_ahead_79 : decode cX11_ahead 79 = .ok (.invokevirtual 159, 3) := by decide +kernel
theorem dX11_ahead_82 : decode cX11_ahead 82 = .ok (.invokevirtual 162, 3) := by decide +kernel
theorem dX11_ahead_85 : decode cX11_ahead 85 = .ok (.aload_n 0, 1) := by decide +kernel
theorem dX11_ahead_86 : decode cX11_ahead 86 = .ok (.getfield 61, 3) := by decide +kernel
theorem dX11_ahead_89 : decode cX11_ahead 89 = .ok (.iload_n 2, 1) := by decide +kernel
theorem dX11_ahead_90 : decode cX11_ahead 90 = .ok (.invokevirtual 187, 3) := by decide +kernel
theorem dX11_ahead_93 : decode cX11_ahead 93 = .ok (.iload 4, 2) := by decide +kernel
theorem dX11_ahead_95 : decode cX11_ahead 95 = .ok (.ifCond .eq 17, 3) := by decide +kernel
theorem dX11_ahead_98 : decode cX11_ahead 98 = .ok (.aload_n 0, 1) := by decide +kernel
theorem dX11_ahead_99 : decode cX11_ahead 99 = .ok (.getfield 61, 3) := by decide +kernel
theorem dX11_ahead_102 : decode cX11_ahead 102 = .ok (.getfield 170, 3) := by decide +kernel
theorem dX11_ahead_105 : decode cX11_ahead 105 = .ok (.getfield 124, 3) := by decide +kernel
theorem dX11_ahead_108 : decode cX11_ahead 108 = .ok (.bipush 7, 2) := by decide +kernel
theorem dX11_ahead_110 : decode cX11_ahead 110 = .ok (.iaload, 1) := by decide +kernel
theorem dX11_ahead_111 : decode cX11_ahead 111 = .ok (.ireturn, 1) := by decide +kernel
theorem dX11_ahead_112 : decode cX11_ahead 112 = .ok (.aload_n 0, 1) := by decide +kernel
theorem dX11_ahead_113 : decode cX11_ahead 113 = .ok (.getfield 61, 3) := by decide +kernel
theorem dX11_ahead_116 : decode cX11_ahead 116 = .ok (.getfield 170, 3) := by decide +kernel
theorem dX11_ahead_119 : decode cX11_ahead 119 = .ok (.getfield 124, 3) := by decide +kernel
theorem dX11_ahead_122 : decode cX11_ahead 122 = .ok (.iload_n 3, 1) := by decide +kernel
theorem dX11_ahead_123 : decode cX11_ahead 123 = .ok (.ifCond .ne 8, 3) := by decide +kernel
theorem dX11_ahead_126 : decode cX11_ahead 126 = .ok (.bipush 53, 2) := by decide +kernel
theorem dX11_ahead_128 : decode cX11_ahead 128 = .ok (.goto 5, 3) := by decide +kernel
theorem dX11_ahead_131 : decode cX11_ahead 131 = .ok (.bipush 58, 2) := by decide +kernel
theorem dX11_ahead_133 : decode cX11_ahead 133 = .ok (.iload_n 1, 1) := by decide +kernel
theorem dX11_ahead_134 : decode cX11_ahead 134 = .ok (.iadd, 1) := by decide +kernel
theorem dX11_ahead_135 : decode cX11_ahead 135 = .ok (.iaload, 1) := by decide +kernel
theorem dX11_ahead_136 : decode cX11_ahead 136 = .ok (.ireturn, 1) := by decide +kernel
theorem dX11_count_0 : decode cX11_count 0 = .ok (.iload_n 1, 1) := by decide +kernel
theorem dX11_count_1 : decode cX11_count 1 = .ok (.tableswitch 259 0 15 #[79, 92, 105, 118, 131, 144, 149, 157, 170, 184, 197, 210, 224, 235, 243, 251], 79) := by decide +kernel
theorem dX11_count_80 : decode cX11_count 80 = .ok (.aload_n 0, 1) := by decide +kernel
theorem dX11_count_81 : decode cX11_count 81 = .ok (.getfield 43, 3) := by decide +kernel
theorem dX11_count_84 : decode cX11_count 84 = .ok (.getfield 111, 3) := by decide +kernel
theorem dX11_count_87 : decode cX11_count 87 = .ok (.getfield 124, 3) := by decide +kernel
theorem dX11_count_90 : decode cX11_count 90 = .ok (.iconst 0, 1) := by decide +kernel
theorem dX11_count_91 : decode cX11_count 91 = .ok (.iaload, 1) := by decide +kernel
theorem dX11_count_92 : decode cX11_count 92 = .ok (.ireturn, 1) := by decide +kernel
theorem dX11_count_93 : decode cX11_count 93 = .ok (.aload_n 0, 1) := by decide +kernel
theorem dX11_count_94 : decode cX11_count 94 = .ok (.getfield 43, 3) := by decide +kernel
theorem dX11_count_97 : decode cX11_count 97 = .ok (.getfield 111, 3) := by decide +kernel
theorem dX11_count_100 : decode cX11_count 100 = .ok (.getfield 124, 3) := by decide +kernel
theorem dX11_count_103 : decode cX11_count 103 = .ok (.iconst 1, 1) := by decide +kernel
theorem dX11_count_104 : decode cX11_count 104 = .ok (.iaload, 1) := by decide +kernel
theorem dX11_count_105 : decode cX11_count 105 = .ok (.ireturn, 1) := by decide +kernel
theorem dX11_count_106 : decode cX11_count 106 = .ok (.aload_n 0, 1) := by decide +kernel
theorem dX11_count_107 : decode cX11_count 107 = .ok (.getfield 43, 3) := by decide +kernel
theorem dX11_count_110 : decode cX11_count 110 = .ok (.getfield 111, 3) := by decide +kernel
theorem dX11_count_113 : decode cX11_count 113 = .ok (.getfield 124, 3) := by decide +kernel
theorem dX11_count_116 : decode cX11_count 116 = .ok (.iconst 2, 1) := by decide +kernel
theorem dX11_count_117 : decode cX11_count 117 = .ok (.iaload, 1) := by decide +kernel
theorem dX11_count_118 : decode cX11_count 118 = .ok (.ireturn, 1) := by decide +kernel
theorem dX11_count_119 : decode cX11_count 119 = .ok (.aload_n 0, 1) := by decide +kernel
theorem dX11_count_120 : decode cX11_count 120 = .ok (.getfield 43, 3) := by decide +kernel
theorem dX11_count_123 : decode cX11_count 123 = .ok (.getfield 111, 3) := by decide +kernel
theorem dX11_count_126 : decode cX11_count 126 = .ok (.getfield 124, 3) := by decide +kernel
theorem dX11_count_129 : decode cX11_count 129 = .ok (.iconst 3, 1) := by decide +kernel
theorem dX11_count_130 : decode cX11_count 130 = .ok (.iaload, 1) := by decide +kernel
theorem dX11_count_131 : decode cX11_count 131 = .ok (.ireturn, 1) := by decide +kernel
theorem dX11_count_132 : decode cX11_count 132 = .ok (.aload_n 0, 1) := by decide +kernel
theorem dX11_count_133 : decode cX11_count 133 = .ok (.getfield 43, 3) := by decide +kernel
theorem dX11_count_136 : decode cX11_count 136 = .ok (.getfield 111, 3) := by decide +kernel
theorem dX11_count_139 : decode cX11_count 139 = .ok (.getfield 124, 3) := by decide +kernel
theorem dX11_count_142 : decode cX11_count 142 = .ok (.iconst 4, 1) := by decide +kernel
theorem dX11_count_143 : decode cX11_count 143 = .ok (.iaload, 1) := by decide +kernel
theorem dX11_count_144 : decode cX11_count 144 = .ok (.ireturn, 1) := by decide +kernel
theorem dX11_count_145 : decode cX11_count 145 = .ok (.aload_n 0, 1) := by decide +kernel
theorem dX11_count_146 : decode cX11_count 146 = .ok (.getfield 36, 3) := by decide +kernel
theorem dX11_count_149 : decode cX11_count 149 = .ok (.ireturn, 1) := by decide +kernel
theorem dX11_count_150 : decode cX11_count 150 = .ok (.aload_n 0, 1) := by decide +kernel
theorem dX11_count_151 : decode cX11_count 151 = .ok (.getfield 43, 3) := by decide +kernel
theorem dX11_count_154 : decode cX11_count 154 = .ok (.getfield 133, 3) := by decide +kernel
theorem dX11_count_157 : decode cX11_count 157 = .ok (.ireturn, 1) := by decide +kernel
theorem dX11_count_158 : decode cX11_count 158 = .ok (.aload_n 0, 1) := by decide +kernel
theorem dX11_count_159 : decode cX11_count 159 = .ok (.getfield 43, 3) := by decide +kernel
theorem dX11_count_162 : decode cX11_count 162 = .ok (.getfield 111, 3) := by decide +kernel
theorem dX11_count_165 : decode cX11_count 165 = .ok (.getfield 124, 3) := by decide +kernel
theorem dX11_count_168 : decode cX11_count 168 = .ok (.iconst 5, 1) := by decide +kernel
theorem dX11_count_169 : decode cX11_count 169 = .ok (.iaload, 1) := by decide +kernel
theorem dX11_count_170 : decode cX11_count 170 = .ok (.ireturn, 1) := by decide +kernel
theorem dX11_count_171 : decode cX11_count 171 = .ok (.aload_n 0, 1) := by decide +kernel
theorem dX11_count_172 : decode cX11_count 172 = .ok (.getfield 43, 3) := by decide +kernel
theorem dX11_count_175 : decode cX11_count 175 = .ok (.getfield 111, 3) := by decide +kernel
theorem dX11_count_178 : decode cX11_count 178 = .ok (.getfield 124, 3) := by decide +kernel
theorem dX11_count_181 : decode cX11_count 181 = .ok (.bipush 6, 2) := by decide +kernel
theorem dX11_count_183 : decode cX11_count 183 = .ok (.iaload, 1) := by decide +kernel
theorem dX11_count_184 : decode cX11_count 184 = .ok (.ireturn, 1) := by decide +kernel
theorem dX11_count_185 : decode cX11_count 185 = .ok (.aload_n 0, 1) := by decide +kernel
theorem dX11_count_186 : decode cX11_count 186 = .ok (.getfield 43, 3) := by decide +kernel
theorem dX11_count_189 : decode cX11_count 189 = .ok (.getfield 111, 3) := by decide +kernel
theorem dX11_count_192 : decode cX11_count 192 = .ok (.bipush 53, 2) := by decide +kernel
theorem dX11_count_194 : decode cX11_count 194 = .ok (.invokevirtual 146, 3) := by decide +kernel
theorem dX11_count_197 : decode cX11_count 197 = .ok (.ireturn, 1) := by decide +kernel
theorem dX11_count_198 : decode cX11_count 198 = .ok (.aload_n 0, 1) := by decide +kernel
theorem dX11_count_199 : decode cX11_count 199 = .ok (.getfield 43, 3) := by decide +kernel
theorem dX11_count_202 : decode cX11_count 202 = .ok (.getfield 111, 3) := by decide +kernel
theorem dX11_count_205 : decode cX11_count 205 = .ok (.bipush 58, 2) := by decide +kernel
theorem dX11_count_207 : decode cX11_count 207 = .ok (.invokevirtual 146, 3) := by decide +kernel
theorem dX11_count_210 : decode cX11_count 210 = .ok (.ireturn, 1) := by decide +kernel
theorem dX11_count_211 : decode cX11_count 211 = .ok (.aload_n 0, 1) := by decide +kernel
theorem dX11_count_212 : decode cX11_count 212 = .ok (.getfield 43, 3) := by decide +kernel
theorem dX11_count_215 : decode cX11_count 215 = .ok (.getfield 111, 3) := by decide +kernel
theorem dX11_count_218 : decode cX11_count 218 = .ok (.getfield 124, 3) := by decide +kernel
theorem dX11_count_221 : decode cX11_count 221 = .ok (.bipush 7, 2) := by decide +kernel
theorem dX11_count_223 : decode cX11_count 223 = .ok (.iaload, 1) := by decide +kernel
theorem dX11_count_224 : decode cX11_count 224 = .ok (.ireturn, 1) := by decide +kernel
theorem dX11_count_225 : decode cX11_count 225 = .ok (.aload_n 0, 1) := by decide +kernel
theorem dX11_count_226 : decode cX11_count 226 = .ok (.getfield 43, 3) := by decide +kernel
theorem dX11_count_229 : decode cX11_count 229 = .ok (.getfield 114, 3) := by decide +kernel
theorem dX11_count_232 : decode cX11_count 232 = .ok (.getfield 118, 3) := by decide +kernel
theorem dX11_count_235 : decode cX11_count 235 = .ok (.ireturn, 1) := by decide +kernel
theorem dX11_count_236 : decode cX11_count 236 = .ok (.aload_n 0, 1) := by decide +kernel
theorem dX11_count_237 : decode cX11_count 237 = .ok (.getfield 54, 3) := by decide +kernel
theorem dX11_count_240 : decode cX11_count 240 = .ok (.getfield 123, 3) := by decide +kernel
theorem dX11_count_243 : decode cX11_count 243 = .ok (.ireturn, 1) := by decide +kernel
theorem dX11_count_244 : decode cX11_count 244 = .ok (.aload_n 0, 1) := by decide +kernel
theorem dX11_count_245 : decode cX11_count 245 = .ok (.getfield 43, 3) := by decide +kernel
theorem dX11_count_248 : decode cX11_count 248 = .ok (.getfield 149, 3) := by decide +kernel
theorem dX11_count_251 : decode cX11_count 251 = .ok (.ireturn, 1) := by decide +kernel
theorem dX11_count_252 : decode cX11_count 252 = .ok (.aload_n 0, 1) := by decide +kernel
theorem dX11_count_253 : decode cX11_count 253 = .ok (.getfield 10, 3) := by decide +kernel
theorem dX11_count_256 : decode cX11_count 256 = .ok (.getfield 87, 3) := by decide +kernel
theorem dX11_count_259 : decode cX11_count 259 = .ok (.ireturn, 1) := by decide +kernel
theorem dX11_count_260 : decode cX11_count 260 = .ok (.iconst (-1), 1) := by decide +kernel
theorem dX11_count_261 : decode cX11_count 261 = .ok (.ireturn, 1) := by decide +kernel
theorem dX11_eased_0 : decode cX11_eased 0 = .ok (.aload_n 0, 1) := by decide +kernel
theorem dX11_eased_1 : decode cX11_eased 1 = .ok (.getfield 43, 3) := by decide +kernel
