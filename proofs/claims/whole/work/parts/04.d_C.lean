theorem d_C_init_0 : decode b_C_init 0 = .ok (.aload_n 0, 1) := by decide +kernel
theorem d_C_init_1 : decode b_C_init 1 = .ok (.invokespecial 3, 3) := by decide +kernel
theorem d_C_init_4 : decode b_C_init 4 = .ok (.aload_n 0, 1) := by decide +kernel
theorem d_C_init_5 : decode b_C_init 5 = .ok (.new 9, 3) := by decide +kernel
theorem d_C_init_8 : decode b_C_init 8 = .ok (.dup, 1) := by decide +kernel
theorem d_C_init_9 : decode b_C_init 9 = .ok (.invokespecial 11, 3) := by decide +kernel
theorem d_C_init_12 : decode b_C_init 12 = .ok (.putfield 12, 3) := by decide +kernel
theorem d_C_init_15 : decode b_C_init 15 = .ok (.aload_n 0, 1) := by decide +kernel
theorem d_C_init_16 : decode b_C_init 16 = .ok (.new 16, 3) := by decide +kernel
theorem d_C_init_19 : decode b_C_init 19 = .ok (.dup, 1) := by decide +kernel
theorem d_C_init_20 : decode b_C_init 20 = .ok (.invokespecial 18, 3) := by decide +kernel
theorem d_C_init_23 : decode b_C_init 23 = .ok (.putfield 19, 3) := by decide +kernel
theorem d_C_init_26 : decode b_C_init 26 = .ok (.aload_n 0, 1) := by decide +kernel
theorem d_C_init_27 : decode b_C_init 27 = .ok (.new 23, 3) := by decide +kernel
theorem d_C_init_30 : decode b_C_init 30 = .ok (.dup, 1) := by decide +kernel
theorem d_C_init_31 : decode b_C_init 31 = .ok (.invokespecial 25, 3) := by decide +kernel
theorem d_C_init_34 : decode b_C_init 34 = .ok (.putfield 26, 3) := by decide +kernel
theorem d_C_init_37 : decode b_C_init 37 = .ok (.aload_n 0, 1) := by decide +kernel
theorem d_C_init_38 : decode b_C_init 38 = .ok (.new 30, 3) := by decide +kernel
theorem d_C_init_41 : decode b_C_init 41 = .ok (.dup, 1) := by decide +kernel
theorem d_C_init_42 : decode b_C_init 42 = .ok (.invokespecial 32, 3) := by decide +kernel
theorem d_C_init_45 : decode b_C_init 45 = .ok (.putfield 33, 3) := by decide +kernel
theorem d_C_init_48 : decode b_C_init 48 = .ok (.aload_n 0, 1) := by decide +kernel
theorem d_C_init_49 : decode b_C_init 49 = .ok (.new 37, 3) := by decide +kernel
theorem d_C_init_52 : decode b_C_init 52 = .ok (.dup, 1) := by decide +kernel
theorem d_C_init_53 : decode b_C_init 53 = .ok (.aload_n 0, 1) := by decide +kernel
theorem d_C_init_54 : decode b_C_init 54 = .ok (.getfield 12, 3) := by decide +kernel
theorem d_C_init_57 : decode b_C_init 57 = .ok (.aload_n 0, 1) := by decide +kernel
theorem d_C_init_58 : decode b_C_init 58 = .ok (.getfield 19, 3) := by decide +kernel
theorem d_C_init_61 : decode b_C_init 61 = .ok (.aload_n 0, 1) := by decide +kernel
theorem d_C_init_62 : decode b_C_init 62 = .ok (.getfield 33, 3) := by decide +kernel
theorem d_C_init_65 : decode b_C_init 65 = .ok (.invokespecial 39, 3) := by decide +kernel
theorem d_C_init_68 : decode b_C_init 68 = .ok (.putfield 42, 3) := by decide +kernel
theorem d_C_init_71 : decode b_C_init 71 = .ok (.aload_n 0, 1) := by decide +kernel
theorem d_C_init_72 : decode b_C_init 72 = .ok (.new 46, 3) := by decide +kernel
theorem d_C_init_75 : decode b_C_init 75 = .ok (.dup, 1) := by decide +kernel
theorem d_C_init_76 : decode b_C_init 76 = .ok (.invokespecial 48, 3) := by decide +kernel
theorem d_C_init_79 : decode b_C_init 79 = .ok (.putfield 49, 3) := by decide +kernel
theorem d_C_init_82 : decode b_C_init 82 = .ok (.aload_n 0, 1) := by decide +kernel
theorem d_C_init_83 : decode b_C_init 83 = .ok (.new 53, 3) := by decide +kernel
theorem d_C_init_86 : decode b_C_init 86 = .ok (.dup, 1) := by decide +kernel
theorem d_C_init_87 : decode b_C_init 87 = .ok (.aload_n 0, 1) := by decide +kernel
theorem d_C_init_88 : decode b_C_init 88 = .ok (.getfield 12, 3) := by decide +kernel
theorem d_C_init_91 : decode b_C_init 91 = .ok (.aload_n 0, 1) := by decide +kernel
theorem d_C_init_92 : decode b_C_init 92 = .ok (.getfield 49, 3) := by decide +kernel
theorem d_C_init_95 : decode b_C_init 95 = .ok (.invokespecial 55, 3) := by decide +kernel
theorem d_C_init_98 : decode b_C_init 98 = .ok (.putfield 58, 3) := by decide +kernel
theorem d_C_init_101 : decode b_C_init 101 = .ok (.return_, 1) := by decide +kernel
theorem d_C_unit_0 : decode b_C_unit 0 = .ok (.aload_n 0, 1) := by decide +kernel
theorem d_C_unit_1 : decode b_C_unit 1 = .ok (.getfield 12, 3) := by decide +kernel
theorem d_C_unit_4 : decode b_C_unit 4 = .ok (.iload_n 1, 1) := by decide +kernel
theorem d_C_unit_5 : decode b_C_unit 5 = .ok (.invokestatic 62, 3) := by decide +kernel
theorem d_C_unit_8 : decode b_C_unit 8 = .ok (.invokevirtual 66, 3) := by decide +kernel
theorem d_C_unit_11 : decode b_C_unit 11 = .ok (.ireturn, 1) := by decide +kernel
theorem d_C_word_0 : decode b_C_word 0 = .ok (.aload_n 0, 1) := by decide +kernel
theorem d_C_word_1 : decode b_C_word 1 = .ok (.getfield 12, 3) := by decide +kernel
theorem d_C_word_4 : decode b_C_word 4 = .ok (.invokevirtual 70, 3) := by decide +kernel
theorem d_C_word_7 : decode b_C_word 7 = .ok (.ireturn, 1) := by decide +kernel
theorem d_C_sign_0 : decode b_C_sign 0 = .ok (.aload_n 0, 1) := by decide +kernel
theorem d_C_sign_1 : decode b_C_sign 1 = .ok (.getfield 19, 3) := by decide +kernel
theorem d_C_sign_4 : decode b_C_sign 4 = .ok (.iload_n 1, 1) := by decide +kernel
theorem d_C_sign_5 : decode b_C_sign 5 = .ok (.invokevirtual 74, 3) := by decide +kernel
theorem d_C_sign_8 : decode b_C_sign 8 = .ok (.ifCond .ne 5, 3) := by decide +kernel
theorem d_C_sign_11 : decode b_C_sign 11 = .ok (.iconst 0, 1) := by decide +kernel
theorem d_C_sign_12 : decode b_C_sign 12 = .ok (.ireturn, 1) := by decide +kernel
theorem d_C_sign_13 : decode b_C_sign 13 = .ok (.aload_n 0, 1) := by decide +kernel
theorem d_C_sign_14 : decode b_C_sign 14 = .ok (.getfield 33, 3) := by decide +kernel
theorem d_C_sign_17 : decode b_C_sign 17 = .ok (.invokevirtual 77, 3) := by decide +kernel
theorem d_C_sign_20 : decode b_C_sign 20 = .ok (.iconst 1, 1) := by decide +kernel
theorem d_C_sign_21 : decode b_C_sign 21 = .ok (.ireturn, 1) := by decide +kernel
theorem d_C_keep_0 : decode b_C_keep 0 = .ok (.iload_n 2, 1) := by decide +kernel
theorem d_C_keep_1 : decode b_C_keep 1 = .ok (.invokestatic 62, 3) := by decide +kernel
theorem d_C_keep_4 : decode b_C_keep 4 = .ok (.istore_n 3, 1) := by decide +kernel
theorem d_C_keep_5 : decode b_C_keep 5 = .ok (.iload_n 1, 1) := by decide +kernel
theorem d_C_keep_6 : decode b_C_keep 6 = .ok (.invokestatic 80, 3) := by decide +kernel
theorem d_C_keep_9 : decode b_C_keep 9 = .ok (.ifCond .eq 12, 3) := by decide +kernel
theorem d_C_keep_12 : decode b_C_keep 12 = .ok (.iload_n 3, 1) := by decide +kernel
theorem d_C_keep_13 : decode b_C_keep 13 = .ok (.iconst (-1), 1) := by decide +kernel
theorem d_C_keep_14 : decode b_C_keep 14 = .ok (.if_icmp .ne 9, 3) := by decide +kernel
theorem d_C_keep_17 : decode b_C_keep 17 = .ok (.iload_n 2, 1) := by decide +kernel
theorem d_C_keep_18 : decode b_C_keep 18 = .ok (.ifCond .eq 5, 3) := by decide +kernel
theorem d_C_keep_21 : decode b_C_keep 21 = .ok (.iconst 0, 1) := by decide +kernel
theorem d_C_keep_22 : decode b_C_keep 22 = .ok (.ireturn, 1) := by decide +kernel
theorem d_C_keep_23 : decode b_C_keep 23 = .ok (.aload_n 0, 1) := by decide +kernel
theorem d_C_keep_24 : decode b_C_keep 24 = .ok (.getfield 19, 3) := by decide +kernel
theorem d_C_keep_27 : decode b_C_keep 27 = .ok (.iload_n 1, 1) := by decide +kernel
theorem d_C_keep_28 : decode b_C_keep 28 = .ok (.iload_n 3, 1) := by decide +kernel
theorem d_C_keep_29 : decode b_C_keep 29 = .ok (.invokevirtual 83, 3) := by decide +kernel
theorem d_C_keep_32 : decode b_C_keep 32 = .ok (.aload_n 0, 1) := by decide +kernel
theorem d_C_keep_33 : decode b_C_keep 33 = .ok (.getfield 33, 3) := by decide +kernel
theorem d_C_keep_36 : decode b_C_keep 36 = .ok (.invokevirtual 77, 3) := by decide +kernel
theorem d_C_keep_39 : decode b_C_keep 39 = .ok (.iconst 1, 1) := by decide +kernel
theorem d_C_keep_40 : decode b_C_keep 40 = .ok (.ireturn, 1) := by decide +kernel
theorem d_C_pair_0 : decode b_C_pair 0 = .ok (.aload_n 0, 1) := by decide +kernel
theorem d_C_pair_1 : decode b_C_pair 1 = .ok (.getfield 26, 3) := by decide +kernel
theorem d_C_pair_4 : decode b_C_pair 4 = .ok (.iload_n 1, 1) := by decide +kernel
theorem d_C_pair_5 : decode b_C_pair 5 = .ok (.invokestatic 62, 3) := by decide +kernel
theorem d_C_pair_8 : decode b_C_pair 8 = .ok (.iload_n 2, 1) := by decide +kernel
theorem d_C_pair_9 : decode b_C_pair 9 = .ok (.invokestatic 62, 3) := by decide +kernel
theorem d_C_pair_12 : decode b_C_pair 12 = .ok (.iload_n 3, 1) := by decide +kernel
theorem d_C_pair_13 : decode b_C_pair 13 = .ok (.invokevirtual 87, 3) := by decide +kernel
theorem d_C_pair_16 : decode b_C_pair 16 = .ok (.ireturn, 1) := by decide +kernel
theorem d_C_run_0 : decode b_C_run 0 = .ok (.iload_n 1, 1) := by decide +kernel
theorem d_C_run_1 : decode b_C_run 1 = .ok (.ifCond .lt 9, 3) := by decide +kernel
theorem d_C_run_4 : decode b_C_run 4 = .ok (.iload_n 1, 1) := by decide +kernel
theorem d_C_run_5 : decode b_C_run 5 = .ok (.ldc 91, 2) := by decide +kernel
theorem d_C_run_7 : decode b_C_run 7 = .ok (.if_icmp .le 6, 3) := by decide +kernel
theorem d_C_run_10 : decode b_C_run 10 = .ok (.bipush (-2), 2) := by decide +kernel
theorem d_C_run_12 : decode b_C_run 12 = .ok (.ireturn, 1) := by decide +kernel
theorem d_C_run_13 : decode b_C_run 13 = .ok (.aload_n 0, 1) := by decide +kernel
theorem d_C_run_14 : decode b_C_run 14 = .ok (.getfield 42, 3) := by decide +kernel
theorem d_C_run_17 : decode b_C_run 17 = .ok (.iload_n 1, 1) := by decide +kernel
theorem d_C_run_18 : decode b_C_run 18 = .ok (.invokevirtual 92, 3) := by decide +kernel
theorem d_C_run_21 : decode b_C_run 21 = .ok (.ireturn, 1) := by decide +kernel
theorem d_C_steps_0 : decode b_C_steps 0 = .ok (.aload_n 0, 1) := by decide +kernel
theorem d_C_steps_1 : decode b_C_steps 1 = .ok (.getfield 42, 3) := by decide +kernel
theorem d_C_steps_4 : decode b_C_steps 4 = .ok (.invokevirtual 95, 3) := by decide +kernel
theorem d_C_steps_7 : decode b_C_steps 7 = .ok (.ireturn, 1) := by decide +kernel
theorem d_C_letter_0 : decode b_C_letter 0 = .ok (.aload_n 0, 1) := by decide +kernel
theorem d_C_letter_1 : decode b_C_letter 1 = .ok (.getfield 33, 3) := by decide +kernel
theorem d_C_letter_4 : decode b_C_letter 4 = .ok (.iload_n 1, 1) := by decide +kernel
theorem d_C_letter_5 : decode b_C_letter 5 = .ok (.iload_n 2, 1) := by decide +kernel
theorem d_C_letter_6 : decode b_C_letter 6 = .ok (.invokevirtual 98, 3) := by decide +kernel
theorem d_C_letter_9 : decode b_C_letter 9 = .ok (.invokestatic 102, 3) := by decide +kernel
theorem d_C_letter_12 : decode b_C_letter 12 = .ok (.ireturn, 1) := by decide +kernel
theorem d_C_rank_0 : decode b_C_rank 0 = .ok (.aload_n 0, 1) := by decide +kernel
theorem d_C_rank_1 : decode b_C_rank 1 = .ok (.getfield 33, 3) := by decide +kernel
theorem d_C_rank_4 : decode b_C_rank 4 = .ok (.iload_n 1, 1) := by decide +kernel
theorem d_C_rank_5 : decode b_C_rank 5 = .ok (.invokevirtual 105, 3) := by decide +kernel
theorem d_C_rank_8 : decode b_C_rank 8 = .ok (.ifCond .eq 11, 3) := by decide +kernel
theorem d_C_rank_11 : decode b_C_rank 11 = .ok (.aload_n 0, 1) := by decide +kernel
theorem d_C_rank_12 : decode b_C_rank 12 = .ok (.iload_n 1, 1) := by decide +kernel
theorem d_C_rank_13 : decode b_C_rank 13 = .ok (.invokevirtual 108, 3) := by decide +kernel
theorem d_C_rank_16 : decode b_C_rank 16 = .ok (.goto 4, 3) := by decide +kernel
theorem d_C_rank_19 : decode b_C_rank 19 = .ok (.lconst 0, 1) := by decide +kernel
theorem d_C_rank_20 : decode b_C_rank 20 = .ok (.lreturn, 1) := by decide +kernel
theorem d_C_best_0 : decode b_C_best 0 = .ok (.iconst (-1), 1) := by decide +kernel
theorem d_C_best_1 : decode b_C_best 1 = .ok (.istore_n 1, 1) := by decide +kernel
theorem d_C_best_2 : decode b_C_best 2 = .ok (.lconst 0, 1) := by decide +kernel
theorem d_C_best_3 : decode b_C_best 3 = .ok (.lstore_n 2, 1) := by decide +kernel
theorem d_C_best_4 : decode b_C_best 4 = .ok (.iconst 0, 1) := by decide +kernel
theorem d_C_best_5 : decode b_C_best 5 = .ok (.istore 4, 2) := by decide +kernel
theorem d_C_best_7 : decode b_C_best 7 = .ok (.iload 4, 2) := by decide +kernel
theorem d_C_best_9 : decode b_C_best 9 = .ok (.aload_n 0, 1) := by decide +kernel
theorem d_C_best_10 : decode b_C_best 10 = .ok (.getfield 33, 3) := by decide +kernel
theorem d_C_best_13 : decode b_C_best 13 = .ok (.invokevirtual 112, 3) := by decide +kernel
theorem d_C_best_16 : decode b_C_best 16 = .ok (.if_icmp .ge 35, 3) := by decide +kernel
theorem d_C_best_19 : decode b_C_best 19 = .ok (.aload_n 0, 1) := by decide +kernel
theorem d_C_best_20 : decode b_C_best 20 = .ok (.iload 4, 2) := by decide +kernel
theorem d_C_best_22 : decode b_C_best 22 = .ok (.invokevirtual 108, 3) := by decide +kernel
theorem d_C_best_25 : decode b_C_best 25 = .ok (.lstore 5, 2) := by decide +kernel
theorem d_C_best_27 : decode b_C_best 27 = .ok (.iload_n 1, 1) := by decide +kernel
theorem d_C_best_28 : decode b_C_best 28 = .ok (.iconst (-1), 1) := by decide +kernel
theorem d_C_best_29 : decode b_C_best 29 = .ok (.if_icmp .eq 10, 3) := by decide +kernel
theorem d_C_best_32 : decode b_C_best 32 = .ok (.lload 5, 2) := by decide +kernel
theorem d_C_best_34 : decode b_C_best 34 = .ok (.lload_n 2, 1) := by decide +kernel
theorem d_C_best_35 : decode b_C_best 35 = .ok (.lcmp, 1) := by decide +kernel
theorem d_C_best_36 : decode b_C_best 36 = .ok (.ifCond .le 9, 3) := by decide +kernel
theorem d_C_best_39 : decode b_C_best 39 = .ok (.iload 4, 2) := by decide +kernel
theorem d_C_best_41 : decode b_C_best 41 = .ok (.istore_n 1, 1) := by decide +kernel
theorem d_C_best_42 : decode b_C_best 42 = .ok (.lload 5, 2) := by decide +kernel
theorem d_C_best_44 : decode b_C_best 44 = .ok (.lstore_n 2, 1) := by decide +kernel
theorem d_C_best_45 : decode b_C_best 45 = .ok (.iinc 4 1, 3) := by decide +kernel
theorem d_C_best_48 : decode b_C_best 48 = .ok (.goto (-41), 3) := by decide +kernel
theorem d_C_best_51 : decode b_C_best 51 = .ok (.iload_n 1, 1) := by decide +kernel
theorem d_C_best_52 : decode b_C_best 52 = .ok (.ireturn, 1) := by decide +kernel
theorem d_C_hint_0 : decode b_C_hint 0 = .ok (.iconst 0, 1) := by decide +kernel
theorem d_C_hint_1 : decode b_C_hint 1 = .ok (.istore_n 1, 1) := by decide +kernel
theorem d_C_hint_2 : decode b_C_hint 2 = .ok (.iload_n 1, 1) := by decide +kernel
theorem d_C_hint_3 : decode b_C_hint 3 = .ok (.bipush 26, 2) := by decide +kernel
theorem d_C_hint_5 : decode b_C_hint 5 = .ok (.if_icmp .ge 57, 3) := by decide +kernel
theorem d_C_hint_8 : decode b_C_hint 8 = .ok (.aload_n 0, 1) := by decide +kernel
theorem d_C_hint_9 : decode b_C_hint 9 = .ok (.getfield 19, 3) := by decide +kernel
theorem d_C_hint_12 : decode b_C_hint 12 = .ok (.iload_n 1, 1) := by decide +kernel
theorem d_C_hint_13 : decode b_C_hint 13 = .ok (.invokevirtual 115, 3) := by decide +kernel
theorem d_C_hint_16 : decode b_C_hint 16 = .ok (.ifCond .eq 40, 3) := by decide +kernel
theorem d_C_hint_19 : decode b_C_hint 19 = .ok (.aload_n 0, 1) := by decide +kernel
theorem d_C_hint_20 : decode b_C_hint 20 = .ok (.getfield 19, 3) := by decide +kernel
theorem d_C_hint_23 : decode b_C_hint 23 = .ok (.iload_n 1, 1) := by decide +kernel
theorem d_C_hint_24 : decode b_C_hint 24 = .ok (.invokevirtual 118, 3) := by decide +kernel
theorem d_C_hint_27 : decode b_C_hint 27 = .ok (.iconst (-1), 1) := by decide +kernel
theorem d_C_hint_28 : decode b_C_hint 28 = .ok (.if_icmp .ne 28, 3) := by decide +kernel
theorem d_C_hint_31 : decode b_C_hint 31 = .ok (.aload_n 0, 1) := by decide +kernel
theorem d_C_hint_32 : decode b_C_hint 32 = .ok (.getfield 33, 3) := by decide +kernel
theorem d_C_hint_35 : decode b_C_hint 35 = .ok (.iload_n 1, 1) := by decide +kernel
theorem d_C_hint_36 : decode b_C_hint 36 = .ok (.invokevirtual 121, 3) := by decide +kernel
theorem d_C_hint_39 : decode b_C_hint 39 = .ok (.istore_n 2, 1) := by decide +kernel
theorem d_C_hint_40 : decode b_C_hint 40 = .ok (.iload_n 2, 1) := by decide +kernel
theorem d_C_hint_41 : decode b_C_hint 41 = .ok (.iconst (-1), 1) := by decide +kernel
theorem d_C_hint_42 : decode b_C_hint 42 = .ok (.if_icmp .eq 14, 3) := by decide +kernel
theorem d_C_hint_45 : decode b_C_hint 45 = .ok (.aload_n 0, 1) := by decide +kernel
theorem d_C_hint_46 : decode b_C_hint 46 = .ok (.getfield 19, 3) := by decide +kernel
theorem d_C_hint_49 : decode b_C_hint 49 = .ok (.iload_n 1, 1) := by decide +kernel
theorem d_C_hint_50 : decode b_C_hint 50 = .ok (.iload_n 2, 1) := by decide +kernel
theorem d_C_hint_51 : decode b_C_hint 51 = .ok (.invokevirtual 83, 3) := by decide +kernel
theorem d_C_hint_54 : decode b_C_hint 54 = .ok (.iload_n 1, 1) := by decide +kernel
theorem d_C_hint_55 : decode b_C_hint 55 = .ok (.ireturn, 1) := by decide +kernel
theorem d_C_hint_56 : decode b_C_hint 56 = .ok (.iinc 1 1, 3) := by decide +kernel
theorem d_C_hint_59 : decode b_C_hint 59 = .ok (.goto (-57), 3) := by decide +kernel
theorem d_C_hint_62 : decode b_C_hint 62 = .ok (.iconst (-1), 1) := by decide +kernel
theorem d_C_hint_63 : decode b_C_hint 63 = .ok (.ireturn, 1) := by decide +kernel
theorem d_C_codewords_0 : decode b_C_codewords 0 = .ok (.aload_n 0, 1) := by decide +kernel
theorem d_C_codewords_1 : decode b_C_codewords 1 = .ok (.getfield 19, 3) := by decide +kernel
theorem d_C_codewords_4 : decode b_C_codewords 4 = .ok (.invokevirtual 124, 3) := by decide +kernel
theorem d_C_codewords_7 : decode b_C_codewords 7 = .ok (.ireturn, 1) := by decide +kernel
theorem d_C_plain_0 : decode b_C_plain 0 = .ok (.aload_n 0, 1) := by decide +kernel
theorem d_C_plain_1 : decode b_C_plain 1 = .ok (.getfield 49, 3) := by decide +kernel
theorem d_C_plain_4 : decode b_C_plain 4 = .ok (.iload_n 1, 1) := by decide +kernel
theorem d_C_plain_5 : decode b_C_plain 5 = .ok (.invokestatic 62, 3) := by decide +kernel
theorem d_C_plain_8 : decode b_C_plain 8 = .ok (.invokevirtual 127, 3) := by decide +kernel
theorem d_C_plain_11 : decode b_C_plain 11 = .ok (.ireturn, 1) := by decide +kernel
theorem d_C_shifted_0 : decode b_C_shifted 0 = .ok (.aload_n 0, 1) := by decide +kernel
theorem d_C_shifted_1 : decode b_C_shifted 1 = .ok (.getfield 49, 3) := by decide +kernel
theorem d_C_shifted_4 : decode b_C_shifted 4 = .ok (.iload_n 2, 1) := by decide +kernel
theorem d_C_shifted_5 : decode b_C_shifted 5 = .ok (.invokevirtual 128, 3) := by decide +kernel
theorem d_C_shifted_8 : decode b_C_shifted 8 = .ok (.iload_n 1, 1) := by decide +kernel
theorem d_C_shifted_9 : decode b_C_shifted 9 = .ok (.bipush 26, 2) := by decide +kernel
theorem d_C_shifted_11 : decode b_C_shifted 11 = .ok (.invokestatic 131, 3) := by decide +kernel
theorem d_C_shifted_14 : decode b_C_shifted 14 = .ok (.invokestatic 136, 3) := by decide +kernel
theorem d_C_shifted_17 : decode b_C_shifted 17 = .ok (.ireturn, 1) := by decide +kernel
theorem d_C_bestShift_0 : decode b_C_bestShift 0 = .ok (.iconst 0, 1) := by decide +kernel
theorem d_C_bestShift_1 : decode b_C_bestShift 1 = .ok (.istore_n 1, 1) := by decide +kernel
theorem d_C_bestShift_2 : decode b_C_bestShift 2 = .ok (.aload_n 0, 1) := by decide +kernel
theorem d_C_bestShift_3 : decode b_C_bestShift 3 = .ok (.iconst 0, 1) := by decide +kernel
theorem d_C_bestShift_4 : decode b_C_bestShift 4 = .ok (.invokevirtual 139, 3) := by decide +kernel
theorem d_C_bestShift_7 : decode b_C_bestShift 7 = .ok (.lstore_n 2, 1) := by decide +kernel
theorem d_C_bestShift_8 : decode b_C_bestShift 8 = .ok (.iconst 1, 1) := by decide +kernel
theorem d_C_bestShift_9 : decode b_C_bestShift 9 = .ok (.istore 4, 2) := by decide +kernel
theorem d_C_bestShift_11 : decode b_C_bestShift 11 = .ok (.iload 4, 2) := by decide +kernel
theorem d_C_bestShift_13 : decode b_C_bestShift 13 = .ok (.bipush 26, 2) := by decide +kernel
theorem d_C_bestShift_15 : decode b_C_bestShift 15 = .ok (.if_icmp .ge 30, 3) := by decide +kernel
theorem d_C_bestShift_18 : decode b_C_bestShift 18 = .ok (.aload_n 0, 1) := by decide +kernel
theorem d_C_bestShift_19 : decode b_C_bestShift 19 = .ok (.iload 4, 2) := by decide +kernel
theorem d_C_bestShift_21 : decode b_C_bestShift 21 = .ok (.invokevirtual 139, 3) := by decide +kernel
theorem d_C_bestShift_24 : decode b_C_bestShift 24 = .ok (.lstore 5, 2) := by decide +kernel
theorem d_C_bestShift_26 : decode b_C_bestShift 26 = .ok (.lload 5, 2) := by decide +kernel
theorem d_C_bestShift_28 : decode b_C_bestShift 28 = .ok (.lload_n 2, 1) := by decide +kernel
theorem d_C_bestShift_29 : decode b_C_bestShift 29 = .ok (.lcmp, 1) := by decide +kernel
theorem d_C_bestShift_30 : decode b_C_bestShift 30 = .ok (.ifCond .le 9, 3) := by decide +kernel
theorem d_C_bestShift_33 : decode b_C_bestShift 33 = .ok (.iload 4, 2) := by decide +kernel
theorem d_C_bestShift_35 : decode b_C_bestShift 35 = .ok (.istore_n 1, 1) := by decide +kernel
theorem d_C_bestShift_36 : decode b_C_bestShift 36 = .ok (.lload 5, 2) := by decide +kernel
theorem d_C_bestShift_38 : decode b_C_bestShift 38 = .ok (.lstore_n 2, 1) := by decide +kernel
theorem d_C_bestShift_39 : decode b_C_bestShift 39 = .ok (.iinc 4 1, 3) := by decide +kernel
theorem d_C_bestShift_42 : decode b_C_bestShift 42 = .ok (.goto (-31), 3) := by decide +kernel
theorem d_C_bestShift_45 : decode b_C_bestShift 45 = .ok (.iload_n 1, 1) := by decide +kernel
theorem d_C_bestShift_46 : decode b_C_bestShift 46 = .ok (.ireturn, 1) := by decide +kernel
theorem d_C_keyed_0 : decode b_C_keyed 0 = .ok (.aload_n 0, 1) := by decide +kernel
theorem d_C_keyed_1 : decode b_C_keyed 1 = .ok (.getfield 12, 3) := by decide +kernel
theorem d_C_keyed_4 : decode b_C_keyed 4 = .ok (.iload_n 1, 1) := by decide +kernel
theorem d_C_keyed_5 : decode b_C_keyed 5 = .ok (.invokevirtual 142, 3) := by decide +kernel
theorem d_C_keyed_8 : decode b_C_keyed 8 = .ok (.istore_n 3, 1) := by decide +kernel
theorem d_C_keyed_9 : decode b_C_keyed 9 = .ok (.iload_n 3, 1) := by decide +kernel
theorem d_C_keyed_10 : decode b_C_keyed 10 = .ok (.ifCond .le 7, 3) := by decide +kernel
theorem d_C_keyed_13 : decode b_C_keyed 13 = .ok (.iload_n 2, 1) := by decide +kernel
theorem d_C_keyed_14 : decode b_C_keyed 14 = .ok (.ifCond .ge 5, 3) := by decide +kernel
theorem d_C_keyed_17 : decode b_C_keyed 17 = .ok (.iconst (-1), 1) := by decide +kernel
theorem d_C_keyed_18 : decode b_C_keyed 18 = .ok (.ireturn, 1) := by decide +kernel
theorem d_C_keyed_19 : decode b_C_keyed 19 = .ok (.aload_n 0, 1) := by decide +kernel
theorem d_C_keyed_20 : decode b_C_keyed 20 = .ok (.getfield 49, 3) := by decide +kernel
theorem d_C_keyed_23 : decode b_C_keyed 23 = .ok (.iload_n 2, 1) := by decide +kernel
theorem d_C_keyed_24 : decode b_C_keyed 24 = .ok (.invokevirtual 128, 3) := by decide +kernel
theorem d_C_keyed_27 : decode b_C_keyed 27 = .ok (.aload_n 0, 1) := by decide +kernel
theorem d_C_keyed_28 : decode b_C_keyed 28 = .ok (.getfield 12, 3) := by decide +kernel
theorem d_C_keyed_31 : decode b_C_keyed 31 = .ok (.iload_n 1, 1) := by decide +kernel
theorem d_C_keyed_32 : decode b_C_keyed 32 = .ok (.iload_n 2, 1) := by decide +kernel
theorem d_C_keyed_33 : decode b_C_keyed 33 = .ok (.iload_n 3, 1) := by decide +kernel
theorem d_C_keyed_34 : decode b_C_keyed 34 = .ok (.irem, 1) := by decide +kernel
theorem d_C_keyed_35 : decode b_C_keyed 35 = .ok (.invokevirtual 145, 3) := by decide +kernel
theorem d_C_keyed_38 : decode b_C_keyed 38 = .ok (.invokestatic 136, 3) := by decide +kernel
theorem d_C_keyed_41 : decode b_C_keyed 41 = .ok (.ireturn, 1) := by decide +kernel
theorem d_C_breaks_0 : decode b_C_breaks 0 = .ok (.aload_n 0, 1) := by decide +kernel
theorem d_C_breaks_1 : decode b_C_breaks 1 = .ok (.getfield 58, 3) := by decide +kernel
theorem d_C_breaks_4 : decode b_C_breaks 4 = .ok (.invokevirtual 147, 3) := by decide +kernel
theorem d_C_breaks_7 : decode b_C_breaks 7 = .ok (.ireturn, 1) := by decide +kernel
theorem d_C_breakAt_0 : decode b_C_breakAt 0 = .ok (.aload_n 0, 1) := by decide +kernel
theorem d_C_breakAt_1 : decode b_C_breakAt 1 = .ok (.getfield 58, 3) := by decide +kernel
theorem d_C_breakAt_4 : decode b_C_breakAt 4 = .ok (.iload_n 1, 1) := by decide +kernel
theorem d_C_breakAt_5 : decode b_C_breakAt 5 = .ok (.invokevirtual 150, 3) := by decide +kernel
theorem d_C_breakAt_8 : decode b_C_breakAt 8 = .ok (.ireturn, 1) := by decide +kernel
theorem d_C_clear_0 : decode b_C_clear 0 = .ok (.aload_n 0, 1) := by decide +kernel
theorem d_C_clear_1 : decode b_C_clear 1 = .ok (.getfield 19, 3) := by decide +kernel
theorem d_C_clear_4 : decode b_C_clear 4 = .ok (.invokevirtual 153, 3) := by decide +kernel
theorem d_C_clear_7 : decode b_C_clear 7 = .ok (.aload_n 0, 1) := by decide +kernel
theorem d_C_clear_8 : decode b_C_clear 8 = .ok (.getfield 33, 3) := by decide +kernel
theorem d_C_clear_11 : decode b_C_clear 11 = .ok (.invokevirtual 77, 3) := by decide +kernel
theorem d_C_clear_14 : decode b_C_clear 14 = .ok (.aload_n 0, 1) := by decide +kernel
theorem d_C_clear_15 : decode b_C_clear 15 = .ok (.getfield 49, 3) := by decide +kernel
theorem d_C_clear_18 : decode b_C_clear 18 = .ok (.invokevirtual 156, 3) := by decide +kernel
theorem d_C_clear_21 : decode b_C_clear 21 = .ok (.return_, 1) := by decide +kernel
theorem d_C_rankOfKept_0 : decode b_C_rankOfKept 0 = .ok (.lconst 0, 1) := by decide +kernel
theorem d_C_rankOfKept_1 : decode b_C_rankOfKept 1 = .ok (.lstore_n 2, 1) := by decide +kernel
theorem d_C_rankOfKept_2 : decode b_C_rankOfKept 2 = .ok (.iconst 1, 1) := by decide +kernel
theorem d_C_rankOfKept_3 : decode b_C_rankOfKept 3 = .ok (.istore 4, 2) := by decide +kernel
theorem d_C_rankOfKept_5 : decode b_C_rankOfKept 5 = .ok (.iload 4, 2) := by decide +kernel
theorem d_C_rankOfKept_7 : decode b_C_rankOfKept 7 = .ok (.aload_n 0, 1) := by decide +kernel
theorem d_C_rankOfKept_8 : decode b_C_rankOfKept 8 = .ok (.getfield 19, 3) := by decide +kernel
theorem d_C_rankOfKept_11 : decode b_C_rankOfKept 11 = .ok (.invokevirtual 157, 3) := by decide +kernel
theorem d_C_rankOfKept_14 : decode b_C_rankOfKept 14 = .ok (.if_icmp .ge 64, 3) := by decide +kernel
theorem d_C_rankOfKept_17 : decode b_C_rankOfKept 17 = .ok (.aload_n 0, 1) := by decide +kernel
theorem d_C_rankOfKept_18 : decode b_C_rankOfKept 18 = .ok (.getfield 33, 3) := by decide +kernel
theorem d_C_rankOfKept_21 : decode b_C_rankOfKept 21 = .ok (.iload_n 1, 1) := by decide +kernel
theorem d_C_rankOfKept_22 : decode b_C_rankOfKept 22 = .ok (.aload_n 0, 1) := by decide +kernel
theorem d_C_rankOfKept_23 : decode b_C_rankOfKept 23 = .ok (.getfield 19, 3) := by decide +kernel
theorem d_C_rankOfKept_26 : decode b_C_rankOfKept 26 = .ok (.iload 4, 2) := by decide +kernel
theorem d_C_rankOfKept_28 : decode b_C_rankOfKept 28 = .ok (.iconst 1, 1) := by decide +kernel
theorem d_C_rankOfKept_29 : decode b_C_rankOfKept 29 = .ok (.isub, 1) := by decide +kernel
theorem d_C_rankOfKept_30 : decode b_C_rankOfKept 30 = .ok (.invokevirtual 158, 3) := by decide +kernel
theorem d_C_rankOfKept_33 : decode b_C_rankOfKept 33 = .ok (.invokevirtual 98, 3) := by decide +kernel
theorem d_C_rankOfKept_36 : decode b_C_rankOfKept 36 = .ok (.istore 5, 2) := by decide +kernel
theorem d_C_rankOfKept_38 : decode b_C_rankOfKept 38 = .ok (.aload_n 0, 1) := by decide +kernel
theorem d_C_rankOfKept_39 : decode b_C_rankOfKept 39 = .ok (.getfield 33, 3) := by decide +kernel
theorem d_C_rankOfKept_42 : decode b_C_rankOfKept 42 = .ok (.iload_n 1, 1) := by decide +kernel
theorem d_C_rankOfKept_43 : decode b_C_rankOfKept 43 = .ok (.aload_n 0, 1) := by decide +kernel
theorem d_C_rankOfKept_44 : decode b_C_rankOfKept 44 = .ok (.getfield 19, 3) := by decide +kernel
theorem d_C_rankOfKept_47 : decode b_C_rankOfKept 47 = .ok (.iload 4, 2) := by decide +kernel
theorem d_C_rankOfKept_49 : decode b_C_rankOfKept 49 = .ok (.invokevirtual 158, 3) := by decide +kernel
theorem d_C_rankOfKept_52 : decode b_C_rankOfKept 52 = .ok (.invokevirtual 98, 3) := by decide +kernel
theorem d_C_rankOfKept_55 : decode b_C_rankOfKept 55 = .ok (.istore 6, 2) := by decide +kernel
theorem d_C_rankOfKept_57 : decode b_C_rankOfKept 57 = .ok (.lload_n 2, 1) := by decide +kernel
theorem d_C_rankOfKept_58 : decode b_C_rankOfKept 58 = .ok (.aload_n 0, 1) := by decide +kernel
theorem d_C_rankOfKept_59 : decode b_C_rankOfKept 59 = .ok (.getfield 26, 3) := by decide +kernel
theorem d_C_rankOfKept_62 : decode b_C_rankOfKept 62 = .ok (.iload 5, 2) := by decide +kernel
theorem d_C_rankOfKept_64 : decode b_C_rankOfKept 64 = .ok (.iload 6, 2) := by decide +kernel
theorem d_C_rankOfKept_66 : decode b_C_rankOfKept 66 = .ok (.invokevirtual 161, 3) := by decide +kernel
theorem d_C_rankOfKept_69 : decode b_C_rankOfKept 69 = .ok (.i2l, 1) := by decide +kernel
theorem d_C_rankOfKept_70 : decode b_C_rankOfKept 70 = .ok (.ladd, 1) := by decide +kernel
theorem d_C_rankOfKept_71 : decode b_C_rankOfKept 71 = .ok (.lstore_n 2, 1) := by decide +kernel
theorem d_C_rankOfKept_72 : decode b_C_rankOfKept 72 = .ok (.iinc 4 1, 3) := by decide +kernel
theorem d_C_rankOfKept_75 : decode b_C_rankOfKept 75 = .ok (.goto (-70), 3) := by decide +kernel
theorem d_C_rankOfKept_78 : decode b_C_rankOfKept 78 = .ok (.lload_n 2, 1) := by decide +kernel
theorem d_C_rankOfKept_79 : decode b_C_rankOfKept 79 = .ok (.lreturn, 1) := by decide +kernel
theorem d_C_shiftedSum_0 : decode b_C_shiftedSum 0 = .ok (.lconst 0, 1) := by decide +kernel
theorem d_C_shiftedSum_1 : decode b_C_shiftedSum 1 = .ok (.lstore_n 2, 1) := by decide +kernel
theorem d_C_shiftedSum_2 : decode b_C_shiftedSum 2 = .ok (.iconst 1, 1) := by decide +kernel
theorem d_C_shiftedSum_3 : decode b_C_shiftedSum 3 = .ok (.istore 4, 2) := by decide +kernel
theorem d_C_shiftedSum_5 : decode b_C_shiftedSum 5 = .ok (.iload 4, 2) := by decide +kernel
theorem d_C_shiftedSum_7 : decode b_C_shiftedSum 7 = .ok (.aload_n 0, 1) := by decide +kernel
theorem d_C_shiftedSum_8 : decode b_C_shiftedSum 8 = .ok (.getfield 49, 3) := by decide +kernel
theorem d_C_shiftedSum_11 : decode b_C_shiftedSum 11 = .ok (.invokevirtual 164, 3) := by decide +kernel
theorem d_C_shiftedSum_14 : decode b_C_shiftedSum 14 = .ok (.if_icmp .ge 56, 3) := by decide +kernel
theorem d_C_shiftedSum_17 : decode b_C_shiftedSum 17 = .ok (.aload_n 0, 1) := by decide +kernel
theorem d_C_shiftedSum_18 : decode b_C_shiftedSum 18 = .ok (.getfield 49, 3) := by decide +kernel
theorem d_C_shiftedSum_21 : decode b_C_shiftedSum 21 = .ok (.iload 4, 2) := by decide +kernel
theorem d_C_shiftedSum_23 : decode b_C_shiftedSum 23 = .ok (.iconst 1, 1) := by decide +kernel
theorem d_C_shiftedSum_24 : decode b_C_shiftedSum 24 = .ok (.isub, 1) := by decide +kernel
theorem d_C_shiftedSum_25 : decode b_C_shiftedSum 25 = .ok (.invokevirtual 128, 3) := by decide +kernel
theorem d_C_shiftedSum_28 : decode b_C_shiftedSum 28 = .ok (.iload_n 1, 1) := by decide +kernel
theorem d_C_shiftedSum_29 : decode b_C_shiftedSum 29 = .ok (.invokestatic 165, 3) := by decide +kernel
theorem d_C_shiftedSum_32 : decode b_C_shiftedSum 32 = .ok (.istore 5, 2) := by decide +kernel
theorem d_C_shiftedSum_34 : decode b_C_shiftedSum 34 = .ok (.aload_n 0, 1) := by decide +kernel
theorem d_C_shiftedSum_35 : decode b_C_shiftedSum 35 = .ok (.getfield 49, 3) := by decide +kernel
theorem d_C_shiftedSum_38 : decode b_C_shiftedSum 38 = .ok (.iload 4, 2) := by decide +kernel
theorem d_C_shiftedSum_40 : decode b_C_shiftedSum 40 = .ok (.invokevirtual 128, 3) := by decide +kernel
theorem d_C_shiftedSum_43 : decode b_C_shiftedSum 43 = .ok (.iload_n 1, 1) := by decide +kernel
theorem d_C_shiftedSum_44 : decode b_C_shiftedSum 44 = .ok (.invokestatic 165, 3) := by decide +kernel
theorem d_C_shiftedSum_47 : decode b_C_shiftedSum 47 = .ok (.istore 6, 2) := by decide +kernel
theorem d_C_shiftedSum_49 : decode b_C_shiftedSum 49 = .ok (.lload_n 2, 1) := by decide +kernel
theorem d_C_shiftedSum_50 : decode b_C_shiftedSum 50 = .ok (.aload_n 0, 1) := by decide +kernel
theorem d_C_shiftedSum_51 : decode b_C_shiftedSum 51 = .ok (.getfield 26, 3) := by decide +kernel
theorem d_C_shiftedSum_54 : decode b_C_shiftedSum 54 = .ok (.iload 5, 2) := by decide +kernel
theorem d_C_shiftedSum_56 : decode b_C_shiftedSum 56 = .ok (.iload 6, 2) := by decide +kernel
theorem d_C_shiftedSum_58 : decode b_C_shiftedSum 58 = .ok (.invokevirtual 161, 3) := by decide +kernel
theorem d_C_shiftedSum_61 : decode b_C_shiftedSum 61 = .ok (.i2l, 1) := by decide +kernel
theorem d_C_shiftedSum_62 : decode b_C_shiftedSum 62 = .ok (.ladd, 1) := by decide +kernel
theorem d_C_shiftedSum_63 : decode b_C_shiftedSum 63 = .ok (.lstore_n 2, 1) := by decide +kernel
theorem d_C_shiftedSum_64 : decode b_C_shiftedSum 64 = .ok (.iinc 4 1, 3) := by decide +kernel
theorem d_C_shiftedSum_67 : decode b_C_shiftedSum 67 = .ok (.goto (-62), 3) := by decide +kernel
theorem d_C_shiftedSum_70 : decode b_C_shiftedSum 70 = .ok (.lload_n 2, 1) := by decide +kernel
theorem d_C_shiftedSum_71 : decode b_C_shiftedSum 71 = .ok (.lreturn, 1) := by decide +kernel
theorem d_C_shiftedPlace_0 : decode b_C_shiftedPlace 0 = .ok (.iload_n 0, 1) := by decide +kernel
theorem d_C_shiftedPlace_1 : decode b_C_shiftedPlace 1 = .ok (.iload_n 1, 1) := by decide +kernel
theorem d_C_shiftedPlace_2 : decode b_C_shiftedPlace 2 = .ok (.iadd, 1) := by decide +kernel
theorem d_C_shiftedPlace_3 : decode b_C_shiftedPlace 3 = .ok (.bipush 26, 2) := by decide +kernel
theorem d_C_shiftedPlace_5 : decode b_C_shiftedPlace 5 = .ok (.irem, 1) := by decide +kernel
theorem d_C_shiftedPlace_6 : decode b_C_shiftedPlace 6 = .ok (.ireturn, 1) := by decide +kernel
theorem d_C_shiftedLetter_0 : decode b_C_shiftedLetter 0 = .ok (.iload_n 0, 1) := by decide +kernel
theorem d_C_shiftedLetter_1 : decode b_C_shiftedLetter 1 = .ok (.iconst (-1), 1) := by decide +kernel
theorem d_C_shiftedLetter_2 : decode b_C_shiftedLetter 2 = .ok (.if_icmp .ne 7, 3) := by decide +kernel
theorem d_C_shiftedLetter_5 : decode b_C_shiftedLetter 5 = .ok (.iconst (-1), 1) := by decide +kernel
theorem d_C_shiftedLetter_6 : decode b_C_shiftedLetter 6 = .ok (.goto 11, 3) := by decide +kernel
theorem d_C_shiftedLetter_9 : decode b_C_shiftedLetter 9 = .ok (.iload_n 0, 1) := by decide +kernel
theorem d_C_shiftedLetter_10 : decode b_C_shiftedLetter 10 = .ok (.iload_n 1, 1) := by decide +kernel
theorem d_C_shiftedLetter_11 : decode b_C_shiftedLetter 11 = .ok (.invokestatic 165, 3) := by decide +kernel
theorem d_C_shiftedLetter_14 : decode b_C_shiftedLetter 14 = .ok (.invokestatic 102, 3) := by decide +kernel
theorem d_C_shiftedLetter_17 : decode b_C_shiftedLetter 17 = .ok (.ireturn, 1) := by decide +kernel
theorem d_C_placeOf_0 : decode b_C_placeOf 0 = .ok (.iload_n 0, 1) := by decide +kernel
theorem d_C_placeOf_1 : decode b_C_placeOf 1 = .ok (.bipush 97, 2) := by decide +kernel
theorem d_C_placeOf_3 : decode b_C_placeOf 3 = .ok (.if_icmp .lt 13, 3) := by decide +kernel
theorem d_C_placeOf_6 : decode b_C_placeOf 6 = .ok (.iload_n 0, 1) := by decide +kernel
theorem d_C_placeOf_7 : decode b_C_placeOf 7 = .ok (.bipush 123, 2) := by decide +kernel
theorem d_C_placeOf_9 : decode b_C_placeOf 9 = .ok (.if_icmp .ge 7, 3) := by decide +kernel
theorem d_C_placeOf_12 : decode b_C_placeOf 12 = .ok (.iconst 1, 1) := by decide +kernel
theorem d_C_placeOf_13 : decode b_C_placeOf 13 = .ok (.goto 4, 3) := by decide +kernel
theorem d_C_placeOf_16 : decode b_C_placeOf 16 = .ok (.iconst 0, 1) := by decide +kernel
theorem d_C_placeOf_17 : decode b_C_placeOf 17 = .ok (.istore_n 1, 1) := by decide +kernel
theorem d_C_placeOf_18 : decode b_C_placeOf 18 = .ok (.iload_n 1, 1) := by decide +kernel
theorem d_C_placeOf_19 : decode b_C_placeOf 19 = .ok (.ifCond .eq 10, 3) := by decide +kernel
theorem d_C_placeOf_22 : decode b_C_placeOf 22 = .ok (.iload_n 0, 1) := by decide +kernel
theorem d_C_placeOf_23 : decode b_C_placeOf 23 = .ok (.bipush 97, 2) := by decide +kernel
theorem d_C_placeOf_25 : decode b_C_placeOf 25 = .ok (.isub, 1) := by decide +kernel
theorem d_C_placeOf_26 : decode b_C_placeOf 26 = .ok (.goto 4, 3) := by decide +kernel
theorem d_C_placeOf_29 : decode b_C_placeOf 29 = .ok (.iconst (-1), 1) := by decide +kernel
theorem d_C_placeOf_30 : decode b_C_placeOf 30 = .ok (.ireturn, 1) := by decide +kernel
theorem d_C_letterOf_0 : decode b_C_letterOf 0 = .ok (.iload_n 0, 1) := by decide +kernel
theorem d_C_letterOf_1 : decode b_C_letterOf 1 = .ok (.invokestatic 168, 3) := by decide +kernel
theorem d_C_letterOf_4 : decode b_C_letterOf 4 = .ok (.ifCond .eq 10, 3) := by decide +kernel
theorem d_C_letterOf_7 : decode b_C_letterOf 7 = .ok (.iload_n 0, 1) := by decide +kernel
theorem d_C_letterOf_8 : decode b_C_letterOf 8 = .ok (.bipush 97, 2) := by decide +kernel
theorem d_C_letterOf_10 : decode b_C_letterOf 10 = .ok (.iadd, 1) := by decide +kernel
theorem d_C_letterOf_11 : decode b_C_letterOf 11 = .ok (.goto 4, 3) := by decide +kernel
theorem d_C_letterOf_14 : decode b_C_letterOf 14 = .ok (.iconst (-1), 1) := by decide +kernel
theorem d_C_letterOf_15 : decode b_C_letterOf 15 = .ok (.ireturn, 1) := by decide +kernel
theorem d_C_isPlace_0 : decode b_C_isPlace 0 = .ok (.iload_n 0, 1) := by decide +kernel
theorem d_C_isPlace_1 : decode b_C_isPlace 1 = .ok (.ifCond .lt 13, 3) := by decide +kernel
theorem d_C_isPlace_4 : decode b_C_isPlace 4 = .ok (.iload_n 0, 1) := by decide +kernel
theorem d_C_isPlace_5 : decode b_C_isPlace 5 = .ok (.bipush 26, 2) := by decide +kernel
theorem d_C_isPlace_7 : decode b_C_isPlace 7 = .ok (.if_icmp .ge 7, 3) := by decide +kernel
theorem d_C_isPlace_10 : decode b_C_isPlace 10 = .ok (.iconst 1, 1) := by decide +kernel
theorem d_C_isPlace_11 : decode b_C_isPlace 11 = .ok (.goto 4, 3) := by decide +kernel
theorem d_C_isPlace_14 : decode b_C_isPlace 14 = .ok (.iconst 0, 1) := by decide +kernel
theorem d_C_isPlace_15 : decode b_C_isPlace 15 = .ok (.ireturn, 1) := by decide +kernel
theorem d_C_isNumber_0 : decode b_C_isNumber 0 = .ok (.iload_n 0, 1) := by decide +kernel
theorem d_C_isNumber_1 : decode b_C_isNumber 1 = .ok (.ifCond .lt 13, 3) := by decide +kernel
theorem d_C_isNumber_4 : decode b_C_isNumber 4 = .ok (.iload_n 0, 1) := by decide +kernel
theorem d_C_isNumber_5 : decode b_C_isNumber 5 = .ok (.bipush 26, 2) := by decide +kernel
theorem d_C_isNumber_7 : decode b_C_isNumber 7 = .ok (.if_icmp .ge 7, 3) := by decide +kernel
theorem d_C_isNumber_10 : decode b_C_isNumber 10 = .ok (.iconst 1, 1) := by decide +kernel
theorem d_C_isNumber_11 : decode b_C_isNumber 11 = .ok (.goto 4, 3) := by decide +kernel
theorem d_C_isNumber_14 : decode b_C_isNumber 14 = .ok (.iconst 0, 1) := by decide +kernel
theorem d_C_isNumber_15 : decode b_C_isNumber 15 = .ok (.ireturn, 1) := by decide +kernel
