theorem d_K_init_0 : decode b_K_init 0 = .ok (.aload_n 0, 1) := by decide +kernel
theorem d_K_init_1 : decode b_K_init 1 = .ok (.invokespecial 3, 3) := by decide +kernel
theorem d_K_init_4 : decode b_K_init 4 = .ok (.aload_n 0, 1) := by decide +kernel
theorem d_K_init_5 : decode b_K_init 5 = .ok (.bipush 60, 2) := by decide +kernel
theorem d_K_init_7 : decode b_K_init 7 = .ok (.newarray .int, 2) := by decide +kernel
theorem d_K_init_9 : decode b_K_init 9 = .ok (.putfield 9, 3) := by decide +kernel
theorem d_K_init_12 : decode b_K_init 12 = .ok (.aload_n 0, 1) := by decide +kernel
theorem d_K_init_13 : decode b_K_init 13 = .ok (.bipush 30, 2) := by decide +kernel
theorem d_K_init_15 : decode b_K_init 15 = .ok (.newarray .int, 2) := by decide +kernel
theorem d_K_init_17 : decode b_K_init 17 = .ok (.putfield 15, 3) := by decide +kernel
theorem d_K_init_20 : decode b_K_init 20 = .ok (.aload_n 0, 1) := by decide +kernel
theorem d_K_init_21 : decode b_K_init 21 = .ok (.bipush 30, 2) := by decide +kernel
theorem d_K_init_23 : decode b_K_init 23 = .ok (.newarray .int, 2) := by decide +kernel
theorem d_K_init_25 : decode b_K_init 25 = .ok (.putfield 18, 3) := by decide +kernel
theorem d_K_init_28 : decode b_K_init 28 = .ok (.aload_n 0, 1) := by decide +kernel
theorem d_K_init_29 : decode b_K_init 29 = .ok (.bipush 26, 2) := by decide +kernel
theorem d_K_init_31 : decode b_K_init 31 = .ok (.newarray .boolean, 2) := by decide +kernel
theorem d_K_init_33 : decode b_K_init 33 = .ok (.putfield 21, 3) := by decide +kernel
theorem d_K_init_36 : decode b_K_init 36 = .ok (.aload_n 0, 1) := by decide +kernel
theorem d_K_init_37 : decode b_K_init 37 = .ok (.bipush 26, 2) := by decide +kernel
theorem d_K_init_39 : decode b_K_init 39 = .ok (.newarray .int, 2) := by decide +kernel
theorem d_K_init_41 : decode b_K_init 41 = .ok (.putfield 25, 3) := by decide +kernel
theorem d_K_init_44 : decode b_K_init 44 = .ok (.aload_n 0, 1) := by decide +kernel
theorem d_K_init_45 : decode b_K_init 45 = .ok (.iconst 0, 1) := by decide +kernel
theorem d_K_init_46 : decode b_K_init 46 = .ok (.putfield 28, 3) := by decide +kernel
theorem d_K_init_49 : decode b_K_init 49 = .ok (.aload_n 0, 1) := by decide +kernel
theorem d_K_init_50 : decode b_K_init 50 = .ok (.iconst 0, 1) := by decide +kernel
theorem d_K_init_51 : decode b_K_init 51 = .ok (.putfield 32, 3) := by decide +kernel
theorem d_K_init_54 : decode b_K_init 54 = .ok (.aload_n 0, 1) := by decide +kernel
theorem d_K_init_55 : decode b_K_init 55 = .ok (.getfield 25, 3) := by decide +kernel
theorem d_K_init_58 : decode b_K_init 58 = .ok (.iconst (-1), 1) := by decide +kernel
theorem d_K_init_59 : decode b_K_init 59 = .ok (.invokestatic 35, 3) := by decide +kernel
theorem d_K_init_62 : decode b_K_init 62 = .ok (.return_, 1) := by decide +kernel
theorem d_K_append_0 : decode b_K_append 0 = .ok (.aload_n 0, 1) := by decide +kernel
theorem d_K_append_1 : decode b_K_append 1 = .ok (.getfield 28, 3) := by decide +kernel
theorem d_K_append_4 : decode b_K_append 4 = .ok (.bipush 60, 2) := by decide +kernel
theorem d_K_append_6 : decode b_K_append 6 = .ok (.if_icmp .ge 15, 3) := by decide +kernel
theorem d_K_append_9 : decode b_K_append 9 = .ok (.iload_n 1, 1) := by decide +kernel
theorem d_K_append_10 : decode b_K_append 10 = .ok (.iconst (-1), 1) := by decide +kernel
theorem d_K_append_11 : decode b_K_append 11 = .ok (.if_icmp .eq 12, 3) := by decide +kernel
theorem d_K_append_14 : decode b_K_append 14 = .ok (.iload_n 1, 1) := by decide +kernel
theorem d_K_append_15 : decode b_K_append 15 = .ok (.invokestatic 41, 3) := by decide +kernel
theorem d_K_append_18 : decode b_K_append 18 = .ok (.ifCond .ne 5, 3) := by decide +kernel
theorem d_K_append_21 : decode b_K_append 21 = .ok (.iconst 0, 1) := by decide +kernel
theorem d_K_append_22 : decode b_K_append 22 = .ok (.ireturn, 1) := by decide +kernel
theorem d_K_append_23 : decode b_K_append 23 = .ok (.iload_n 1, 1) := by decide +kernel
theorem d_K_append_24 : decode b_K_append 24 = .ok (.iconst (-1), 1) := by decide +kernel
theorem d_K_append_25 : decode b_K_append 25 = .ok (.if_icmp .eq 14, 3) := by decide +kernel
theorem d_K_append_28 : decode b_K_append 28 = .ok (.aload_n 0, 1) := by decide +kernel
theorem d_K_append_29 : decode b_K_append 29 = .ok (.getfield 21, 3) := by decide +kernel
theorem d_K_append_32 : decode b_K_append 32 = .ok (.iload_n 1, 1) := by decide +kernel
theorem d_K_append_33 : decode b_K_append 33 = .ok (.iconst 1, 1) := by decide +kernel
theorem d_K_append_34 : decode b_K_append 34 = .ok (.bastore, 1) := by decide +kernel
theorem d_K_append_35 : decode b_K_append 35 = .ok (.aload_n 0, 1) := by decide +kernel
theorem d_K_append_36 : decode b_K_append 36 = .ok (.invokevirtual 45, 3) := by decide +kernel
theorem d_K_append_39 : decode b_K_append 39 = .ok (.aload_n 0, 1) := by decide +kernel
theorem d_K_append_40 : decode b_K_append 40 = .ok (.getfield 9, 3) := by decide +kernel
theorem d_K_append_43 : decode b_K_append 43 = .ok (.aload_n 0, 1) := by decide +kernel
theorem d_K_append_44 : decode b_K_append 44 = .ok (.getfield 28, 3) := by decide +kernel
theorem d_K_append_47 : decode b_K_append 47 = .ok (.iload_n 1, 1) := by decide +kernel
theorem d_K_append_48 : decode b_K_append 48 = .ok (.iastore, 1) := by decide +kernel
theorem d_K_append_49 : decode b_K_append 49 = .ok (.aload_n 0, 1) := by decide +kernel
theorem d_K_append_50 : decode b_K_append 50 = .ok (.dup, 1) := by decide +kernel
theorem d_K_append_51 : decode b_K_append 51 = .ok (.getfield 28, 3) := by decide +kernel
theorem d_K_append_54 : decode b_K_append 54 = .ok (.iconst 1, 1) := by decide +kernel
theorem d_K_append_55 : decode b_K_append 55 = .ok (.iadd, 1) := by decide +kernel
theorem d_K_append_56 : decode b_K_append 56 = .ok (.putfield 28, 3) := by decide +kernel
theorem d_K_append_59 : decode b_K_append 59 = .ok (.iconst 1, 1) := by decide +kernel
theorem d_K_append_60 : decode b_K_append 60 = .ok (.ireturn, 1) := by decide +kernel
theorem d_K_empty_0 : decode b_K_empty 0 = .ok (.aload_n 0, 1) := by decide +kernel
theorem d_K_empty_1 : decode b_K_empty 1 = .ok (.iconst 0, 1) := by decide +kernel
theorem d_K_empty_2 : decode b_K_empty 2 = .ok (.putfield 28, 3) := by decide +kernel
theorem d_K_empty_5 : decode b_K_empty 5 = .ok (.aload_n 0, 1) := by decide +kernel
theorem d_K_empty_6 : decode b_K_empty 6 = .ok (.iconst 0, 1) := by decide +kernel
theorem d_K_empty_7 : decode b_K_empty 7 = .ok (.putfield 32, 3) := by decide +kernel
theorem d_K_empty_10 : decode b_K_empty 10 = .ok (.iconst 0, 1) := by decide +kernel
theorem d_K_empty_11 : decode b_K_empty 11 = .ok (.istore_n 1, 1) := by decide +kernel
theorem d_K_empty_12 : decode b_K_empty 12 = .ok (.iload_n 1, 1) := by decide +kernel
theorem d_K_empty_13 : decode b_K_empty 13 = .ok (.bipush 26, 2) := by decide +kernel
theorem d_K_empty_15 : decode b_K_empty 15 = .ok (.if_icmp .ge 23, 3) := by decide +kernel
theorem d_K_empty_18 : decode b_K_empty 18 = .ok (.aload_n 0, 1) := by decide +kernel
theorem d_K_empty_19 : decode b_K_empty 19 = .ok (.getfield 21, 3) := by decide +kernel
theorem d_K_empty_22 : decode b_K_empty 22 = .ok (.iload_n 1, 1) := by decide +kernel
theorem d_K_empty_23 : decode b_K_empty 23 = .ok (.iconst 0, 1) := by decide +kernel
theorem d_K_empty_24 : decode b_K_empty 24 = .ok (.bastore, 1) := by decide +kernel
theorem d_K_empty_25 : decode b_K_empty 25 = .ok (.aload_n 0, 1) := by decide +kernel
theorem d_K_empty_26 : decode b_K_empty 26 = .ok (.getfield 25, 3) := by decide +kernel
theorem d_K_empty_29 : decode b_K_empty 29 = .ok (.iload_n 1, 1) := by decide +kernel
theorem d_K_empty_30 : decode b_K_empty 30 = .ok (.iconst (-1), 1) := by decide +kernel
theorem d_K_empty_31 : decode b_K_empty 31 = .ok (.iastore, 1) := by decide +kernel
theorem d_K_empty_32 : decode b_K_empty 32 = .ok (.iinc 1 1, 3) := by decide +kernel
theorem d_K_empty_35 : decode b_K_empty 35 = .ok (.goto (-23), 3) := by decide +kernel
theorem d_K_empty_38 : decode b_K_empty 38 = .ok (.return_, 1) := by decide +kernel
theorem d_K_size_0 : decode b_K_size 0 = .ok (.aload_n 0, 1) := by decide +kernel
theorem d_K_size_1 : decode b_K_size 1 = .ok (.getfield 28, 3) := by decide +kernel
theorem d_K_size_4 : decode b_K_size 4 = .ok (.ireturn, 1) := by decide +kernel
theorem d_K_signAt_0 : decode b_K_signAt 0 = .ok (.iload_n 1, 1) := by decide +kernel
theorem d_K_signAt_1 : decode b_K_signAt 1 = .ok (.ifCond .lt 20, 3) := by decide +kernel
theorem d_K_signAt_4 : decode b_K_signAt 4 = .ok (.iload_n 1, 1) := by decide +kernel
theorem d_K_signAt_5 : decode b_K_signAt 5 = .ok (.aload_n 0, 1) := by decide +kernel
theorem d_K_signAt_6 : decode b_K_signAt 6 = .ok (.getfield 28, 3) := by decide +kernel
theorem d_K_signAt_9 : decode b_K_signAt 9 = .ok (.if_icmp .ge 12, 3) := by decide +kernel
theorem d_K_signAt_12 : decode b_K_signAt 12 = .ok (.aload_n 0, 1) := by decide +kernel
theorem d_K_signAt_13 : decode b_K_signAt 13 = .ok (.getfield 9, 3) := by decide +kernel
theorem d_K_signAt_16 : decode b_K_signAt 16 = .ok (.iload_n 1, 1) := by decide +kernel
theorem d_K_signAt_17 : decode b_K_signAt 17 = .ok (.iaload, 1) := by decide +kernel
theorem d_K_signAt_18 : decode b_K_signAt 18 = .ok (.goto 4, 3) := by decide +kernel
theorem d_K_signAt_21 : decode b_K_signAt 21 = .ok (.iconst (-1), 1) := by decide +kernel
theorem d_K_signAt_22 : decode b_K_signAt 22 = .ok (.ireturn, 1) := by decide +kernel
theorem d_K_contains_0 : decode b_K_contains 0 = .ok (.iload_n 1, 1) := by decide +kernel
theorem d_K_contains_1 : decode b_K_contains 1 = .ok (.invokestatic 41, 3) := by decide +kernel
theorem d_K_contains_4 : decode b_K_contains 4 = .ok (.ifCond .eq 16, 3) := by decide +kernel
theorem d_K_contains_7 : decode b_K_contains 7 = .ok (.aload_n 0, 1) := by decide +kernel
theorem d_K_contains_8 : decode b_K_contains 8 = .ok (.getfield 21, 3) := by decide +kernel
theorem d_K_contains_11 : decode b_K_contains 11 = .ok (.iload_n 1, 1) := by decide +kernel
theorem d_K_contains_12 : decode b_K_contains 12 = .ok (.baload, 1) := by decide +kernel
theorem d_K_contains_13 : decode b_K_contains 13 = .ok (.ifCond .eq 7, 3) := by decide +kernel
theorem d_K_contains_16 : decode b_K_contains 16 = .ok (.iconst 1, 1) := by decide +kernel
theorem d_K_contains_17 : decode b_K_contains 17 = .ok (.goto 4, 3) := by decide +kernel
theorem d_K_contains_20 : decode b_K_contains 20 = .ok (.iconst 0, 1) := by decide +kernel
theorem d_K_contains_21 : decode b_K_contains 21 = .ok (.ireturn, 1) := by decide +kernel
theorem d_K_codewordCount_0 : decode b_K_codewordCount 0 = .ok (.aload_n 0, 1) := by decide +kernel
theorem d_K_codewordCount_1 : decode b_K_codewordCount 1 = .ok (.getfield 32, 3) := by decide +kernel
theorem d_K_codewordCount_4 : decode b_K_codewordCount 4 = .ok (.ireturn, 1) := by decide +kernel
theorem d_K_codewordLength_0 : decode b_K_codewordLength 0 = .ok (.iload_n 1, 1) := by decide +kernel
theorem d_K_codewordLength_1 : decode b_K_codewordLength 1 = .ok (.ifCond .lt 20, 3) := by decide +kernel
theorem d_K_codewordLength_4 : decode b_K_codewordLength 4 = .ok (.iload_n 1, 1) := by decide +kernel
theorem d_K_codewordLength_5 : decode b_K_codewordLength 5 = .ok (.aload_n 0, 1) := by decide +kernel
theorem d_K_codewordLength_6 : decode b_K_codewordLength 6 = .ok (.getfield 32, 3) := by decide +kernel
theorem d_K_codewordLength_9 : decode b_K_codewordLength 9 = .ok (.if_icmp .ge 12, 3) := by decide +kernel
theorem d_K_codewordLength_12 : decode b_K_codewordLength 12 = .ok (.aload_n 0, 1) := by decide +kernel
theorem d_K_codewordLength_13 : decode b_K_codewordLength 13 = .ok (.getfield 18, 3) := by decide +kernel
theorem d_K_codewordLength_16 : decode b_K_codewordLength 16 = .ok (.iload_n 1, 1) := by decide +kernel
theorem d_K_codewordLength_17 : decode b_K_codewordLength 17 = .ok (.iaload, 1) := by decide +kernel
theorem d_K_codewordLength_18 : decode b_K_codewordLength 18 = .ok (.goto 4, 3) := by decide +kernel
theorem d_K_codewordLength_21 : decode b_K_codewordLength 21 = .ok (.iconst 0, 1) := by decide +kernel
theorem d_K_codewordLength_22 : decode b_K_codewordLength 22 = .ok (.ireturn, 1) := by decide +kernel
theorem d_K_numberAt_0 : decode b_K_numberAt 0 = .ok (.iload_n 2, 1) := by decide +kernel
theorem d_K_numberAt_1 : decode b_K_numberAt 1 = .ok (.ifCond .lt 27, 3) := by decide +kernel
theorem d_K_numberAt_4 : decode b_K_numberAt 4 = .ok (.iload_n 2, 1) := by decide +kernel
theorem d_K_numberAt_5 : decode b_K_numberAt 5 = .ok (.aload_n 0, 1) := by decide +kernel
theorem d_K_numberAt_6 : decode b_K_numberAt 6 = .ok (.iload_n 1, 1) := by decide +kernel
theorem d_K_numberAt_7 : decode b_K_numberAt 7 = .ok (.invokevirtual 48, 3) := by decide +kernel
theorem d_K_numberAt_10 : decode b_K_numberAt 10 = .ok (.if_icmp .ge 18, 3) := by decide +kernel
theorem d_K_numberAt_13 : decode b_K_numberAt 13 = .ok (.aload_n 0, 1) := by decide +kernel
theorem d_K_numberAt_14 : decode b_K_numberAt 14 = .ok (.aload_n 0, 1) := by decide +kernel
theorem d_K_numberAt_15 : decode b_K_numberAt 15 = .ok (.getfield 15, 3) := by decide +kernel
theorem d_K_numberAt_18 : decode b_K_numberAt 18 = .ok (.iload_n 1, 1) := by decide +kernel
theorem d_K_numberAt_19 : decode b_K_numberAt 19 = .ok (.iaload, 1) := by decide +kernel
theorem d_K_numberAt_20 : decode b_K_numberAt 20 = .ok (.iload_n 2, 1) := by decide +kernel
theorem d_K_numberAt_21 : decode b_K_numberAt 21 = .ok (.iadd, 1) := by decide +kernel
theorem d_K_numberAt_22 : decode b_K_numberAt 22 = .ok (.invokevirtual 52, 3) := by decide +kernel
theorem d_K_numberAt_25 : decode b_K_numberAt 25 = .ok (.goto 4, 3) := by decide +kernel
theorem d_K_numberAt_28 : decode b_K_numberAt 28 = .ok (.iconst (-1), 1) := by decide +kernel
theorem d_K_numberAt_29 : decode b_K_numberAt 29 = .ok (.ireturn, 1) := by decide +kernel
theorem d_K_keepPlace_0 : decode b_K_keepPlace 0 = .ok (.iload_n 1, 1) := by decide +kernel
theorem d_K_keepPlace_1 : decode b_K_keepPlace 1 = .ok (.invokestatic 41, 3) := by decide +kernel
theorem d_K_keepPlace_4 : decode b_K_keepPlace 4 = .ok (.ifCond .eq 10, 3) := by decide +kernel
theorem d_K_keepPlace_7 : decode b_K_keepPlace 7 = .ok (.aload_n 0, 1) := by decide +kernel
theorem d_K_keepPlace_8 : decode b_K_keepPlace 8 = .ok (.getfield 25, 3) := by decide +kernel
theorem d_K_keepPlace_11 : decode b_K_keepPlace 11 = .ok (.iload_n 1, 1) := by decide +kernel
theorem d_K_keepPlace_12 : decode b_K_keepPlace 12 = .ok (.iload_n 2, 1) := by decide +kernel
theorem d_K_keepPlace_13 : decode b_K_keepPlace 13 = .ok (.iastore, 1) := by decide +kernel
theorem d_K_keepPlace_14 : decode b_K_keepPlace 14 = .ok (.return_, 1) := by decide +kernel
theorem d_K_keptPlace_0 : decode b_K_keptPlace 0 = .ok (.iload_n 1, 1) := by decide +kernel
theorem d_K_keptPlace_1 : decode b_K_keptPlace 1 = .ok (.invokestatic 41, 3) := by decide +kernel
theorem d_K_keptPlace_4 : decode b_K_keptPlace 4 = .ok (.ifCond .eq 12, 3) := by decide +kernel
theorem d_K_keptPlace_7 : decode b_K_keptPlace 7 = .ok (.aload_n 0, 1) := by decide +kernel
theorem d_K_keptPlace_8 : decode b_K_keptPlace 8 = .ok (.getfield 25, 3) := by decide +kernel
theorem d_K_keptPlace_11 : decode b_K_keptPlace 11 = .ok (.iload_n 1, 1) := by decide +kernel
theorem d_K_keptPlace_12 : decode b_K_keptPlace 12 = .ok (.iaload, 1) := by decide +kernel
theorem d_K_keptPlace_13 : decode b_K_keptPlace 13 = .ok (.goto 4, 3) := by decide +kernel
theorem d_K_keptPlace_16 : decode b_K_keptPlace 16 = .ok (.iconst (-1), 1) := by decide +kernel
theorem d_K_keptPlace_17 : decode b_K_keptPlace 17 = .ok (.ireturn, 1) := by decide +kernel
theorem d_K_growCodeword_0 : decode b_K_growCodeword 0 = .ok (.aload_n 0, 1) := by decide +kernel
theorem d_K_growCodeword_1 : decode b_K_growCodeword 1 = .ok (.aload_n 0, 1) := by decide +kernel
theorem d_K_growCodeword_2 : decode b_K_growCodeword 2 = .ok (.getfield 28, 3) := by decide +kernel
theorem d_K_growCodeword_5 : decode b_K_growCodeword 5 = .ok (.iconst 1, 1) := by decide +kernel
theorem d_K_growCodeword_6 : decode b_K_growCodeword 6 = .ok (.isub, 1) := by decide +kernel
theorem d_K_growCodeword_7 : decode b_K_growCodeword 7 = .ok (.invokevirtual 52, 3) := by decide +kernel
theorem d_K_growCodeword_10 : decode b_K_growCodeword 10 = .ok (.iconst (-1), 1) := by decide +kernel
theorem d_K_growCodeword_11 : decode b_K_growCodeword 11 = .ok (.if_icmp .ne 7, 3) := by decide +kernel
theorem d_K_growCodeword_14 : decode b_K_growCodeword 14 = .ok (.iconst 1, 1) := by decide +kernel
theorem d_K_growCodeword_15 : decode b_K_growCodeword 15 = .ok (.goto 4, 3) := by decide +kernel
theorem d_K_growCodeword_18 : decode b_K_growCodeword 18 = .ok (.iconst 0, 1) := by decide +kernel
theorem d_K_growCodeword_19 : decode b_K_growCodeword 19 = .ok (.istore_n 1, 1) := by decide +kernel
theorem d_K_growCodeword_20 : decode b_K_growCodeword 20 = .ok (.iload_n 1, 1) := by decide +kernel
theorem d_K_growCodeword_21 : decode b_K_growCodeword 21 = .ok (.ifCond .eq 45, 3) := by decide +kernel
theorem d_K_growCodeword_24 : decode b_K_growCodeword 24 = .ok (.aload_n 0, 1) := by decide +kernel
theorem d_K_growCodeword_25 : decode b_K_growCodeword 25 = .ok (.getfield 32, 3) := by decide +kernel
theorem d_K_growCodeword_28 : decode b_K_growCodeword 28 = .ok (.bipush 30, 2) := by decide +kernel
theorem d_K_growCodeword_30 : decode b_K_growCodeword 30 = .ok (.if_icmp .ge 36, 3) := by decide +kernel
theorem d_K_growCodeword_33 : decode b_K_growCodeword 33 = .ok (.aload_n 0, 1) := by decide +kernel
theorem d_K_growCodeword_34 : decode b_K_growCodeword 34 = .ok (.getfield 15, 3) := by decide +kernel
theorem d_K_growCodeword_37 : decode b_K_growCodeword 37 = .ok (.aload_n 0, 1) := by decide +kernel
theorem d_K_growCodeword_38 : decode b_K_growCodeword 38 = .ok (.getfield 32, 3) := by decide +kernel
theorem d_K_growCodeword_41 : decode b_K_growCodeword 41 = .ok (.aload_n 0, 1) := by decide +kernel
theorem d_K_growCodeword_42 : decode b_K_growCodeword 42 = .ok (.getfield 28, 3) := by decide +kernel
theorem d_K_growCodeword_45 : decode b_K_growCodeword 45 = .ok (.iastore, 1) := by decide +kernel
theorem d_K_growCodeword_46 : decode b_K_growCodeword 46 = .ok (.aload_n 0, 1) := by decide +kernel
theorem d_K_growCodeword_47 : decode b_K_growCodeword 47 = .ok (.getfield 18, 3) := by decide +kernel
theorem d_K_growCodeword_50 : decode b_K_growCodeword 50 = .ok (.aload_n 0, 1) := by decide +kernel
theorem d_K_growCodeword_51 : decode b_K_growCodeword 51 = .ok (.getfield 32, 3) := by decide +kernel
theorem d_K_growCodeword_54 : decode b_K_growCodeword 54 = .ok (.iconst 0, 1) := by decide +kernel
theorem d_K_growCodeword_55 : decode b_K_growCodeword 55 = .ok (.iastore, 1) := by decide +kernel
theorem d_K_growCodeword_56 : decode b_K_growCodeword 56 = .ok (.aload_n 0, 1) := by decide +kernel
theorem d_K_growCodeword_57 : decode b_K_growCodeword 57 = .ok (.dup, 1) := by decide +kernel
theorem d_K_growCodeword_58 : decode b_K_growCodeword 58 = .ok (.getfield 32, 3) := by decide +kernel
theorem d_K_growCodeword_61 : decode b_K_growCodeword 61 = .ok (.iconst 1, 1) := by decide +kernel
theorem d_K_growCodeword_62 : decode b_K_growCodeword 62 = .ok (.iadd, 1) := by decide +kernel
theorem d_K_growCodeword_63 : decode b_K_growCodeword 63 = .ok (.putfield 32, 3) := by decide +kernel
theorem d_K_growCodeword_66 : decode b_K_growCodeword 66 = .ok (.aload_n 0, 1) := by decide +kernel
theorem d_K_growCodeword_67 : decode b_K_growCodeword 67 = .ok (.getfield 32, 3) := by decide +kernel
theorem d_K_growCodeword_70 : decode b_K_growCodeword 70 = .ok (.ifCond .le 18, 3) := by decide +kernel
theorem d_K_growCodeword_73 : decode b_K_growCodeword 73 = .ok (.aload_n 0, 1) := by decide +kernel
theorem d_K_growCodeword_74 : decode b_K_growCodeword 74 = .ok (.getfield 18, 3) := by decide +kernel
theorem d_K_growCodeword_77 : decode b_K_growCodeword 77 = .ok (.aload_n 0, 1) := by decide +kernel
theorem d_K_growCodeword_78 : decode b_K_growCodeword 78 = .ok (.getfield 32, 3) := by decide +kernel
theorem d_K_growCodeword_81 : decode b_K_growCodeword 81 = .ok (.iconst 1, 1) := by decide +kernel
theorem d_K_growCodeword_82 : decode b_K_growCodeword 82 = .ok (.isub, 1) := by decide +kernel
theorem d_K_growCodeword_83 : decode b_K_growCodeword 83 = .ok (.dup2, 1) := by decide +kernel
theorem d_K_growCodeword_84 : decode b_K_growCodeword 84 = .ok (.iaload, 1) := by decide +kernel
theorem d_K_growCodeword_85 : decode b_K_growCodeword 85 = .ok (.iconst 1, 1) := by decide +kernel
theorem d_K_growCodeword_86 : decode b_K_growCodeword 86 = .ok (.iadd, 1) := by decide +kernel
theorem d_K_growCodeword_87 : decode b_K_growCodeword 87 = .ok (.iastore, 1) := by decide +kernel
theorem d_K_growCodeword_88 : decode b_K_growCodeword 88 = .ok (.return_, 1) := by decide +kernel
