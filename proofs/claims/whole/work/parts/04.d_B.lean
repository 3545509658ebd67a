theorem d_B_init_0 : decode b_B_init 0 = .ok (.aload_n 0, 1) := by decide +kernel
theorem d_B_init_1 : decode b_B_init 1 = .ok (.invokespecial 3, 3) := by decide +kernel
theorem d_B_init_4 : decode b_B_init 4 = .ok (.aload_n 0, 1) := by decide +kernel
theorem d_B_init_5 : decode b_B_init 5 = .ok (.bipush 61, 2) := by decide +kernel
theorem d_B_init_7 : decode b_B_init 7 = .ok (.newarray .int, 2) := by decide +kernel
theorem d_B_init_9 : decode b_B_init 9 = .ok (.putfield 9, 3) := by decide +kernel
theorem d_B_init_12 : decode b_B_init 12 = .ok (.aload_n 0, 1) := by decide +kernel
theorem d_B_init_13 : decode b_B_init 13 = .ok (.aload_n 1, 1) := by decide +kernel
theorem d_B_init_14 : decode b_B_init 14 = .ok (.putfield 15, 3) := by decide +kernel
theorem d_B_init_17 : decode b_B_init 17 = .ok (.aload_n 0, 1) := by decide +kernel
theorem d_B_init_18 : decode b_B_init 18 = .ok (.aload_n 2, 1) := by decide +kernel
theorem d_B_init_19 : decode b_B_init 19 = .ok (.putfield 19, 3) := by decide +kernel
theorem d_B_init_22 : decode b_B_init 22 = .ok (.return_, 1) := by decide +kernel
theorem d_B_fewestWords_0 : decode b_B_fewestWords 0 = .ok (.aload_n 0, 1) := by decide +kernel
theorem d_B_fewestWords_1 : decode b_B_fewestWords 1 = .ok (.getfield 19, 3) := by decide +kernel
theorem d_B_fewestWords_4 : decode b_B_fewestWords 4 = .ok (.invokevirtual 23, 3) := by decide +kernel
theorem d_B_fewestWords_7 : decode b_B_fewestWords 7 = .ok (.istore_n 1, 1) := by decide +kernel
theorem d_B_fewestWords_8 : decode b_B_fewestWords 8 = .ok (.aload_n 0, 1) := by decide +kernel
theorem d_B_fewestWords_9 : decode b_B_fewestWords 9 = .ok (.getfield 9, 3) := by decide +kernel
theorem d_B_fewestWords_12 : decode b_B_fewestWords 12 = .ok (.iload_n 1, 1) := by decide +kernel
theorem d_B_fewestWords_13 : decode b_B_fewestWords 13 = .ok (.iconst 0, 1) := by decide +kernel
theorem d_B_fewestWords_14 : decode b_B_fewestWords 14 = .ok (.iastore, 1) := by decide +kernel
theorem d_B_fewestWords_15 : decode b_B_fewestWords 15 = .ok (.iload_n 1, 1) := by decide +kernel
theorem d_B_fewestWords_16 : decode b_B_fewestWords 16 = .ok (.iconst 1, 1) := by decide +kernel
theorem d_B_fewestWords_17 : decode b_B_fewestWords 17 = .ok (.isub, 1) := by decide +kernel
theorem d_B_fewestWords_18 : decode b_B_fewestWords 18 = .ok (.istore_n 2, 1) := by decide +kernel
theorem d_B_fewestWords_19 : decode b_B_fewestWords 19 = .ok (.iload_n 2, 1) := by decide +kernel
theorem d_B_fewestWords_20 : decode b_B_fewestWords 20 = .ok (.ifCond .lt 20, 3) := by decide +kernel
theorem d_B_fewestWords_23 : decode b_B_fewestWords 23 = .ok (.aload_n 0, 1) := by decide +kernel
theorem d_B_fewestWords_24 : decode b_B_fewestWords 24 = .ok (.getfield 9, 3) := by decide +kernel
theorem d_B_fewestWords_27 : decode b_B_fewestWords 27 = .ok (.iload_n 2, 1) := by decide +kernel
theorem d_B_fewestWords_28 : decode b_B_fewestWords 28 = .ok (.aload_n 0, 1) := by decide +kernel
theorem d_B_fewestWords_29 : decode b_B_fewestWords 29 = .ok (.iload_n 2, 1) := by decide +kernel
theorem d_B_fewestWords_30 : decode b_B_fewestWords 30 = .ok (.invokevirtual 29, 3) := by decide +kernel
theorem d_B_fewestWords_33 : decode b_B_fewestWords 33 = .ok (.iastore, 1) := by decide +kernel
theorem d_B_fewestWords_34 : decode b_B_fewestWords 34 = .ok (.iinc 2 (-1), 3) := by decide +kernel
theorem d_B_fewestWords_37 : decode b_B_fewestWords 37 = .ok (.goto (-18), 3) := by decide +kernel
theorem d_B_fewestWords_40 : decode b_B_fewestWords 40 = .ok (.aload_n 0, 1) := by decide +kernel
theorem d_B_fewestWords_41 : decode b_B_fewestWords 41 = .ok (.getfield 9, 3) := by decide +kernel
theorem d_B_fewestWords_44 : decode b_B_fewestWords 44 = .ok (.iconst 0, 1) := by decide +kernel
theorem d_B_fewestWords_45 : decode b_B_fewestWords 45 = .ok (.iaload, 1) := by decide +kernel
theorem d_B_fewestWords_46 : decode b_B_fewestWords 46 = .ok (.ireturn, 1) := by decide +kernel
theorem d_B_wordOf_0 : decode b_B_wordOf 0 = .ok (.iload_n 1, 1) := by decide +kernel
theorem d_B_wordOf_1 : decode b_B_wordOf 1 = .ok (.ifCond .lt 11, 3) := by decide +kernel
theorem d_B_wordOf_4 : decode b_B_wordOf 4 = .ok (.iload_n 1, 1) := by decide +kernel
theorem d_B_wordOf_5 : decode b_B_wordOf 5 = .ok (.aload_n 0, 1) := by decide +kernel
theorem d_B_wordOf_6 : decode b_B_wordOf 6 = .ok (.invokevirtual 33, 3) := by decide +kernel
theorem d_B_wordOf_9 : decode b_B_wordOf 9 = .ok (.if_icmp .lt 5, 3) := by decide +kernel
theorem d_B_wordOf_12 : decode b_B_wordOf 12 = .ok (.iconst (-1), 1) := by decide +kernel
theorem d_B_wordOf_13 : decode b_B_wordOf 13 = .ok (.ireturn, 1) := by decide +kernel
theorem d_B_wordOf_14 : decode b_B_wordOf 14 = .ok (.iconst 0, 1) := by decide +kernel
theorem d_B_wordOf_15 : decode b_B_wordOf 15 = .ok (.istore_n 2, 1) := by decide +kernel
theorem d_B_wordOf_16 : decode b_B_wordOf 16 = .ok (.iconst 0, 1) := by decide +kernel
theorem d_B_wordOf_17 : decode b_B_wordOf 17 = .ok (.istore_n 3, 1) := by decide +kernel
theorem d_B_wordOf_18 : decode b_B_wordOf 18 = .ok (.iload_n 3, 1) := by decide +kernel
theorem d_B_wordOf_19 : decode b_B_wordOf 19 = .ok (.iload_n 1, 1) := by decide +kernel
theorem d_B_wordOf_20 : decode b_B_wordOf 20 = .ok (.if_icmp .ge 24, 3) := by decide +kernel
theorem d_B_wordOf_23 : decode b_B_wordOf 23 = .ok (.iload_n 2, 1) := by decide +kernel
theorem d_B_wordOf_24 : decode b_B_wordOf 24 = .ok (.aload_n 0, 1) := by decide +kernel
theorem d_B_wordOf_25 : decode b_B_wordOf 25 = .ok (.getfield 15, 3) := by decide +kernel
theorem d_B_wordOf_28 : decode b_B_wordOf 28 = .ok (.aload_n 0, 1) := by decide +kernel
theorem d_B_wordOf_29 : decode b_B_wordOf 29 = .ok (.iload_n 2, 1) := by decide +kernel
theorem d_B_wordOf_30 : decode b_B_wordOf 30 = .ok (.invokevirtual 36, 3) := by decide +kernel
theorem d_B_wordOf_33 : decode b_B_wordOf 33 = .ok (.invokevirtual 39, 3) := by decide +kernel
theorem d_B_wordOf_36 : decode b_B_wordOf 36 = .ok (.iadd, 1) := by decide +kernel
theorem d_B_wordOf_37 : decode b_B_wordOf 37 = .ok (.istore_n 2, 1) := by decide +kernel
theorem d_B_wordOf_38 : decode b_B_wordOf 38 = .ok (.iinc 3 1, 3) := by decide +kernel
theorem d_B_wordOf_41 : decode b_B_wordOf 41 = .ok (.goto (-23), 3) := by decide +kernel
theorem d_B_wordOf_44 : decode b_B_wordOf 44 = .ok (.aload_n 0, 1) := by decide +kernel
theorem d_B_wordOf_45 : decode b_B_wordOf 45 = .ok (.iload_n 2, 1) := by decide +kernel
theorem d_B_wordOf_46 : decode b_B_wordOf 46 = .ok (.invokevirtual 36, 3) := by decide +kernel
theorem d_B_wordOf_49 : decode b_B_wordOf 49 = .ok (.ireturn, 1) := by decide +kernel
theorem d_B_fewestAt_0 : decode b_B_fewestAt 0 = .ok (.iconst (-1), 1) := by decide +kernel
theorem d_B_fewestAt_1 : decode b_B_fewestAt 1 = .ok (.istore_n 2, 1) := by decide +kernel
theorem d_B_fewestAt_2 : decode b_B_fewestAt 2 = .ok (.iconst 0, 1) := by decide +kernel
theorem d_B_fewestAt_3 : decode b_B_fewestAt 3 = .ok (.istore_n 3, 1) := by decide +kernel
theorem d_B_fewestAt_4 : decode b_B_fewestAt 4 = .ok (.iload_n 3, 1) := by decide +kernel
theorem d_B_fewestAt_5 : decode b_B_fewestAt 5 = .ok (.aload_n 0, 1) := by decide +kernel
theorem d_B_fewestAt_6 : decode b_B_fewestAt 6 = .ok (.getfield 15, 3) := by decide +kernel
theorem d_B_fewestAt_9 : decode b_B_fewestAt 9 = .ok (.invokevirtual 44, 3) := by decide +kernel
theorem d_B_fewestAt_12 : decode b_B_fewestAt 12 = .ok (.if_icmp .ge 41, 3) := by decide +kernel
theorem d_B_fewestAt_15 : decode b_B_fewestAt 15 = .ok (.aload_n 0, 1) := by decide +kernel
theorem d_B_fewestAt_16 : decode b_B_fewestAt 16 = .ok (.iload_n 3, 1) := by decide +kernel
theorem d_B_fewestAt_17 : decode b_B_fewestAt 17 = .ok (.iload_n 1, 1) := by decide +kernel
theorem d_B_fewestAt_18 : decode b_B_fewestAt 18 = .ok (.invokevirtual 45, 3) := by decide +kernel
theorem d_B_fewestAt_21 : decode b_B_fewestAt 21 = .ok (.istore 4, 2) := by decide +kernel
theorem d_B_fewestAt_23 : decode b_B_fewestAt 23 = .ok (.iload 4, 2) := by decide +kernel
theorem d_B_fewestAt_25 : decode b_B_fewestAt 25 = .ok (.iconst (-1), 1) := by decide +kernel
theorem d_B_fewestAt_26 : decode b_B_fewestAt 26 = .ok (.if_icmp .eq 21, 3) := by decide +kernel
theorem d_B_fewestAt_29 : decode b_B_fewestAt 29 = .ok (.iload_n 2, 1) := by decide +kernel
theorem d_B_fewestAt_30 : decode b_B_fewestAt 30 = .ok (.iconst (-1), 1) := by decide +kernel
theorem d_B_fewestAt_31 : decode b_B_fewestAt 31 = .ok (.if_icmp .eq 11, 3) := by decide +kernel
theorem d_B_fewestAt_34 : decode b_B_fewestAt 34 = .ok (.iload 4, 2) := by decide +kernel
theorem d_B_fewestAt_36 : decode b_B_fewestAt 36 = .ok (.iconst 1, 1) := by decide +kernel
theorem d_B_fewestAt_37 : decode b_B_fewestAt 37 = .ok (.iadd, 1) := by decide +kernel
theorem d_B_fewestAt_38 : decode b_B_fewestAt 38 = .ok (.iload_n 2, 1) := by decide +kernel
theorem d_B_fewestAt_39 : decode b_B_fewestAt 39 = .ok (.if_icmp .ge 8, 3) := by decide +kernel
theorem d_B_fewestAt_42 : decode b_B_fewestAt 42 = .ok (.iload 4, 2) := by decide +kernel
theorem d_B_fewestAt_44 : decode b_B_fewestAt 44 = .ok (.iconst 1, 1) := by decide +kernel
theorem d_B_fewestAt_45 : decode b_B_fewestAt 45 = .ok (.iadd, 1) := by decide +kernel
theorem d_B_fewestAt_46 : decode b_B_fewestAt 46 = .ok (.istore_n 2, 1) := by decide +kernel
theorem d_B_fewestAt_47 : decode b_B_fewestAt 47 = .ok (.iinc 3 1, 3) := by decide +kernel
theorem d_B_fewestAt_50 : decode b_B_fewestAt 50 = .ok (.goto (-46), 3) := by decide +kernel
theorem d_B_fewestAt_53 : decode b_B_fewestAt 53 = .ok (.iload_n 2, 1) := by decide +kernel
theorem d_B_fewestAt_54 : decode b_B_fewestAt 54 = .ok (.ireturn, 1) := by decide +kernel
theorem d_B_leastWordAt_0 : decode b_B_leastWordAt 0 = .ok (.iconst 0, 1) := by decide +kernel
theorem d_B_leastWordAt_1 : decode b_B_leastWordAt 1 = .ok (.istore_n 2, 1) := by decide +kernel
theorem d_B_leastWordAt_2 : decode b_B_leastWordAt 2 = .ok (.iload_n 2, 1) := by decide +kernel
theorem d_B_leastWordAt_3 : decode b_B_leastWordAt 3 = .ok (.aload_n 0, 1) := by decide +kernel
theorem d_B_leastWordAt_4 : decode b_B_leastWordAt 4 = .ok (.getfield 15, 3) := by decide +kernel
theorem d_B_leastWordAt_7 : decode b_B_leastWordAt 7 = .ok (.invokevirtual 44, 3) := by decide +kernel
theorem d_B_leastWordAt_10 : decode b_B_leastWordAt 10 = .ok (.if_icmp .ge 35, 3) := by decide +kernel
theorem d_B_leastWordAt_13 : decode b_B_leastWordAt 13 = .ok (.aload_n 0, 1) := by decide +kernel
theorem d_B_leastWordAt_14 : decode b_B_leastWordAt 14 = .ok (.iload_n 2, 1) := by decide +kernel
theorem d_B_leastWordAt_15 : decode b_B_leastWordAt 15 = .ok (.iload_n 1, 1) := by decide +kernel
theorem d_B_leastWordAt_16 : decode b_B_leastWordAt 16 = .ok (.invokevirtual 45, 3) := by decide +kernel
theorem d_B_leastWordAt_19 : decode b_B_leastWordAt 19 = .ok (.istore_n 3, 1) := by decide +kernel
theorem d_B_leastWordAt_20 : decode b_B_leastWordAt 20 = .ok (.iload_n 3, 1) := by decide +kernel
theorem d_B_leastWordAt_21 : decode b_B_leastWordAt 21 = .ok (.iconst (-1), 1) := by decide +kernel
theorem d_B_leastWordAt_22 : decode b_B_leastWordAt 22 = .ok (.if_icmp .eq 17, 3) := by decide +kernel
theorem d_B_leastWordAt_25 : decode b_B_leastWordAt 25 = .ok (.iload_n 3, 1) := by decide +kernel
theorem d_B_leastWordAt_26 : decode b_B_leastWordAt 26 = .ok (.iconst 1, 1) := by decide +kernel
theorem d_B_leastWordAt_27 : decode b_B_leastWordAt 27 = .ok (.iadd, 1) := by decide +kernel
theorem d_B_leastWordAt_28 : decode b_B_leastWordAt 28 = .ok (.aload_n 0, 1) := by decide +kernel
theorem d_B_leastWordAt_29 : decode b_B_leastWordAt 29 = .ok (.getfield 9, 3) := by decide +kernel
theorem d_B_leastWordAt_32 : decode b_B_leastWordAt 32 = .ok (.iload_n 1, 1) := by decide +kernel
theorem d_B_leastWordAt_33 : decode b_B_leastWordAt 33 = .ok (.iaload, 1) := by decide +kernel
theorem d_B_leastWordAt_34 : decode b_B_leastWordAt 34 = .ok (.if_icmp .ne 5, 3) := by decide +kernel
theorem d_B_leastWordAt_37 : decode b_B_leastWordAt 37 = .ok (.iload_n 2, 1) := by decide +kernel
theorem d_B_leastWordAt_38 : decode b_B_leastWordAt 38 = .ok (.ireturn, 1) := by decide +kernel
theorem d_B_leastWordAt_39 : decode b_B_leastWordAt 39 = .ok (.iinc 2 1, 3) := by decide +kernel
theorem d_B_leastWordAt_42 : decode b_B_leastWordAt 42 = .ok (.goto (-40), 3) := by decide +kernel
theorem d_B_leastWordAt_45 : decode b_B_leastWordAt 45 = .ok (.iconst (-1), 1) := by decide +kernel
theorem d_B_leastWordAt_46 : decode b_B_leastWordAt 46 = .ok (.ireturn, 1) := by decide +kernel
theorem d_B_fewestBehind_0 : decode b_B_fewestBehind 0 = .ok (.iload_n 2, 1) := by decide +kernel
theorem d_B_fewestBehind_1 : decode b_B_fewestBehind 1 = .ok (.aload_n 0, 1) := by decide +kernel
theorem d_B_fewestBehind_2 : decode b_B_fewestBehind 2 = .ok (.getfield 15, 3) := by decide +kernel
theorem d_B_fewestBehind_5 : decode b_B_fewestBehind 5 = .ok (.iload_n 1, 1) := by decide +kernel
theorem d_B_fewestBehind_6 : decode b_B_fewestBehind 6 = .ok (.invokevirtual 39, 3) := by decide +kernel
theorem d_B_fewestBehind_9 : decode b_B_fewestBehind 9 = .ok (.iadd, 1) := by decide +kernel
theorem d_B_fewestBehind_10 : decode b_B_fewestBehind 10 = .ok (.istore_n 3, 1) := by decide +kernel
theorem d_B_fewestBehind_11 : decode b_B_fewestBehind 11 = .ok (.iload_n 2, 1) := by decide +kernel
theorem d_B_fewestBehind_12 : decode b_B_fewestBehind 12 = .ok (.ifCond .lt 14, 3) := by decide +kernel
theorem d_B_fewestBehind_15 : decode b_B_fewestBehind 15 = .ok (.iload_n 3, 1) := by decide +kernel
theorem d_B_fewestBehind_16 : decode b_B_fewestBehind 16 = .ok (.aload_n 0, 1) := by decide +kernel
theorem d_B_fewestBehind_17 : decode b_B_fewestBehind 17 = .ok (.getfield 19, 3) := by decide +kernel
theorem d_B_fewestBehind_20 : decode b_B_fewestBehind 20 = .ok (.invokevirtual 23, 3) := by decide +kernel
theorem d_B_fewestBehind_23 : decode b_B_fewestBehind 23 = .ok (.if_icmp .le 5, 3) := by decide +kernel
theorem d_B_fewestBehind_26 : decode b_B_fewestBehind 26 = .ok (.iconst (-1), 1) := by decide +kernel
theorem d_B_fewestBehind_27 : decode b_B_fewestBehind 27 = .ok (.ireturn, 1) := by decide +kernel
theorem d_B_fewestBehind_28 : decode b_B_fewestBehind 28 = .ok (.iload_n 2, 1) := by decide +kernel
theorem d_B_fewestBehind_29 : decode b_B_fewestBehind 29 = .ok (.istore 4, 2) := by decide +kernel
theorem d_B_fewestBehind_31 : decode b_B_fewestBehind 31 = .ok (.iload 4, 2) := by decide +kernel
theorem d_B_fewestBehind_33 : decode b_B_fewestBehind 33 = .ok (.iload_n 3, 1) := by decide +kernel
theorem d_B_fewestBehind_34 : decode b_B_fewestBehind 34 = .ok (.if_icmp .ge 35, 3) := by decide +kernel
theorem d_B_fewestBehind_37 : decode b_B_fewestBehind 37 = .ok (.aload_n 0, 1) := by decide +kernel
theorem d_B_fewestBehind_38 : decode b_B_fewestBehind 38 = .ok (.getfield 19, 3) := by decide +kernel
theorem d_B_fewestBehind_41 : decode b_B_fewestBehind 41 = .ok (.iload 4, 2) := by decide +kernel
theorem d_B_fewestBehind_43 : decode b_B_fewestBehind 43 = .ok (.invokevirtual 49, 3) := by decide +kernel
theorem d_B_fewestBehind_46 : decode b_B_fewestBehind 46 = .ok (.aload_n 0, 1) := by decide +kernel
theorem d_B_fewestBehind_47 : decode b_B_fewestBehind 47 = .ok (.getfield 15, 3) := by decide +kernel
theorem d_B_fewestBehind_50 : decode b_B_fewestBehind 50 = .ok (.iload_n 1, 1) := by decide +kernel
theorem d_B_fewestBehind_51 : decode b_B_fewestBehind 51 = .ok (.iload 4, 2) := by decide +kernel
theorem d_B_fewestBehind_53 : decode b_B_fewestBehind 53 = .ok (.iload_n 2, 1) := by decide +kernel
theorem d_B_fewestBehind_54 : decode b_B_fewestBehind 54 = .ok (.isub, 1) := by decide +kernel
theorem d_B_fewestBehind_55 : decode b_B_fewestBehind 55 = .ok (.invokevirtual 52, 3) := by decide +kernel
theorem d_B_fewestBehind_58 : decode b_B_fewestBehind 58 = .ok (.if_icmp .eq 5, 3) := by decide +kernel
theorem d_B_fewestBehind_61 : decode b_B_fewestBehind 61 = .ok (.iconst (-1), 1) := by decide +kernel
theorem d_B_fewestBehind_62 : decode b_B_fewestBehind 62 = .ok (.ireturn, 1) := by decide +kernel
theorem d_B_fewestBehind_63 : decode b_B_fewestBehind 63 = .ok (.iinc 4 1, 3) := by decide +kernel
theorem d_B_fewestBehind_66 : decode b_B_fewestBehind 66 = .ok (.goto (-35), 3) := by decide +kernel
theorem d_B_fewestBehind_69 : decode b_B_fewestBehind 69 = .ok (.aload_n 0, 1) := by decide +kernel
theorem d_B_fewestBehind_70 : decode b_B_fewestBehind 70 = .ok (.getfield 9, 3) := by decide +kernel
theorem d_B_fewestBehind_73 : decode b_B_fewestBehind 73 = .ok (.iload_n 3, 1) := by decide +kernel
theorem d_B_fewestBehind_74 : decode b_B_fewestBehind 74 = .ok (.iaload, 1) := by decide +kernel
theorem d_B_fewestBehind_75 : decode b_B_fewestBehind 75 = .ok (.ireturn, 1) := by decide +kernel
