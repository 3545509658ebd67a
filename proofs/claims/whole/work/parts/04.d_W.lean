theorem d_W_init_0 : decode b_W_init 0 = .ok (.aload_n 0, 1) := by decide +kernel
theorem d_W_init_1 : decode b_W_init 1 = .ok (.invokespecial 3, 3) := by decide +kernel
theorem d_W_init_4 : decode b_W_init 4 = .ok (.aload_n 0, 1) := by decide +kernel
theorem d_W_init_5 : decode b_W_init 5 = .ok (.sipush 480, 3) := by decide +kernel
theorem d_W_init_8 : decode b_W_init 8 = .ok (.newarray .int, 2) := by decide +kernel
theorem d_W_init_10 : decode b_W_init 10 = .ok (.putfield 9, 3) := by decide +kernel
theorem d_W_init_13 : decode b_W_init 13 = .ok (.aload_n 0, 1) := by decide +kernel
theorem d_W_init_14 : decode b_W_init 14 = .ok (.bipush 60, 2) := by decide +kernel
theorem d_W_init_16 : decode b_W_init 16 = .ok (.newarray .int, 2) := by decide +kernel
theorem d_W_init_18 : decode b_W_init 18 = .ok (.putfield 15, 3) := by decide +kernel
theorem d_W_init_21 : decode b_W_init 21 = .ok (.aload_n 0, 1) := by decide +kernel
theorem d_W_init_22 : decode b_W_init 22 = .ok (.bipush 8, 2) := by decide +kernel
theorem d_W_init_24 : decode b_W_init 24 = .ok (.newarray .int, 2) := by decide +kernel
theorem d_W_init_26 : decode b_W_init 26 = .ok (.putfield 18, 3) := by decide +kernel
theorem d_W_init_29 : decode b_W_init 29 = .ok (.aload_n 0, 1) := by decide +kernel
theorem d_W_init_30 : decode b_W_init 30 = .ok (.iconst 0, 1) := by decide +kernel
theorem d_W_init_31 : decode b_W_init 31 = .ok (.putfield 21, 3) := by decide +kernel
theorem d_W_init_34 : decode b_W_init 34 = .ok (.aload_n 0, 1) := by decide +kernel
theorem d_W_init_35 : decode b_W_init 35 = .ok (.iconst 0, 1) := by decide +kernel
theorem d_W_init_36 : decode b_W_init 36 = .ok (.putfield 25, 3) := by decide +kernel
theorem d_W_init_39 : decode b_W_init 39 = .ok (.return_, 1) := by decide +kernel
theorem d_W_collect_0 : decode b_W_collect 0 = .ok (.iload_n 1, 1) := by decide +kernel
theorem d_W_collect_1 : decode b_W_collect 1 = .ok (.invokestatic 28, 3) := by decide +kernel
theorem d_W_collect_4 : decode b_W_collect 4 = .ok (.ifCond .eq 12, 3) := by decide +kernel
theorem d_W_collect_7 : decode b_W_collect 7 = .ok (.aload_n 0, 1) := by decide +kernel
theorem d_W_collect_8 : decode b_W_collect 8 = .ok (.getfield 25, 3) := by decide +kernel
theorem d_W_collect_11 : decode b_W_collect 11 = .ok (.bipush 8, 2) := by decide +kernel
theorem d_W_collect_13 : decode b_W_collect 13 = .ok (.if_icmp .lt 5, 3) := by decide +kernel
theorem d_W_collect_16 : decode b_W_collect 16 = .ok (.iconst 0, 1) := by decide +kernel
theorem d_W_collect_17 : decode b_W_collect 17 = .ok (.ireturn, 1) := by decide +kernel
theorem d_W_collect_18 : decode b_W_collect 18 = .ok (.aload_n 0, 1) := by decide +kernel
theorem d_W_collect_19 : decode b_W_collect 19 = .ok (.getfield 18, 3) := by decide +kernel
theorem d_W_collect_22 : decode b_W_collect 22 = .ok (.aload_n 0, 1) := by decide +kernel
theorem d_W_collect_23 : decode b_W_collect 23 = .ok (.getfield 25, 3) := by decide +kernel
theorem d_W_collect_26 : decode b_W_collect 26 = .ok (.iload_n 1, 1) := by decide +kernel
theorem d_W_collect_27 : decode b_W_collect 27 = .ok (.iastore, 1) := by decide +kernel
theorem d_W_collect_28 : decode b_W_collect 28 = .ok (.aload_n 0, 1) := by decide +kernel
theorem d_W_collect_29 : decode b_W_collect 29 = .ok (.dup, 1) := by decide +kernel
theorem d_W_collect_30 : decode b_W_collect 30 = .ok (.getfield 25, 3) := by decide +kernel
theorem d_W_collect_33 : decode b_W_collect 33 = .ok (.iconst 1, 1) := by decide +kernel
theorem d_W_collect_34 : decode b_W_collect 34 = .ok (.iadd, 1) := by decide +kernel
theorem d_W_collect_35 : decode b_W_collect 35 = .ok (.putfield 25, 3) := by decide +kernel
theorem d_W_collect_38 : decode b_W_collect 38 = .ok (.iconst 1, 1) := by decide +kernel
theorem d_W_collect_39 : decode b_W_collect 39 = .ok (.ireturn, 1) := by decide +kernel
theorem d_W_takeCollected_0 : decode b_W_takeCollected 0 = .ok (.aload_n 0, 1) := by decide +kernel
theorem d_W_takeCollected_1 : decode b_W_takeCollected 1 = .ok (.getfield 25, 3) := by decide +kernel
theorem d_W_takeCollected_4 : decode b_W_takeCollected 4 = .ok (.ifCond .ne 7, 3) := by decide +kernel
theorem d_W_takeCollected_7 : decode b_W_takeCollected 7 = .ok (.iconst (-1), 1) := by decide +kernel
theorem d_W_takeCollected_8 : decode b_W_takeCollected 8 = .ok (.goto 7, 3) := by decide +kernel
theorem d_W_takeCollected_11 : decode b_W_takeCollected 11 = .ok (.aload_n 0, 1) := by decide +kernel
theorem d_W_takeCollected_12 : decode b_W_takeCollected 12 = .ok (.invokevirtual 32, 3) := by decide +kernel
theorem d_W_takeCollected_15 : decode b_W_takeCollected 15 = .ok (.istore_n 1, 1) := by decide +kernel
theorem d_W_takeCollected_16 : decode b_W_takeCollected 16 = .ok (.aload_n 0, 1) := by decide +kernel
theorem d_W_takeCollected_17 : decode b_W_takeCollected 17 = .ok (.iconst 0, 1) := by decide +kernel
theorem d_W_takeCollected_18 : decode b_W_takeCollected 18 = .ok (.putfield 25, 3) := by decide +kernel
theorem d_W_takeCollected_21 : decode b_W_takeCollected 21 = .ok (.iload_n 1, 1) := by decide +kernel
theorem d_W_takeCollected_22 : decode b_W_takeCollected 22 = .ok (.ireturn, 1) := by decide +kernel
theorem d_W_size_0 : decode b_W_size 0 = .ok (.aload_n 0, 1) := by decide +kernel
theorem d_W_size_1 : decode b_W_size 1 = .ok (.getfield 21, 3) := by decide +kernel
theorem d_W_size_4 : decode b_W_size 4 = .ok (.ireturn, 1) := by decide +kernel
theorem d_W_lengthOf_0 : decode b_W_lengthOf 0 = .ok (.iload_n 1, 1) := by decide +kernel
theorem d_W_lengthOf_1 : decode b_W_lengthOf 1 = .ok (.ifCond .lt 20, 3) := by decide +kernel
theorem d_W_lengthOf_4 : decode b_W_lengthOf 4 = .ok (.iload_n 1, 1) := by decide +kernel
theorem d_W_lengthOf_5 : decode b_W_lengthOf 5 = .ok (.aload_n 0, 1) := by decide +kernel
theorem d_W_lengthOf_6 : decode b_W_lengthOf 6 = .ok (.getfield 21, 3) := by decide +kernel
theorem d_W_lengthOf_9 : decode b_W_lengthOf 9 = .ok (.if_icmp .ge 12, 3) := by decide +kernel
theorem d_W_lengthOf_12 : decode b_W_lengthOf 12 = .ok (.aload_n 0, 1) := by decide +kernel
theorem d_W_lengthOf_13 : decode b_W_lengthOf 13 = .ok (.getfield 15, 3) := by decide +kernel
theorem d_W_lengthOf_16 : decode b_W_lengthOf 16 = .ok (.iload_n 1, 1) := by decide +kernel
theorem d_W_lengthOf_17 : decode b_W_lengthOf 17 = .ok (.iaload, 1) := by decide +kernel
theorem d_W_lengthOf_18 : decode b_W_lengthOf 18 = .ok (.goto 4, 3) := by decide +kernel
theorem d_W_lengthOf_21 : decode b_W_lengthOf 21 = .ok (.iconst 0, 1) := by decide +kernel
theorem d_W_lengthOf_22 : decode b_W_lengthOf 22 = .ok (.ireturn, 1) := by decide +kernel
theorem d_W_placeAt_0 : decode b_W_placeAt 0 = .ok (.iload_n 2, 1) := by decide +kernel
theorem d_W_placeAt_1 : decode b_W_placeAt 1 = .ok (.ifCond .lt 26, 3) := by decide +kernel
theorem d_W_placeAt_4 : decode b_W_placeAt 4 = .ok (.iload_n 2, 1) := by decide +kernel
theorem d_W_placeAt_5 : decode b_W_placeAt 5 = .ok (.aload_n 0, 1) := by decide +kernel
theorem d_W_placeAt_6 : decode b_W_placeAt 6 = .ok (.iload_n 1, 1) := by decide +kernel
theorem d_W_placeAt_7 : decode b_W_placeAt 7 = .ok (.invokevirtual 36, 3) := by decide +kernel
theorem d_W_placeAt_10 : decode b_W_placeAt 10 = .ok (.if_icmp .ge 17, 3) := by decide +kernel
theorem d_W_placeAt_13 : decode b_W_placeAt 13 = .ok (.aload_n 0, 1) := by decide +kernel
theorem d_W_placeAt_14 : decode b_W_placeAt 14 = .ok (.getfield 9, 3) := by decide +kernel
theorem d_W_placeAt_17 : decode b_W_placeAt 17 = .ok (.iload_n 1, 1) := by decide +kernel
theorem d_W_placeAt_18 : decode b_W_placeAt 18 = .ok (.bipush 8, 2) := by decide +kernel
theorem d_W_placeAt_20 : decode b_W_placeAt 20 = .ok (.imul, 1) := by decide +kernel
theorem d_W_placeAt_21 : decode b_W_placeAt 21 = .ok (.iload_n 2, 1) := by decide +kernel
theorem d_W_placeAt_22 : decode b_W_placeAt 22 = .ok (.iadd, 1) := by decide +kernel
theorem d_W_placeAt_23 : decode b_W_placeAt 23 = .ok (.iaload, 1) := by decide +kernel
theorem d_W_placeAt_24 : decode b_W_placeAt 24 = .ok (.goto 4, 3) := by decide +kernel
theorem d_W_placeAt_27 : decode b_W_placeAt 27 = .ok (.iconst (-1), 1) := by decide +kernel
theorem d_W_placeAt_28 : decode b_W_placeAt 28 = .ok (.ireturn, 1) := by decide +kernel
theorem d_W_numberOfCollected_0 : decode b_W_numberOfCollected 0 = .ok (.iconst 0, 1) := by decide +kernel
theorem d_W_numberOfCollected_1 : decode b_W_numberOfCollected 1 = .ok (.istore_n 1, 1) := by decide +kernel
theorem d_W_numberOfCollected_2 : decode b_W_numberOfCollected 2 = .ok (.iload_n 1, 1) := by decide +kernel
theorem d_W_numberOfCollected_3 : decode b_W_numberOfCollected 3 = .ok (.aload_n 0, 1) := by decide +kernel
theorem d_W_numberOfCollected_4 : decode b_W_numberOfCollected 4 = .ok (.getfield 21, 3) := by decide +kernel
theorem d_W_numberOfCollected_7 : decode b_W_numberOfCollected 7 = .ok (.if_icmp .ge 19, 3) := by decide +kernel
theorem d_W_numberOfCollected_10 : decode b_W_numberOfCollected 10 = .ok (.aload_n 0, 1) := by decide +kernel
theorem d_W_numberOfCollected_11 : decode b_W_numberOfCollected 11 = .ok (.iload_n 1, 1) := by decide +kernel
theorem d_W_numberOfCollected_12 : decode b_W_numberOfCollected 12 = .ok (.invokevirtual 40, 3) := by decide +kernel
theorem d_W_numberOfCollected_15 : decode b_W_numberOfCollected 15 = .ok (.ifCond .eq 5, 3) := by decide +kernel
theorem d_W_numberOfCollected_18 : decode b_W_numberOfCollected 18 = .ok (.iload_n 1, 1) := by decide +kernel
theorem d_W_numberOfCollected_19 : decode b_W_numberOfCollected 19 = .ok (.ireturn, 1) := by decide +kernel
theorem d_W_numberOfCollected_20 : decode b_W_numberOfCollected 20 = .ok (.iinc 1 1, 3) := by decide +kernel
theorem d_W_numberOfCollected_23 : decode b_W_numberOfCollected 23 = .ok (.goto (-21), 3) := by decide +kernel
theorem d_W_numberOfCollected_26 : decode b_W_numberOfCollected 26 = .ok (.aload_n 0, 1) := by decide +kernel
theorem d_W_numberOfCollected_27 : decode b_W_numberOfCollected 27 = .ok (.invokevirtual 43, 3) := by decide +kernel
theorem d_W_numberOfCollected_30 : decode b_W_numberOfCollected 30 = .ok (.ireturn, 1) := by decide +kernel
theorem d_W_isCollected_0 : decode b_W_isCollected 0 = .ok (.aload_n 0, 1) := by decide +kernel
theorem d_W_isCollected_1 : decode b_W_isCollected 1 = .ok (.iload_n 1, 1) := by decide +kernel
theorem d_W_isCollected_2 : decode b_W_isCollected 2 = .ok (.invokevirtual 36, 3) := by decide +kernel
theorem d_W_isCollected_5 : decode b_W_isCollected 5 = .ok (.aload_n 0, 1) := by decide +kernel
theorem d_W_isCollected_6 : decode b_W_isCollected 6 = .ok (.getfield 25, 3) := by decide +kernel
theorem d_W_isCollected_9 : decode b_W_isCollected 9 = .ok (.if_icmp .eq 5, 3) := by decide +kernel
theorem d_W_isCollected_12 : decode b_W_isCollected 12 = .ok (.iconst 0, 1) := by decide +kernel
theorem d_W_isCollected_13 : decode b_W_isCollected 13 = .ok (.ireturn, 1) := by decide +kernel
theorem d_W_isCollected_14 : decode b_W_isCollected 14 = .ok (.iconst 0, 1) := by decide +kernel
theorem d_W_isCollected_15 : decode b_W_isCollected 15 = .ok (.istore_n 2, 1) := by decide +kernel
theorem d_W_isCollected_16 : decode b_W_isCollected 16 = .ok (.iload_n 2, 1) := by decide +kernel
theorem d_W_isCollected_17 : decode b_W_isCollected 17 = .ok (.aload_n 0, 1) := by decide +kernel
theorem d_W_isCollected_18 : decode b_W_isCollected 18 = .ok (.getfield 25, 3) := by decide +kernel
theorem d_W_isCollected_21 : decode b_W_isCollected 21 = .ok (.if_icmp .ge 26, 3) := by decide +kernel
theorem d_W_isCollected_24 : decode b_W_isCollected 24 = .ok (.aload_n 0, 1) := by decide +kernel
theorem d_W_isCollected_25 : decode b_W_isCollected 25 = .ok (.iload_n 1, 1) := by decide +kernel
theorem d_W_isCollected_26 : decode b_W_isCollected 26 = .ok (.iload_n 2, 1) := by decide +kernel
theorem d_W_isCollected_27 : decode b_W_isCollected 27 = .ok (.invokevirtual 46, 3) := by decide +kernel
theorem d_W_isCollected_30 : decode b_W_isCollected 30 = .ok (.aload_n 0, 1) := by decide +kernel
theorem d_W_isCollected_31 : decode b_W_isCollected 31 = .ok (.getfield 18, 3) := by decide +kernel
theorem d_W_isCollected_34 : decode b_W_isCollected 34 = .ok (.iload_n 2, 1) := by decide +kernel
theorem d_W_isCollected_35 : decode b_W_isCollected 35 = .ok (.iaload, 1) := by decide +kernel
theorem d_W_isCollected_36 : decode b_W_isCollected 36 = .ok (.if_icmp .eq 5, 3) := by decide +kernel
theorem d_W_isCollected_39 : decode b_W_isCollected 39 = .ok (.iconst 0, 1) := by decide +kernel
theorem d_W_isCollected_40 : decode b_W_isCollected 40 = .ok (.ireturn, 1) := by decide +kernel
theorem d_W_isCollected_41 : decode b_W_isCollected 41 = .ok (.iinc 2 1, 3) := by decide +kernel
theorem d_W_isCollected_44 : decode b_W_isCollected 44 = .ok (.goto (-28), 3) := by decide +kernel
theorem d_W_isCollected_47 : decode b_W_isCollected 47 = .ok (.iconst 1, 1) := by decide +kernel
theorem d_W_isCollected_48 : decode b_W_isCollected 48 = .ok (.ireturn, 1) := by decide +kernel
theorem d_W_addCollected_0 : decode b_W_addCollected 0 = .ok (.aload_n 0, 1) := by decide +kernel
theorem d_W_addCollected_1 : decode b_W_addCollected 1 = .ok (.getfield 21, 3) := by decide +kernel
theorem d_W_addCollected_4 : decode b_W_addCollected 4 = .ok (.bipush 60, 2) := by decide +kernel
theorem d_W_addCollected_6 : decode b_W_addCollected 6 = .ok (.if_icmp .lt 5, 3) := by decide +kernel
theorem d_W_addCollected_9 : decode b_W_addCollected 9 = .ok (.iconst (-1), 1) := by decide +kernel
theorem d_W_addCollected_10 : decode b_W_addCollected 10 = .ok (.ireturn, 1) := by decide +kernel
theorem d_W_addCollected_11 : decode b_W_addCollected 11 = .ok (.aload_n 0, 1) := by decide +kernel
theorem d_W_addCollected_12 : decode b_W_addCollected 12 = .ok (.getfield 21, 3) := by decide +kernel
theorem d_W_addCollected_15 : decode b_W_addCollected 15 = .ok (.istore_n 1, 1) := by decide +kernel
theorem d_W_addCollected_16 : decode b_W_addCollected 16 = .ok (.aload_n 0, 1) := by decide +kernel
theorem d_W_addCollected_17 : decode b_W_addCollected 17 = .ok (.getfield 18, 3) := by decide +kernel
theorem d_W_addCollected_20 : decode b_W_addCollected 20 = .ok (.iconst 0, 1) := by decide +kernel
theorem d_W_addCollected_21 : decode b_W_addCollected 21 = .ok (.aload_n 0, 1) := by decide +kernel
theorem d_W_addCollected_22 : decode b_W_addCollected 22 = .ok (.getfield 9, 3) := by decide +kernel
theorem d_W_addCollected_25 : decode b_W_addCollected 25 = .ok (.iload_n 1, 1) := by decide +kernel
theorem d_W_addCollected_26 : decode b_W_addCollected 26 = .ok (.bipush 8, 2) := by decide +kernel
theorem d_W_addCollected_28 : decode b_W_addCollected 28 = .ok (.imul, 1) := by decide +kernel
theorem d_W_addCollected_29 : decode b_W_addCollected 29 = .ok (.aload_n 0, 1) := by decide +kernel
theorem d_W_addCollected_30 : decode b_W_addCollected 30 = .ok (.getfield 25, 3) := by decide +kernel
theorem d_W_addCollected_33 : decode b_W_addCollected 33 = .ok (.invokestatic 50, 3) := by decide +kernel
theorem d_W_addCollected_36 : decode b_W_addCollected 36 = .ok (.aload_n 0, 1) := by decide +kernel
theorem d_W_addCollected_37 : decode b_W_addCollected 37 = .ok (.getfield 15, 3) := by decide +kernel
theorem d_W_addCollected_40 : decode b_W_addCollected 40 = .ok (.iload_n 1, 1) := by decide +kernel
theorem d_W_addCollected_41 : decode b_W_addCollected 41 = .ok (.aload_n 0, 1) := by decide +kernel
theorem d_W_addCollected_42 : decode b_W_addCollected 42 = .ok (.getfield 25, 3) := by decide +kernel
theorem d_W_addCollected_45 : decode b_W_addCollected 45 = .ok (.iastore, 1) := by decide +kernel
theorem d_W_addCollected_46 : decode b_W_addCollected 46 = .ok (.aload_n 0, 1) := by decide +kernel
theorem d_W_addCollected_47 : decode b_W_addCollected 47 = .ok (.dup, 1) := by decide +kernel
theorem d_W_addCollected_48 : decode b_W_addCollected 48 = .ok (.getfield 21, 3) := by decide +kernel
theorem d_W_addCollected_51 : decode b_W_addCollected 51 = .ok (.iconst 1, 1) := by decide +kernel
theorem d_W_addCollected_52 : decode b_W_addCollected 52 = .ok (.iadd, 1) := by decide +kernel
theorem d_W_addCollected_53 : decode b_W_addCollected 53 = .ok (.putfield 21, 3) := by decide +kernel
theorem d_W_addCollected_56 : decode b_W_addCollected 56 = .ok (.iload_n 1, 1) := by decide +kernel
theorem d_W_addCollected_57 : decode b_W_addCollected 57 = .ok (.ireturn, 1) := by decide +kernel
