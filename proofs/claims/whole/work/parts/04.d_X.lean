theorem d_X_init_0 : decode b_X_init 0 = .ok (.aload_n 0, 1) := by decide +kernel
theorem d_X_init_1 : decode b_X_init 1 = .ok (.invokespecial 3, 3) := by decide +kernel
theorem d_X_init_4 : decode b_X_init 4 = .ok (.aload_n 0, 1) := by decide +kernel
theorem d_X_init_5 : decode b_X_init 5 = .ok (.bipush 60, 2) := by decide +kernel
theorem d_X_init_7 : decode b_X_init 7 = .ok (.newarray .int, 2) := by decide +kernel
theorem d_X_init_9 : decode b_X_init 9 = .ok (.putfield 9, 3) := by decide +kernel
theorem d_X_init_12 : decode b_X_init 12 = .ok (.aload_n 0, 1) := by decide +kernel
theorem d_X_init_13 : decode b_X_init 13 = .ok (.iconst 0, 1) := by decide +kernel
theorem d_X_init_14 : decode b_X_init 14 = .ok (.putfield 15, 3) := by decide +kernel
theorem d_X_init_17 : decode b_X_init 17 = .ok (.return_, 1) := by decide +kernel
theorem d_X_append_0 : decode b_X_append 0 = .ok (.iload_n 1, 1) := by decide +kernel
theorem d_X_append_1 : decode b_X_append 1 = .ok (.invokestatic 19, 3) := by decide +kernel
theorem d_X_append_4 : decode b_X_append 4 = .ok (.ifCond .eq 12, 3) := by decide +kernel
theorem d_X_append_7 : decode b_X_append 7 = .ok (.aload_n 0, 1) := by decide +kernel
theorem d_X_append_8 : decode b_X_append 8 = .ok (.getfield 15, 3) := by decide +kernel
theorem d_X_append_11 : decode b_X_append 11 = .ok (.bipush 60, 2) := by decide +kernel
theorem d_X_append_13 : decode b_X_append 13 = .ok (.if_icmp .lt 5, 3) := by decide +kernel
theorem d_X_append_16 : decode b_X_append 16 = .ok (.iconst 0, 1) := by decide +kernel
theorem d_X_append_17 : decode b_X_append 17 = .ok (.ireturn, 1) := by decide +kernel
theorem d_X_append_18 : decode b_X_append 18 = .ok (.aload_n 0, 1) := by decide +kernel
theorem d_X_append_19 : decode b_X_append 19 = .ok (.getfield 9, 3) := by decide +kernel
theorem d_X_append_22 : decode b_X_append 22 = .ok (.aload_n 0, 1) := by decide +kernel
theorem d_X_append_23 : decode b_X_append 23 = .ok (.getfield 15, 3) := by decide +kernel
theorem d_X_append_26 : decode b_X_append 26 = .ok (.iload_n 1, 1) := by decide +kernel
theorem d_X_append_27 : decode b_X_append 27 = .ok (.iastore, 1) := by decide +kernel
theorem d_X_append_28 : decode b_X_append 28 = .ok (.aload_n 0, 1) := by decide +kernel
theorem d_X_append_29 : decode b_X_append 29 = .ok (.dup, 1) := by decide +kernel
theorem d_X_append_30 : decode b_X_append 30 = .ok (.getfield 15, 3) := by decide +kernel
theorem d_X_append_33 : decode b_X_append 33 = .ok (.iconst 1, 1) := by decide +kernel
theorem d_X_append_34 : decode b_X_append 34 = .ok (.iadd, 1) := by decide +kernel
theorem d_X_append_35 : decode b_X_append 35 = .ok (.putfield 15, 3) := by decide +kernel
theorem d_X_append_38 : decode b_X_append 38 = .ok (.iconst 1, 1) := by decide +kernel
theorem d_X_append_39 : decode b_X_append 39 = .ok (.ireturn, 1) := by decide +kernel
theorem d_X_empty_0 : decode b_X_empty 0 = .ok (.aload_n 0, 1) := by decide +kernel
theorem d_X_empty_1 : decode b_X_empty 1 = .ok (.iconst 0, 1) := by decide +kernel
theorem d_X_empty_2 : decode b_X_empty 2 = .ok (.putfield 15, 3) := by decide +kernel
theorem d_X_empty_5 : decode b_X_empty 5 = .ok (.return_, 1) := by decide +kernel
theorem d_X_size_0 : decode b_X_size 0 = .ok (.aload_n 0, 1) := by decide +kernel
theorem d_X_size_1 : decode b_X_size 1 = .ok (.getfield 15, 3) := by decide +kernel
theorem d_X_size_4 : decode b_X_size 4 = .ok (.ireturn, 1) := by decide +kernel
theorem d_X_placeAt_0 : decode b_X_placeAt 0 = .ok (.iload_n 1, 1) := by decide +kernel
theorem d_X_placeAt_1 : decode b_X_placeAt 1 = .ok (.ifCond .lt 20, 3) := by decide +kernel
theorem d_X_placeAt_4 : decode b_X_placeAt 4 = .ok (.iload_n 1, 1) := by decide +kernel
theorem d_X_placeAt_5 : decode b_X_placeAt 5 = .ok (.aload_n 0, 1) := by decide +kernel
theorem d_X_placeAt_6 : decode b_X_placeAt 6 = .ok (.getfield 15, 3) := by decide +kernel
theorem d_X_placeAt_9 : decode b_X_placeAt 9 = .ok (.if_icmp .ge 12, 3) := by decide +kernel
theorem d_X_placeAt_12 : decode b_X_placeAt 12 = .ok (.aload_n 0, 1) := by decide +kernel
theorem d_X_placeAt_13 : decode b_X_placeAt 13 = .ok (.getfield 9, 3) := by decide +kernel
theorem d_X_placeAt_16 : decode b_X_placeAt 16 = .ok (.iload_n 1, 1) := by decide +kernel
theorem d_X_placeAt_17 : decode b_X_placeAt 17 = .ok (.iaload, 1) := by decide +kernel
theorem d_X_placeAt_18 : decode b_X_placeAt 18 = .ok (.goto 4, 3) := by decide +kernel
theorem d_X_placeAt_21 : decode b_X_placeAt 21 = .ok (.iconst (-1), 1) := by decide +kernel
theorem d_X_placeAt_22 : decode b_X_placeAt 22 = .ok (.ireturn, 1) := by decide +kernel
