theorem d_P_init_0 : decode b_P_init 0 = .ok (.aload_n 0, 1) := by decide +kernel
theorem d_P_init_1 : decode b_P_init 1 = .ok (.invokespecial 3, 3) := by decide +kernel
theorem d_P_init_4 : decode b_P_init 4 = .ok (.aload_n 0, 1) := by decide +kernel
theorem d_P_init_5 : decode b_P_init 5 = .ok (.sipush 676, 3) := by decide +kernel
theorem d_P_init_8 : decode b_P_init 8 = .ok (.newarray .int, 2) := by decide +kernel
theorem d_P_init_10 : decode b_P_init 10 = .ok (.putfield 9, 3) := by decide +kernel
theorem d_P_init_13 : decode b_P_init 13 = .ok (.return_, 1) := by decide +kernel
theorem d_P_weigh_0 : decode b_P_weigh 0 = .ok (.iload_n 1, 1) := by decide +kernel
theorem d_P_weigh_1 : decode b_P_weigh 1 = .ok (.invokestatic 15, 3) := by decide +kernel
theorem d_P_weigh_4 : decode b_P_weigh 4 = .ok (.ifCond .eq 24, 3) := by decide +kernel
theorem d_P_weigh_7 : decode b_P_weigh 7 = .ok (.iload_n 2, 1) := by decide +kernel
theorem d_P_weigh_8 : decode b_P_weigh 8 = .ok (.invokestatic 15, 3) := by decide +kernel
theorem d_P_weigh_11 : decode b_P_weigh 11 = .ok (.ifCond .eq 17, 3) := by decide +kernel
theorem d_P_weigh_14 : decode b_P_weigh 14 = .ok (.iload_n 3, 1) := by decide +kernel
theorem d_P_weigh_15 : decode b_P_weigh 15 = .ok (.sipush (-1000), 3) := by decide +kernel
theorem d_P_weigh_18 : decode b_P_weigh 18 = .ok (.if_icmp .lt 10, 3) := by decide +kernel
theorem d_P_weigh_21 : decode b_P_weigh 21 = .ok (.iload_n 3, 1) := by decide +kernel
theorem d_P_weigh_22 : decode b_P_weigh 22 = .ok (.sipush 1000, 3) := by decide +kernel
theorem d_P_weigh_25 : decode b_P_weigh 25 = .ok (.if_icmp .le 5, 3) := by decide +kernel
theorem d_P_weigh_28 : decode b_P_weigh 28 = .ok (.iconst 0, 1) := by decide +kernel
theorem d_P_weigh_29 : decode b_P_weigh 29 = .ok (.ireturn, 1) := by decide +kernel
theorem d_P_weigh_30 : decode b_P_weigh 30 = .ok (.aload_n 0, 1) := by decide +kernel
theorem d_P_weigh_31 : decode b_P_weigh 31 = .ok (.getfield 9, 3) := by decide +kernel
theorem d_P_weigh_34 : decode b_P_weigh 34 = .ok (.iload_n 1, 1) := by decide +kernel
theorem d_P_weigh_35 : decode b_P_weigh 35 = .ok (.bipush 26, 2) := by decide +kernel
theorem d_P_weigh_37 : decode b_P_weigh 37 = .ok (.imul, 1) := by decide +kernel
theorem d_P_weigh_38 : decode b_P_weigh 38 = .ok (.iload_n 2, 1) := by decide +kernel
theorem d_P_weigh_39 : decode b_P_weigh 39 = .ok (.iadd, 1) := by decide +kernel
theorem d_P_weigh_40 : decode b_P_weigh 40 = .ok (.iload_n 3, 1) := by decide +kernel
theorem d_P_weigh_41 : decode b_P_weigh 41 = .ok (.iastore, 1) := by decide +kernel
theorem d_P_weigh_42 : decode b_P_weigh 42 = .ok (.iconst 1, 1) := by decide +kernel
theorem d_P_weigh_43 : decode b_P_weigh 43 = .ok (.ireturn, 1) := by decide +kernel
theorem d_P_weightOf_0 : decode b_P_weightOf 0 = .ok (.iload_n 1, 1) := by decide +kernel
theorem d_P_weightOf_1 : decode b_P_weightOf 1 = .ok (.invokestatic 15, 3) := by decide +kernel
theorem d_P_weightOf_4 : decode b_P_weightOf 4 = .ok (.ifCond .eq 24, 3) := by decide +kernel
theorem d_P_weightOf_7 : decode b_P_weightOf 7 = .ok (.iload_n 2, 1) := by decide +kernel
theorem d_P_weightOf_8 : decode b_P_weightOf 8 = .ok (.invokestatic 15, 3) := by decide +kernel
theorem d_P_weightOf_11 : decode b_P_weightOf 11 = .ok (.ifCond .eq 17, 3) := by decide +kernel
theorem d_P_weightOf_14 : decode b_P_weightOf 14 = .ok (.aload_n 0, 1) := by decide +kernel
theorem d_P_weightOf_15 : decode b_P_weightOf 15 = .ok (.getfield 9, 3) := by decide +kernel
theorem d_P_weightOf_18 : decode b_P_weightOf 18 = .ok (.iload_n 1, 1) := by decide +kernel
theorem d_P_weightOf_19 : decode b_P_weightOf 19 = .ok (.bipush 26, 2) := by decide +kernel
theorem d_P_weightOf_21 : decode b_P_weightOf 21 = .ok (.imul, 1) := by decide +kernel
theorem d_P_weightOf_22 : decode b_P_weightOf 22 = .ok (.iload_n 2, 1) := by decide +kernel
theorem d_P_weightOf_23 : decode b_P_weightOf 23 = .ok (.iadd, 1) := by decide +kernel
theorem d_P_weightOf_24 : decode b_P_weightOf 24 = .ok (.iaload, 1) := by decide +kernel
theorem d_P_weightOf_25 : decode b_P_weightOf 25 = .ok (.goto 4, 3) := by decide +kernel
theorem d_P_weightOf_28 : decode b_P_weightOf 28 = .ok (.iconst 0, 1) := by decide +kernel
theorem d_P_weightOf_29 : decode b_P_weightOf 29 = .ok (.ireturn, 1) := by decide +kernel
