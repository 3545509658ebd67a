theorem d_R_init_0 : decode b_R_init 0 = .ok (.aload_n 0, 1) := by decide +kernel
theorem d_R_init_1 : decode b_R_init 1 = .ok (.invokespecial 3, 3) := by decide +kernel
theorem d_R_init_4 : decode b_R_init 4 = .ok (.aload_n 0, 1) := by decide +kernel
theorem d_R_init_5 : decode b_R_init 5 = .ok (.sipush 5200, 3) := by decide +kernel
theorem d_R_init_8 : decode b_R_init 8 = .ok (.newarray .int, 2) := by decide +kernel
theorem d_R_init_10 : decode b_R_init 10 = .ok (.putfield 9, 3) := by decide +kernel
theorem d_R_init_13 : decode b_R_init 13 = .ok (.aload_n 0, 1) := by decide +kernel
theorem d_R_init_14 : decode b_R_init 14 = .ok (.sipush 200, 3) := by decide +kernel
theorem d_R_init_17 : decode b_R_init 17 = .ok (.newarray .int, 2) := by decide +kernel
theorem d_R_init_19 : decode b_R_init 19 = .ok (.putfield 15, 3) := by decide +kernel
theorem d_R_init_22 : decode b_R_init 22 = .ok (.aload_n 0, 1) := by decide +kernel
theorem d_R_init_23 : decode b_R_init 23 = .ok (.iconst 0, 1) := by decide +kernel
theorem d_R_init_24 : decode b_R_init 24 = .ok (.putfield 18, 3) := by decide +kernel
theorem d_R_init_27 : decode b_R_init 27 = .ok (.return_, 1) := by decide +kernel
theorem d_R_forget_0 : decode b_R_forget 0 = .ok (.aload_n 0, 1) := by decide +kernel
theorem d_R_forget_1 : decode b_R_forget 1 = .ok (.iconst 0, 1) := by decide +kernel
theorem d_R_forget_2 : decode b_R_forget 2 = .ok (.putfield 18, 3) := by decide +kernel
theorem d_R_forget_5 : decode b_R_forget 5 = .ok (.return_, 1) := by decide +kernel
theorem d_R_size_0 : decode b_R_size 0 = .ok (.aload_n 0, 1) := by decide +kernel
theorem d_R_size_1 : decode b_R_size 1 = .ok (.getfield 18, 3) := by decide +kernel
theorem d_R_size_4 : decode b_R_size 4 = .ok (.ireturn, 1) := by decide +kernel
theorem d_R_has_0 : decode b_R_has 0 = .ok (.iload_n 1, 1) := by decide +kernel
theorem d_R_has_1 : decode b_R_has 1 = .ok (.ifCond .lt 15, 3) := by decide +kernel
theorem d_R_has_4 : decode b_R_has 4 = .ok (.iload_n 1, 1) := by decide +kernel
theorem d_R_has_5 : decode b_R_has 5 = .ok (.aload_n 0, 1) := by decide +kernel
theorem d_R_has_6 : decode b_R_has 6 = .ok (.getfield 18, 3) := by decide +kernel
theorem d_R_has_9 : decode b_R_has 9 = .ok (.if_icmp .ge 7, 3) := by decide +kernel
theorem d_R_has_12 : decode b_R_has 12 = .ok (.iconst 1, 1) := by decide +kernel
theorem d_R_has_13 : decode b_R_has 13 = .ok (.goto 4, 3) := by decide +kernel
theorem d_R_has_16 : decode b_R_has 16 = .ok (.iconst 0, 1) := by decide +kernel
theorem d_R_has_17 : decode b_R_has 17 = .ok (.ireturn, 1) := by decide +kernel
theorem d_R_placeIn_0 : decode b_R_placeIn 0 = .ok (.aload_n 0, 1) := by decide +kernel
theorem d_R_placeIn_1 : decode b_R_placeIn 1 = .ok (.iload_n 1, 1) := by decide +kernel
theorem d_R_placeIn_2 : decode b_R_placeIn 2 = .ok (.invokevirtual 22, 3) := by decide +kernel
theorem d_R_placeIn_5 : decode b_R_placeIn 5 = .ok (.ifCond .eq 29, 3) := by decide +kernel
theorem d_R_placeIn_8 : decode b_R_placeIn 8 = .ok (.iload_n 2, 1) := by decide +kernel
theorem d_R_placeIn_9 : decode b_R_placeIn 9 = .ok (.invokestatic 26, 3) := by decide +kernel
theorem d_R_placeIn_12 : decode b_R_placeIn 12 = .ok (.ifCond .eq 22, 3) := by decide +kernel
theorem d_R_placeIn_15 : decode b_R_placeIn 15 = .ok (.aload_n 0, 1) := by decide +kernel
theorem d_R_placeIn_16 : decode b_R_placeIn 16 = .ok (.getfield 9, 3) := by decide +kernel
theorem d_R_placeIn_19 : decode b_R_placeIn 19 = .ok (.aload_n 0, 1) := by decide +kernel
theorem d_R_placeIn_20 : decode b_R_placeIn 20 = .ok (.getfield 15, 3) := by decide +kernel
theorem d_R_placeIn_23 : decode b_R_placeIn 23 = .ok (.iload_n 1, 1) := by decide +kernel
theorem d_R_placeIn_24 : decode b_R_placeIn 24 = .ok (.iaload, 1) := by decide +kernel
theorem d_R_placeIn_25 : decode b_R_placeIn 25 = .ok (.bipush 26, 2) := by decide +kernel
theorem d_R_placeIn_27 : decode b_R_placeIn 27 = .ok (.imul, 1) := by decide +kernel
theorem d_R_placeIn_28 : decode b_R_placeIn 28 = .ok (.iload_n 2, 1) := by decide +kernel
theorem d_R_placeIn_29 : decode b_R_placeIn 29 = .ok (.iadd, 1) := by decide +kernel
theorem d_R_placeIn_30 : decode b_R_placeIn 30 = .ok (.iaload, 1) := by decide +kernel
theorem d_R_placeIn_31 : decode b_R_placeIn 31 = .ok (.goto 4, 3) := by decide +kernel
theorem d_R_placeIn_34 : decode b_R_placeIn 34 = .ok (.iconst (-1), 1) := by decide +kernel
theorem d_R_placeIn_35 : decode b_R_placeIn 35 = .ok (.ireturn, 1) := by decide +kernel
theorem d_R_commonPlace_0 : decode b_R_commonPlace 0 = .ok (.aload_n 0, 1) := by decide +kernel
theorem d_R_commonPlace_1 : decode b_R_commonPlace 1 = .ok (.iconst 0, 1) := by decide +kernel
theorem d_R_commonPlace_2 : decode b_R_commonPlace 2 = .ok (.iload_n 1, 1) := by decide +kernel
theorem d_R_commonPlace_3 : decode b_R_commonPlace 3 = .ok (.invokevirtual 29, 3) := by decide +kernel
theorem d_R_commonPlace_6 : decode b_R_commonPlace 6 = .ok (.istore_n 2, 1) := by decide +kernel
theorem d_R_commonPlace_7 : decode b_R_commonPlace 7 = .ok (.iconst 1, 1) := by decide +kernel
theorem d_R_commonPlace_8 : decode b_R_commonPlace 8 = .ok (.istore_n 3, 1) := by decide +kernel
theorem d_R_commonPlace_9 : decode b_R_commonPlace 9 = .ok (.iload_n 3, 1) := by decide +kernel
theorem d_R_commonPlace_10 : decode b_R_commonPlace 10 = .ok (.aload_n 0, 1) := by decide +kernel
theorem d_R_commonPlace_11 : decode b_R_commonPlace 11 = .ok (.getfield 18, 3) := by decide +kernel
theorem d_R_commonPlace_14 : decode b_R_commonPlace 14 = .ok (.if_icmp .ge 21, 3) := by decide +kernel
theorem d_R_commonPlace_17 : decode b_R_commonPlace 17 = .ok (.aload_n 0, 1) := by decide +kernel
theorem d_R_commonPlace_18 : decode b_R_commonPlace 18 = .ok (.iload_n 3, 1) := by decide +kernel
theorem d_R_commonPlace_19 : decode b_R_commonPlace 19 = .ok (.iload_n 1, 1) := by decide +kernel
theorem d_R_commonPlace_20 : decode b_R_commonPlace 20 = .ok (.invokevirtual 29, 3) := by decide +kernel
theorem d_R_commonPlace_23 : decode b_R_commonPlace 23 = .ok (.iload_n 2, 1) := by decide +kernel
theorem d_R_commonPlace_24 : decode b_R_commonPlace 24 = .ok (.if_icmp .eq 5, 3) := by decide +kernel
theorem d_R_commonPlace_27 : decode b_R_commonPlace 27 = .ok (.iconst (-1), 1) := by decide +kernel
theorem d_R_commonPlace_28 : decode b_R_commonPlace 28 = .ok (.ireturn, 1) := by decide +kernel
theorem d_R_commonPlace_29 : decode b_R_commonPlace 29 = .ok (.iinc 3 1, 3) := by decide +kernel
theorem d_R_commonPlace_32 : decode b_R_commonPlace 32 = .ok (.goto (-23), 3) := by decide +kernel
theorem d_R_commonPlace_35 : decode b_R_commonPlace 35 = .ok (.iload_n 2, 1) := by decide +kernel
theorem d_R_commonPlace_36 : decode b_R_commonPlace 36 = .ok (.ireturn, 1) := by decide +kernel
theorem d_R_offer_0 : decode b_R_offer 0 = .ok (.aload_n 0, 1) := by decide +kernel
theorem d_R_offer_1 : decode b_R_offer 1 = .ok (.aload_n 1, 1) := by decide +kernel
theorem d_R_offer_2 : decode b_R_offer 2 = .ok (.invokevirtual 33, 3) := by decide +kernel
theorem d_R_offer_5 : decode b_R_offer 5 = .ok (.istore_n 2, 1) := by decide +kernel
theorem d_R_offer_6 : decode b_R_offer 6 = .ok (.iload_n 2, 1) := by decide +kernel
theorem d_R_offer_7 : decode b_R_offer 7 = .ok (.sipush 200, 3) := by decide +kernel
theorem d_R_offer_10 : decode b_R_offer 10 = .ok (.if_icmp .lt 4, 3) := by decide +kernel
theorem d_R_offer_13 : decode b_R_offer 13 = .ok (.return_, 1) := by decide +kernel
theorem d_R_offer_14 : decode b_R_offer 14 = .ok (.aload_n 0, 1) := by decide +kernel
theorem d_R_offer_15 : decode b_R_offer 15 = .ok (.getfield 18, 3) := by decide +kernel
theorem d_R_offer_18 : decode b_R_offer 18 = .ok (.sipush 200, 3) := by decide +kernel
theorem d_R_offer_21 : decode b_R_offer 21 = .ok (.if_icmp .lt 7, 3) := by decide +kernel
theorem d_R_offer_24 : decode b_R_offer 24 = .ok (.iconst 1, 1) := by decide +kernel
theorem d_R_offer_25 : decode b_R_offer 25 = .ok (.goto 4, 3) := by decide +kernel
theorem d_R_offer_28 : decode b_R_offer 28 = .ok (.iconst 0, 1) := by decide +kernel
theorem d_R_offer_29 : decode b_R_offer 29 = .ok (.istore_n 3, 1) := by decide +kernel
theorem d_R_offer_30 : decode b_R_offer 30 = .ok (.iload_n 3, 1) := by decide +kernel
theorem d_R_offer_31 : decode b_R_offer 31 = .ok (.ifCond .eq 14, 3) := by decide +kernel
theorem d_R_offer_34 : decode b_R_offer 34 = .ok (.aload_n 0, 1) := by decide +kernel
theorem d_R_offer_35 : decode b_R_offer 35 = .ok (.getfield 15, 3) := by decide +kernel
theorem d_R_offer_38 : decode b_R_offer 38 = .ok (.sipush 199, 3) := by decide +kernel
theorem d_R_offer_41 : decode b_R_offer 41 = .ok (.iaload, 1) := by decide +kernel
theorem d_R_offer_42 : decode b_R_offer 42 = .ok (.goto 7, 3) := by decide +kernel
theorem d_R_offer_45 : decode b_R_offer 45 = .ok (.aload_n 0, 1) := by decide +kernel
theorem d_R_offer_46 : decode b_R_offer 46 = .ok (.getfield 18, 3) := by decide +kernel
theorem d_R_offer_49 : decode b_R_offer 49 = .ok (.istore 4, 2) := by decide +kernel
theorem d_R_offer_51 : decode b_R_offer 51 = .ok (.iload_n 3, 1) := by decide +kernel
theorem d_R_offer_52 : decode b_R_offer 52 = .ok (.ifCond .eq 9, 3) := by decide +kernel
theorem d_R_offer_55 : decode b_R_offer 55 = .ok (.sipush 199, 3) := by decide +kernel
theorem d_R_offer_58 : decode b_R_offer 58 = .ok (.goto 7, 3) := by decide +kernel
theorem d_R_offer_61 : decode b_R_offer 61 = .ok (.aload_n 0, 1) := by decide +kernel
theorem d_R_offer_62 : decode b_R_offer 62 = .ok (.getfield 18, 3) := by decide +kernel
theorem d_R_offer_65 : decode b_R_offer 65 = .ok (.istore 5, 2) := by decide +kernel
theorem d_R_offer_67 : decode b_R_offer 67 = .ok (.aload_n 0, 1) := by decide +kernel
theorem d_R_offer_68 : decode b_R_offer 68 = .ok (.getfield 15, 3) := by decide +kernel
theorem d_R_offer_71 : decode b_R_offer 71 = .ok (.iload_n 2, 1) := by decide +kernel
theorem d_R_offer_72 : decode b_R_offer 72 = .ok (.aload_n 0, 1) := by decide +kernel
theorem d_R_offer_73 : decode b_R_offer 73 = .ok (.getfield 15, 3) := by decide +kernel
theorem d_R_offer_76 : decode b_R_offer 76 = .ok (.iload_n 2, 1) := by decide +kernel
theorem d_R_offer_77 : decode b_R_offer 77 = .ok (.iconst 1, 1) := by decide +kernel
theorem d_R_offer_78 : decode b_R_offer 78 = .ok (.iadd, 1) := by decide +kernel
theorem d_R_offer_79 : decode b_R_offer 79 = .ok (.iload 5, 2) := by decide +kernel
theorem d_R_offer_81 : decode b_R_offer 81 = .ok (.iload_n 2, 1) := by decide +kernel
theorem d_R_offer_82 : decode b_R_offer 82 = .ok (.isub, 1) := by decide +kernel
theorem d_R_offer_83 : decode b_R_offer 83 = .ok (.invokestatic 37, 3) := by decide +kernel
theorem d_R_offer_86 : decode b_R_offer 86 = .ok (.aload_n 0, 1) := by decide +kernel
theorem d_R_offer_87 : decode b_R_offer 87 = .ok (.getfield 15, 3) := by decide +kernel
theorem d_R_offer_90 : decode b_R_offer 90 = .ok (.iload_n 2, 1) := by decide +kernel
theorem d_R_offer_91 : decode b_R_offer 91 = .ok (.iload 4, 2) := by decide +kernel
theorem d_R_offer_93 : decode b_R_offer 93 = .ok (.iastore, 1) := by decide +kernel
theorem d_R_offer_94 : decode b_R_offer 94 = .ok (.aload_n 1, 1) := by decide +kernel
theorem d_R_offer_95 : decode b_R_offer 95 = .ok (.iconst 0, 1) := by decide +kernel
theorem d_R_offer_96 : decode b_R_offer 96 = .ok (.aload_n 0, 1) := by decide +kernel
theorem d_R_offer_97 : decode b_R_offer 97 = .ok (.getfield 9, 3) := by decide +kernel
theorem d_R_offer_100 : decode b_R_offer 100 = .ok (.iload 4, 2) := by decide +kernel
theorem d_R_offer_102 : decode b_R_offer 102 = .ok (.bipush 26, 2) := by decide +kernel
theorem d_R_offer_104 : decode b_R_offer 104 = .ok (.imul, 1) := by decide +kernel
theorem d_R_offer_105 : decode b_R_offer 105 = .ok (.bipush 26, 2) := by decide +kernel
theorem d_R_offer_107 : decode b_R_offer 107 = .ok (.invokestatic 37, 3) := by decide +kernel
theorem d_R_offer_110 : decode b_R_offer 110 = .ok (.aload_n 0, 1) := by decide +kernel
theorem d_R_offer_111 : decode b_R_offer 111 = .ok (.iload 5, 2) := by decide +kernel
theorem d_R_offer_113 : decode b_R_offer 113 = .ok (.iconst 1, 1) := by decide +kernel
theorem d_R_offer_114 : decode b_R_offer 114 = .ok (.iadd, 1) := by decide +kernel
theorem d_R_offer_115 : decode b_R_offer 115 = .ok (.putfield 18, 3) := by decide +kernel
theorem d_R_offer_118 : decode b_R_offer 118 = .ok (.return_, 1) := by decide +kernel
theorem d_R_positionOf_0 : decode b_R_positionOf 0 = .ok (.aload_n 0, 1) := by decide +kernel
theorem d_R_positionOf_1 : decode b_R_positionOf 1 = .ok (.getfield 18, 3) := by decide +kernel
theorem d_R_positionOf_4 : decode b_R_positionOf 4 = .ok (.ifCond .eq 17, 3) := by decide +kernel
theorem d_R_positionOf_7 : decode b_R_positionOf 7 = .ok (.aload_n 0, 1) := by decide +kernel
theorem d_R_positionOf_8 : decode b_R_positionOf 8 = .ok (.aload_n 0, 1) := by decide +kernel
theorem d_R_positionOf_9 : decode b_R_positionOf 9 = .ok (.getfield 18, 3) := by decide +kernel
theorem d_R_positionOf_12 : decode b_R_positionOf 12 = .ok (.iconst 1, 1) := by decide +kernel
theorem d_R_positionOf_13 : decode b_R_positionOf 13 = .ok (.isub, 1) := by decide +kernel
theorem d_R_positionOf_14 : decode b_R_positionOf 14 = .ok (.aload_n 1, 1) := by decide +kernel
theorem d_R_positionOf_15 : decode b_R_positionOf 15 = .ok (.invokevirtual 43, 3) := by decide +kernel
theorem d_R_positionOf_18 : decode b_R_positionOf 18 = .ok (.ifCond .eq 8, 3) := by decide +kernel
theorem d_R_positionOf_21 : decode b_R_positionOf 21 = .ok (.aload_n 0, 1) := by decide +kernel
theorem d_R_positionOf_22 : decode b_R_positionOf 22 = .ok (.getfield 18, 3) := by decide +kernel
theorem d_R_positionOf_25 : decode b_R_positionOf 25 = .ok (.ireturn, 1) := by decide +kernel
theorem d_R_positionOf_26 : decode b_R_positionOf 26 = .ok (.iconst 0, 1) := by decide +kernel
theorem d_R_positionOf_27 : decode b_R_positionOf 27 = .ok (.istore_n 2, 1) := by decide +kernel
theorem d_R_positionOf_28 : decode b_R_positionOf 28 = .ok (.aload_n 0, 1) := by decide +kernel
theorem d_R_positionOf_29 : decode b_R_positionOf 29 = .ok (.getfield 18, 3) := by decide +kernel
theorem d_R_positionOf_32 : decode b_R_positionOf 32 = .ok (.iconst 1, 1) := by decide +kernel
theorem d_R_positionOf_33 : decode b_R_positionOf 33 = .ok (.isub, 1) := by decide +kernel
theorem d_R_positionOf_34 : decode b_R_positionOf 34 = .ok (.istore_n 3, 1) := by decide +kernel
theorem d_R_positionOf_35 : decode b_R_positionOf 35 = .ok (.iconst 0, 1) := by decide +kernel
theorem d_R_positionOf_36 : decode b_R_positionOf 36 = .ok (.istore 4, 2) := by decide +kernel
theorem d_R_positionOf_38 : decode b_R_positionOf 38 = .ok (.iload 4, 2) := by decide +kernel
theorem d_R_positionOf_40 : decode b_R_positionOf 40 = .ok (.bipush 8, 2) := by decide +kernel
theorem d_R_positionOf_42 : decode b_R_positionOf 42 = .ok (.if_icmp .ge 42, 3) := by decide +kernel
theorem d_R_positionOf_45 : decode b_R_positionOf 45 = .ok (.iload_n 2, 1) := by decide +kernel
theorem d_R_positionOf_46 : decode b_R_positionOf 46 = .ok (.iload_n 3, 1) := by decide +kernel
theorem d_R_positionOf_47 : decode b_R_positionOf 47 = .ok (.if_icmp .ge 37, 3) := by decide +kernel
theorem d_R_positionOf_50 : decode b_R_positionOf 50 = .ok (.iload_n 2, 1) := by decide +kernel
theorem d_R_positionOf_51 : decode b_R_positionOf 51 = .ok (.iload_n 3, 1) := by decide +kernel
theorem d_R_positionOf_52 : decode b_R_positionOf 52 = .ok (.iadd, 1) := by decide +kernel
theorem d_R_positionOf_53 : decode b_R_positionOf 53 = .ok (.iconst 2, 1) := by decide +kernel
theorem d_R_positionOf_54 : decode b_R_positionOf 54 = .ok (.idiv, 1) := by decide +kernel
theorem d_R_positionOf_55 : decode b_R_positionOf 55 = .ok (.istore 5, 2) := by decide +kernel
theorem d_R_positionOf_57 : decode b_R_positionOf 57 = .ok (.aload_n 0, 1) := by decide +kernel
theorem d_R_positionOf_58 : decode b_R_positionOf 58 = .ok (.iload 5, 2) := by decide +kernel
theorem d_R_positionOf_60 : decode b_R_positionOf 60 = .ok (.aload_n 1, 1) := by decide +kernel
theorem d_R_positionOf_61 : decode b_R_positionOf 61 = .ok (.invokevirtual 43, 3) := by decide +kernel
theorem d_R_positionOf_64 : decode b_R_positionOf 64 = .ok (.ifCond .eq 11, 3) := by decide +kernel
theorem d_R_positionOf_67 : decode b_R_positionOf 67 = .ok (.iload 5, 2) := by decide +kernel
theorem d_R_positionOf_69 : decode b_R_positionOf 69 = .ok (.iconst 1, 1) := by decide +kernel
theorem d_R_positionOf_70 : decode b_R_positionOf 70 = .ok (.iadd, 1) := by decide +kernel
theorem d_R_positionOf_71 : decode b_R_positionOf 71 = .ok (.istore_n 2, 1) := by decide +kernel
theorem d_R_positionOf_72 : decode b_R_positionOf 72 = .ok (.goto 6, 3) := by decide +kernel
theorem d_R_positionOf_75 : decode b_R_positionOf 75 = .ok (.iload 5, 2) := by decide +kernel
theorem d_R_positionOf_77 : decode b_R_positionOf 77 = .ok (.istore_n 3, 1) := by decide +kernel
theorem d_R_positionOf_78 : decode b_R_positionOf 78 = .ok (.iinc 4 1, 3) := by decide +kernel
theorem d_R_positionOf_81 : decode b_R_positionOf 81 = .ok (.goto (-43), 3) := by decide +kernel
theorem d_R_positionOf_84 : decode b_R_positionOf 84 = .ok (.iload_n 2, 1) := by decide +kernel
theorem d_R_positionOf_85 : decode b_R_positionOf 85 = .ok (.ireturn, 1) := by decide +kernel
theorem d_R_isAhead_0 : decode b_R_isAhead 0 = .ok (.aload_n 0, 1) := by decide +kernel
theorem d_R_isAhead_1 : decode b_R_isAhead 1 = .ok (.iload_n 1, 1) := by decide +kernel
theorem d_R_isAhead_2 : decode b_R_isAhead 2 = .ok (.invokevirtual 22, 3) := by decide +kernel
theorem d_R_isAhead_5 : decode b_R_isAhead 5 = .ok (.ifCond .ne 5, 3) := by decide +kernel
theorem d_R_isAhead_8 : decode b_R_isAhead 8 = .ok (.iconst 0, 1) := by decide +kernel
theorem d_R_isAhead_9 : decode b_R_isAhead 9 = .ok (.ireturn, 1) := by decide +kernel
theorem d_R_isAhead_10 : decode b_R_isAhead 10 = .ok (.aload_n 0, 1) := by decide +kernel
theorem d_R_isAhead_11 : decode b_R_isAhead 11 = .ok (.getfield 15, 3) := by decide +kernel
theorem d_R_isAhead_14 : decode b_R_isAhead 14 = .ok (.iload_n 1, 1) := by decide +kernel
theorem d_R_isAhead_15 : decode b_R_isAhead 15 = .ok (.iaload, 1) := by decide +kernel
theorem d_R_isAhead_16 : decode b_R_isAhead 16 = .ok (.bipush 26, 2) := by decide +kernel
theorem d_R_isAhead_18 : decode b_R_isAhead 18 = .ok (.imul, 1) := by decide +kernel
theorem d_R_isAhead_19 : decode b_R_isAhead 19 = .ok (.istore_n 3, 1) := by decide +kernel
theorem d_R_isAhead_20 : decode b_R_isAhead 20 = .ok (.iconst 0, 1) := by decide +kernel
theorem d_R_isAhead_21 : decode b_R_isAhead 21 = .ok (.istore 4, 2) := by decide +kernel
theorem d_R_isAhead_23 : decode b_R_isAhead 23 = .ok (.iload 4, 2) := by decide +kernel
theorem d_R_isAhead_25 : decode b_R_isAhead 25 = .ok (.bipush 26, 2) := by decide +kernel
theorem d_R_isAhead_27 : decode b_R_isAhead 27 = .ok (.if_icmp .ge 44, 3) := by decide +kernel
theorem d_R_isAhead_30 : decode b_R_isAhead 30 = .ok (.aload_n 0, 1) := by decide +kernel
theorem d_R_isAhead_31 : decode b_R_isAhead 31 = .ok (.getfield 9, 3) := by decide +kernel
theorem d_R_isAhead_34 : decode b_R_isAhead 34 = .ok (.iload_n 3, 1) := by decide +kernel
theorem d_R_isAhead_35 : decode b_R_isAhead 35 = .ok (.iload 4, 2) := by decide +kernel
theorem d_R_isAhead_37 : decode b_R_isAhead 37 = .ok (.iadd, 1) := by decide +kernel
theorem d_R_isAhead_38 : decode b_R_isAhead 38 = .ok (.iaload, 1) := by decide +kernel
theorem d_R_isAhead_39 : decode b_R_isAhead 39 = .ok (.istore 5, 2) := by decide +kernel
theorem d_R_isAhead_41 : decode b_R_isAhead 41 = .ok (.iload 5, 2) := by decide +kernel
theorem d_R_isAhead_43 : decode b_R_isAhead 43 = .ok (.aload_n 2, 1) := by decide +kernel
theorem d_R_isAhead_44 : decode b_R_isAhead 44 = .ok (.iload 4, 2) := by decide +kernel
theorem d_R_isAhead_46 : decode b_R_isAhead 46 = .ok (.iaload, 1) := by decide +kernel
theorem d_R_isAhead_47 : decode b_R_isAhead 47 = .ok (.if_icmp .eq 18, 3) := by decide +kernel
theorem d_R_isAhead_50 : decode b_R_isAhead 50 = .ok (.iload 5, 2) := by decide +kernel
theorem d_R_isAhead_52 : decode b_R_isAhead 52 = .ok (.aload_n 2, 1) := by decide +kernel
theorem d_R_isAhead_53 : decode b_R_isAhead 53 = .ok (.iload 4, 2) := by decide +kernel
theorem d_R_isAhead_55 : decode b_R_isAhead 55 = .ok (.iaload, 1) := by decide +kernel
theorem d_R_isAhead_56 : decode b_R_isAhead 56 = .ok (.if_icmp .ge 7, 3) := by decide +kernel
theorem d_R_isAhead_59 : decode b_R_isAhead 59 = .ok (.iconst 1, 1) := by decide +kernel
theorem d_R_isAhead_60 : decode b_R_isAhead 60 = .ok (.goto 4, 3) := by decide +kernel
theorem d_R_isAhead_63 : decode b_R_isAhead 63 = .ok (.iconst 0, 1) := by decide +kernel
theorem d_R_isAhead_64 : decode b_R_isAhead 64 = .ok (.ireturn, 1) := by decide +kernel
theorem d_R_isAhead_65 : decode b_R_isAhead 65 = .ok (.iinc 4 1, 3) := by decide +kernel
theorem d_R_isAhead_68 : decode b_R_isAhead 68 = .ok (.goto (-45), 3) := by decide +kernel
theorem d_R_isAhead_71 : decode b_R_isAhead 71 = .ok (.iconst 0, 1) := by decide +kernel
theorem d_R_isAhead_72 : decode b_R_isAhead 72 = .ok (.ireturn, 1) := by decide +kernel
