theorem d_M_best_26 : decode b_M_best 26 = .ok (.aload_n 0, 1) := by decide +kernel
theorem d_M_best_27 : decode b_M_best 27 = .ok (.iload_n 1, 1) := by decide +kernel
theorem d_M_best_28 : decode b_M_best 28 = .ok (.invokevirtual 109, 3) := by decide +kernel
theorem d_M_best_31 : decode b_M_best 31 = .ok (.lcmp, 1) := by decide +kernel
theorem d_M_best_32 : decode b_M_best 32 = .ok (.ifCond .le 5, 3) := by decide +kernel
theorem d_M_best_35 : decode b_M_best 35 = .ok (.iload_n 2, 1) := by decide +kernel
theorem d_M_best_36 : decode b_M_best 36 = .ok (.istore_n 1, 1) := by decide +kernel
theorem d_M_best_37 : decode b_M_best 37 = .ok (.iinc 2 1, 3) := by decide +kernel
theorem d_M_best_40 : decode b_M_best 40 = .ok (.goto (-31), 3) := by decide +kernel
theorem d_M_best_43 : decode b_M_best 43 = .ok (.iload_n 1, 1) := by decide +kernel
theorem d_M_best_44 : decode b_M_best 44 = .ok (.ireturn, 1) := by decide +kernel
theorem d_M_hint_0 : decode b_M_hint 0 = .ok (.aload_n 0, 1) := by decide +kernel
theorem d_M_hint_1 : decode b_M_hint 1 = .ok (.iconst 0, 1) := by decide +kernel
theorem d_M_hint_2 : decode b_M_hint 2 = .ok (.putfield 49, 3) := by decide +kernel
theorem d_M_hint_5 : decode b_M_hint 5 = .ok (.iconst 0, 1) := by decide +kernel
theorem d_M_hint_6 : decode b_M_hint 6 = .ok (.istore_n 1, 1) := by decide +kernel
theorem d_M_hint_7 : decode b_M_hint 7 = .ok (.iload_n 1, 1) := by decide +kernel
theorem d_M_hint_8 : decode b_M_hint 8 = .ok (.bipush 26, 2) := by decide +kernel
theorem d_M_hint_10 : decode b_M_hint 10 = .ok (.if_icmp .ge 105, 3) := by decide +kernel
theorem d_M_hint_13 : decode b_M_hint 13 = .ok (.aload_n 0, 1) := by decide +kernel
theorem d_M_hint_14 : decode b_M_hint 14 = .ok (.getfield 77, 3) := by decide +kernel
theorem d_M_hint_17 : decode b_M_hint 17 = .ok (.ifCond .le 98, 3) := by decide +kernel
theorem d_M_hint_20 : decode b_M_hint 20 = .ok (.aload_n 0, 1) := by decide +kernel
theorem d_M_hint_21 : decode b_M_hint 21 = .ok (.getfield 22, 3) := by decide +kernel
theorem d_M_hint_24 : decode b_M_hint 24 = .ok (.iload_n 1, 1) := by decide +kernel
theorem d_M_hint_25 : decode b_M_hint 25 = .ok (.iaload, 1) := by decide +kernel
theorem d_M_hint_26 : decode b_M_hint 26 = .ok (.ifCond .ne 83, 3) := by decide +kernel
theorem d_M_hint_29 : decode b_M_hint 29 = .ok (.aload_n 0, 1) := by decide +kernel
theorem d_M_hint_30 : decode b_M_hint 30 = .ok (.iload_n 1, 1) := by decide +kernel
theorem d_M_hint_31 : decode b_M_hint 31 = .ok (.invokevirtual 86, 3) := by decide +kernel
theorem d_M_hint_34 : decode b_M_hint 34 = .ok (.ifCond .ne 6, 3) := by decide +kernel
theorem d_M_hint_37 : decode b_M_hint 37 = .ok (.goto 72, 3) := by decide +kernel
theorem d_M_hint_40 : decode b_M_hint 40 = .ok (.iconst 1, 1) := by decide +kernel
theorem d_M_hint_41 : decode b_M_hint 41 = .ok (.istore_n 2, 1) := by decide +kernel
theorem d_M_hint_42 : decode b_M_hint 42 = .ok (.iconst 1, 1) := by decide +kernel
theorem d_M_hint_43 : decode b_M_hint 43 = .ok (.istore_n 3, 1) := by decide +kernel
theorem d_M_hint_44 : decode b_M_hint 44 = .ok (.iload_n 3, 1) := by decide +kernel
theorem d_M_hint_45 : decode b_M_hint 45 = .ok (.aload_n 0, 1) := by decide +kernel
theorem d_M_hint_46 : decode b_M_hint 46 = .ok (.getfield 77, 3) := by decide +kernel
theorem d_M_hint_49 : decode b_M_hint 49 = .ok (.if_icmp .ge 39, 3) := by decide +kernel
theorem d_M_hint_52 : decode b_M_hint 52 = .ok (.iload_n 2, 1) := by decide +kernel
theorem d_M_hint_53 : decode b_M_hint 53 = .ok (.ifCond .eq 27, 3) := by decide +kernel
theorem d_M_hint_56 : decode b_M_hint 56 = .ok (.aload_n 0, 1) := by decide +kernel
theorem d_M_hint_57 : decode b_M_hint 57 = .ok (.getfield 40, 3) := by decide +kernel
theorem d_M_hint_60 : decode b_M_hint 60 = .ok (.bipush 26, 2) := by decide +kernel
theorem d_M_hint_62 : decode b_M_hint 62 = .ok (.iload_n 3, 1) := by decide +kernel
theorem d_M_hint_63 : decode b_M_hint 63 = .ok (.imul, 1) := by decide +kernel
theorem d_M_hint_64 : decode b_M_hint 64 = .ok (.iload_n 1, 1) := by decide +kernel
theorem d_M_hint_65 : decode b_M_hint 65 = .ok (.iadd, 1) := by decide +kernel
theorem d_M_hint_66 : decode b_M_hint 66 = .ok (.iaload, 1) := by decide +kernel
theorem d_M_hint_67 : decode b_M_hint 67 = .ok (.aload_n 0, 1) := by decide +kernel
theorem d_M_hint_68 : decode b_M_hint 68 = .ok (.getfield 40, 3) := by decide +kernel
theorem d_M_hint_71 : decode b_M_hint 71 = .ok (.iload_n 1, 1) := by decide +kernel
theorem d_M_hint_72 : decode b_M_hint 72 = .ok (.iaload, 1) := by decide +kernel
theorem d_M_hint_73 : decode b_M_hint 73 = .ok (.if_icmp .ne 7, 3) := by decide +kernel
theorem d_M_hint_76 : decode b_M_hint 76 = .ok (.iconst 1, 1) := by decide +kernel
theorem d_M_hint_77 : decode b_M_hint 77 = .ok (.goto 4, 3) := by decide +kernel
theorem d_M_hint_80 : decode b_M_hint 80 = .ok (.iconst 0, 1) := by decide +kernel
theorem d_M_hint_81 : decode b_M_hint 81 = .ok (.istore_n 2, 1) := by decide +kernel
theorem d_M_hint_82 : decode b_M_hint 82 = .ok (.iinc 3 1, 3) := by decide +kernel
theorem d_M_hint_85 : decode b_M_hint 85 = .ok (.goto (-41), 3) := by decide +kernel
theorem d_M_hint_88 : decode b_M_hint 88 = .ok (.iload_n 2, 1) := by decide +kernel
theorem d_M_hint_89 : decode b_M_hint 89 = .ok (.ifCond .ne 6, 3) := by decide +kernel
theorem d_M_hint_92 : decode b_M_hint 92 = .ok (.goto 17, 3) := by decide +kernel
theorem d_M_hint_95 : decode b_M_hint 95 = .ok (.aload_n 0, 1) := by decide +kernel
theorem d_M_hint_96 : decode b_M_hint 96 = .ok (.getfield 22, 3) := by decide +kernel
theorem d_M_hint_99 : decode b_M_hint 99 = .ok (.iload_n 1, 1) := by decide +kernel
theorem d_M_hint_100 : decode b_M_hint 100 = .ok (.aload_n 0, 1) := by decide +kernel
theorem d_M_hint_101 : decode b_M_hint 101 = .ok (.getfield 40, 3) := by decide +kernel
theorem d_M_hint_104 : decode b_M_hint 104 = .ok (.iload_n 1, 1) := by decide +kernel
theorem d_M_hint_105 : decode b_M_hint 105 = .ok (.iaload, 1) := by decide +kernel
theorem d_M_hint_106 : decode b_M_hint 106 = .ok (.iastore, 1) := by decide +kernel
theorem d_M_hint_107 : decode b_M_hint 107 = .ok (.iload_n 1, 1) := by decide +kernel
theorem d_M_hint_108 : decode b_M_hint 108 = .ok (.ireturn, 1) := by decide +kernel
theorem d_M_hint_109 : decode b_M_hint 109 = .ok (.iinc 1 1, 3) := by decide +kernel
theorem d_M_hint_112 : decode b_M_hint 112 = .ok (.goto (-105), 3) := by decide +kernel
theorem d_M_hint_115 : decode b_M_hint 115 = .ok (.iconst (-1), 1) := by decide +kernel
theorem d_M_hint_116 : decode b_M_hint 116 = .ok (.ireturn, 1) := by decide +kernel
theorem d_M_plain_0 : decode b_M_plain 0 = .ok (.aload_n 0, 1) := by decide +kernel
theorem d_M_plain_1 : decode b_M_plain 1 = .ok (.iconst 0, 1) := by decide +kernel
theorem d_M_plain_2 : decode b_M_plain 2 = .ok (.putfield 49, 3) := by decide +kernel
theorem d_M_plain_5 : decode b_M_plain 5 = .ok (.iload_n 1, 1) := by decide +kernel
theorem d_M_plain_6 : decode b_M_plain 6 = .ok (.invokestatic 53, 3) := by decide +kernel
theorem d_M_plain_9 : decode b_M_plain 9 = .ok (.ifCond .eq 12, 3) := by decide +kernel
theorem d_M_plain_12 : decode b_M_plain 12 = .ok (.aload_n 0, 1) := by decide +kernel
theorem d_M_plain_13 : decode b_M_plain 13 = .ok (.getfield 113, 3) := by decide +kernel
theorem d_M_plain_16 : decode b_M_plain 16 = .ok (.bipush 60, 2) := by decide +kernel
theorem d_M_plain_18 : decode b_M_plain 18 = .ok (.if_icmp .ne 5, 3) := by decide +kernel
theorem d_M_plain_21 : decode b_M_plain 21 = .ok (.iconst 0, 1) := by decide +kernel
theorem d_M_plain_22 : decode b_M_plain 22 = .ok (.ireturn, 1) := by decide +kernel
theorem d_M_plain_23 : decode b_M_plain 23 = .ok (.aload_n 0, 1) := by decide +kernel
theorem d_M_plain_24 : decode b_M_plain 24 = .ok (.getfield 43, 3) := by decide +kernel
theorem d_M_plain_27 : decode b_M_plain 27 = .ok (.aload_n 0, 1) := by decide +kernel
theorem d_M_plain_28 : decode b_M_plain 28 = .ok (.getfield 113, 3) := by decide +kernel
theorem d_M_plain_31 : decode b_M_plain 31 = .ok (.iload_n 1, 1) := by decide +kernel
theorem d_M_plain_32 : decode b_M_plain 32 = .ok (.iastore, 1) := by decide +kernel
theorem d_M_plain_33 : decode b_M_plain 33 = .ok (.aload_n 0, 1) := by decide +kernel
theorem d_M_plain_34 : decode b_M_plain 34 = .ok (.dup, 1) := by decide +kernel
theorem d_M_plain_35 : decode b_M_plain 35 = .ok (.getfield 113, 3) := by decide +kernel
theorem d_M_plain_38 : decode b_M_plain 38 = .ok (.iconst 1, 1) := by decide +kernel
theorem d_M_plain_39 : decode b_M_plain 39 = .ok (.iadd, 1) := by decide +kernel
theorem d_M_plain_40 : decode b_M_plain 40 = .ok (.putfield 113, 3) := by decide +kernel
theorem d_M_plain_43 : decode b_M_plain 43 = .ok (.iconst 1, 1) := by decide +kernel
theorem d_M_plain_44 : decode b_M_plain 44 = .ok (.ireturn, 1) := by decide +kernel
theorem d_M_shift_0 : decode b_M_shift 0 = .ok (.bipush 97, 2) := by decide +kernel
theorem d_M_shift_2 : decode b_M_shift 2 = .ok (.iload_n 0, 1) := by decide +kernel
theorem d_M_shift_3 : decode b_M_shift 3 = .ok (.bipush 97, 2) := by decide +kernel
theorem d_M_shift_5 : decode b_M_shift 5 = .ok (.isub, 1) := by decide +kernel
theorem d_M_shift_6 : decode b_M_shift 6 = .ok (.iload_n 1, 1) := by decide +kernel
theorem d_M_shift_7 : decode b_M_shift 7 = .ok (.bipush 26, 2) := by decide +kernel
theorem d_M_shift_9 : decode b_M_shift 9 = .ok (.irem, 1) := by decide +kernel
theorem d_M_shift_10 : decode b_M_shift 10 = .ok (.iadd, 1) := by decide +kernel
theorem d_M_shift_11 : decode b_M_shift 11 = .ok (.bipush 26, 2) := by decide +kernel
theorem d_M_shift_13 : decode b_M_shift 13 = .ok (.irem, 1) := by decide +kernel
theorem d_M_shift_14 : decode b_M_shift 14 = .ok (.bipush 26, 2) := by decide +kernel
theorem d_M_shift_16 : decode b_M_shift 16 = .ok (.iadd, 1) := by decide +kernel
theorem d_M_shift_17 : decode b_M_shift 17 = .ok (.bipush 26, 2) := by decide +kernel
theorem d_M_shift_19 : decode b_M_shift 19 = .ok (.irem, 1) := by decide +kernel
theorem d_M_shift_20 : decode b_M_shift 20 = .ok (.iadd, 1) := by decide +kernel
theorem d_M_shift_21 : decode b_M_shift 21 = .ok (.ireturn, 1) := by decide +kernel
theorem d_M_shifted_0 : decode b_M_shifted 0 = .ok (.aload_n 0, 1) := by decide +kernel
theorem d_M_shifted_1 : decode b_M_shifted 1 = .ok (.iconst 0, 1) := by decide +kernel
theorem d_M_shifted_2 : decode b_M_shifted 2 = .ok (.putfield 49, 3) := by decide +kernel
theorem d_M_shifted_5 : decode b_M_shifted 5 = .ok (.iload_n 2, 1) := by decide +kernel
theorem d_M_shifted_6 : decode b_M_shifted 6 = .ok (.ifCond .lt 11, 3) := by decide +kernel
theorem d_M_shifted_9 : decode b_M_shifted 9 = .ok (.iload_n 2, 1) := by decide +kernel
theorem d_M_shifted_10 : decode b_M_shifted 10 = .ok (.aload_n 0, 1) := by decide +kernel
theorem d_M_shifted_11 : decode b_M_shifted 11 = .ok (.getfield 113, 3) := by decide +kernel
theorem d_M_shifted_14 : decode b_M_shifted 14 = .ok (.if_icmp .lt 7, 3) := by decide +kernel
theorem d_M_shifted_17 : decode b_M_shifted 17 = .ok (.iconst (-1), 1) := by decide +kernel
theorem d_M_shifted_18 : decode b_M_shifted 18 = .ok (.goto 13, 3) := by decide +kernel
theorem d_M_shifted_21 : decode b_M_shifted 21 = .ok (.aload_n 0, 1) := by decide +kernel
theorem d_M_shifted_22 : decode b_M_shifted 22 = .ok (.getfield 43, 3) := by decide +kernel
theorem d_M_shifted_25 : decode b_M_shifted 25 = .ok (.iload_n 2, 1) := by decide +kernel
theorem d_M_shifted_26 : decode b_M_shifted 26 = .ok (.iaload, 1) := by decide +kernel
theorem d_M_shifted_27 : decode b_M_shifted 27 = .ok (.iload_n 1, 1) := by decide +kernel
theorem d_M_shifted_28 : decode b_M_shifted 28 = .ok (.invokestatic 116, 3) := by decide +kernel
theorem d_M_shifted_31 : decode b_M_shifted 31 = .ok (.ireturn, 1) := by decide +kernel
theorem d_M_bestShift_0 : decode b_M_bestShift 0 = .ok (.aload_n 0, 1) := by decide +kernel
theorem d_M_bestShift_1 : decode b_M_bestShift 1 = .ok (.iconst 0, 1) := by decide +kernel
theorem d_M_bestShift_2 : decode b_M_bestShift 2 = .ok (.putfield 49, 3) := by decide +kernel
theorem d_M_bestShift_5 : decode b_M_bestShift 5 = .ok (.iconst 0, 1) := by decide +kernel
theorem d_M_bestShift_6 : decode b_M_bestShift 6 = .ok (.istore_n 1, 1) := by decide +kernel
theorem d_M_bestShift_7 : decode b_M_bestShift 7 = .ok (.lconst 0, 1) := by decide +kernel
theorem d_M_bestShift_8 : decode b_M_bestShift 8 = .ok (.lstore_n 2, 1) := by decide +kernel
theorem d_M_bestShift_9 : decode b_M_bestShift 9 = .ok (.iconst 0, 1) := by decide +kernel
theorem d_M_bestShift_10 : decode b_M_bestShift 10 = .ok (.istore 4, 2) := by decide +kernel
theorem d_M_bestShift_12 : decode b_M_bestShift 12 = .ok (.iload 4, 2) := by decide +kernel
theorem d_M_bestShift_14 : decode b_M_bestShift 14 = .ok (.bipush 26, 2) := by decide +kernel
theorem d_M_bestShift_16 : decode b_M_bestShift 16 = .ok (.if_icmp .ge 87, 3) := by decide +kernel
theorem d_M_bestShift_19 : decode b_M_bestShift 19 = .ok (.lconst 0, 1) := by decide +kernel
theorem d_M_bestShift_20 : decode b_M_bestShift 20 = .ok (.lstore 5, 2) := by decide +kernel
theorem d_M_bestShift_22 : decode b_M_bestShift 22 = .ok (.iconst 1, 1) := by decide +kernel
theorem d_M_bestShift_23 : decode b_M_bestShift 23 = .ok (.istore 7, 2) := by decide +kernel
theorem d_M_bestShift_25 : decode b_M_bestShift 25 = .ok (.iload 7, 2) := by decide +kernel
theorem d_M_bestShift_27 : decode b_M_bestShift 27 = .ok (.aload_n 0, 1) := by decide +kernel
theorem d_M_bestShift_28 : decode b_M_bestShift 28 = .ok (.getfield 113, 3) := by decide +kernel
theorem d_M_bestShift_31 : decode b_M_bestShift 31 = .ok (.if_icmp .ge 45, 3) := by decide +kernel
theorem d_M_bestShift_34 : decode b_M_bestShift 34 = .ok (.lload 5, 2) := by decide +kernel
theorem d_M_bestShift_36 : decode b_M_bestShift 36 = .ok (.aload_n 0, 1) := by decide +kernel
theorem d_M_bestShift_37 : decode b_M_bestShift 37 = .ok (.aload_n 0, 1) := by decide +kernel
theorem d_M_bestShift_38 : decode b_M_bestShift 38 = .ok (.getfield 43, 3) := by decide +kernel
theorem d_M_bestShift_41 : decode b_M_bestShift 41 = .ok (.iload 7, 2) := by decide +kernel
theorem d_M_bestShift_43 : decode b_M_bestShift 43 = .ok (.iconst 1, 1) := by decide +kernel
theorem d_M_bestShift_44 : decode b_M_bestShift 44 = .ok (.isub, 1) := by decide +kernel
theorem d_M_bestShift_45 : decode b_M_bestShift 45 = .ok (.iaload, 1) := by decide +kernel
theorem d_M_bestShift_46 : decode b_M_bestShift 46 = .ok (.iload 4, 2) := by decide +kernel
theorem d_M_bestShift_48 : decode b_M_bestShift 48 = .ok (.invokestatic 116, 3) := by decide +kernel
theorem d_M_bestShift_51 : decode b_M_bestShift 51 = .ok (.aload_n 0, 1) := by decide +kernel
theorem d_M_bestShift_52 : decode b_M_bestShift 52 = .ok (.getfield 43, 3) := by decide +kernel
theorem d_M_bestShift_55 : decode b_M_bestShift 55 = .ok (.iload 7, 2) := by decide +kernel
theorem d_M_bestShift_57 : decode b_M_bestShift 57 = .ok (.iaload, 1) := by decide +kernel
theorem d_M_bestShift_58 : decode b_M_bestShift 58 = .ok (.iload 4, 2) := by decide +kernel
theorem d_M_bestShift_60 : decode b_M_bestShift 60 = .ok (.invokestatic 116, 3) := by decide +kernel
theorem d_M_bestShift_63 : decode b_M_bestShift 63 = .ok (.invokevirtual 106, 3) := by decide +kernel
theorem d_M_bestShift_66 : decode b_M_bestShift 66 = .ok (.i2l, 1) := by decide +kernel
theorem d_M_bestShift_67 : decode b_M_bestShift 67 = .ok (.ladd, 1) := by decide +kernel
theorem d_M_bestShift_68 : decode b_M_bestShift 68 = .ok (.lstore 5, 2) := by decide +kernel
theorem d_M_bestShift_70 : decode b_M_bestShift 70 = .ok (.iinc 7 1, 3) := by decide +kernel
theorem d_M_bestShift_73 : decode b_M_bestShift 73 = .ok (.goto (-48), 3) := by decide +kernel
theorem d_M_bestShift_76 : decode b_M_bestShift 76 = .ok (.iload 4, 2) := by decide +kernel
theorem d_M_bestShift_78 : decode b_M_bestShift 78 = .ok (.ifCond .le 13, 3) := by decide +kernel
theorem d_M_bestShift_81 : decode b_M_bestShift 81 = .ok (.lload 5, 2) := by decide +kernel
theorem d_M_bestShift_83 : decode b_M_bestShift 83 = .ok (.lload_n 2, 1) := by decide +kernel
theorem d_M_bestShift_84 : decode b_M_bestShift 84 = .ok (.lcmp, 1) := by decide +kernel
theorem d_M_bestShift_85 : decode b_M_bestShift 85 = .ok (.ifCond .gt 6, 3) := by decide +kernel
theorem d_M_bestShift_88 : decode b_M_bestShift 88 = .ok (.goto 9, 3) := by decide +kernel
theorem d_M_bestShift_91 : decode b_M_bestShift 91 = .ok (.iload 4, 2) := by decide +kernel
theorem d_M_bestShift_93 : decode b_M_bestShift 93 = .ok (.istore_n 1, 1) := by decide +kernel
theorem d_M_bestShift_94 : decode b_M_bestShift 94 = .ok (.lload 5, 2) := by decide +kernel
theorem d_M_bestShift_96 : decode b_M_bestShift 96 = .ok (.lstore_n 2, 1) := by decide +kernel
theorem d_M_bestShift_97 : decode b_M_bestShift 97 = .ok (.iinc 4 1, 3) := by decide +kernel
theorem d_M_bestShift_100 : decode b_M_bestShift 100 = .ok (.goto (-88), 3) := by decide +kernel
theorem d_M_bestShift_103 : decode b_M_bestShift 103 = .ok (.iload_n 1, 1) := by decide +kernel
theorem d_M_bestShift_104 : decode b_M_bestShift 104 = .ok (.ireturn, 1) := by decide +kernel
theorem d_M_keyed_0 : decode b_M_keyed 0 = .ok (.aload_n 0, 1) := by decide +kernel
theorem d_M_keyed_1 : decode b_M_keyed 1 = .ok (.iconst 0, 1) := by decide +kernel
theorem d_M_keyed_2 : decode b_M_keyed 2 = .ok (.putfield 49, 3) := by decide +kernel
theorem d_M_keyed_5 : decode b_M_keyed 5 = .ok (.iload_n 1, 1) := by decide +kernel
theorem d_M_keyed_6 : decode b_M_keyed 6 = .ok (.ifCond .lt 23, 3) := by decide +kernel
theorem d_M_keyed_9 : decode b_M_keyed 9 = .ok (.iload_n 1, 1) := by decide +kernel
theorem d_M_keyed_10 : decode b_M_keyed 10 = .ok (.aload_n 0, 1) := by decide +kernel
theorem d_M_keyed_11 : decode b_M_keyed 11 = .ok (.getfield 64, 3) := by decide +kernel
theorem d_M_keyed_14 : decode b_M_keyed 14 = .ok (.if_icmp .ge 15, 3) := by decide +kernel
theorem d_M_keyed_17 : decode b_M_keyed 17 = .ok (.iload_n 2, 1) := by decide +kernel
theorem d_M_keyed_18 : decode b_M_keyed 18 = .ok (.ifCond .lt 11, 3) := by decide +kernel
theorem d_M_keyed_21 : decode b_M_keyed 21 = .ok (.iload_n 2, 1) := by decide +kernel
theorem d_M_keyed_22 : decode b_M_keyed 22 = .ok (.aload_n 0, 1) := by decide +kernel
theorem d_M_keyed_23 : decode b_M_keyed 23 = .ok (.getfield 113, 3) := by decide +kernel
theorem d_M_keyed_26 : decode b_M_keyed 26 = .ok (.if_icmp .lt 5, 3) := by decide +kernel
theorem d_M_keyed_29 : decode b_M_keyed 29 = .ok (.iconst (-1), 1) := by decide +kernel
theorem d_M_keyed_30 : decode b_M_keyed 30 = .ok (.ireturn, 1) := by decide +kernel
theorem d_M_keyed_31 : decode b_M_keyed 31 = .ok (.aload_n 0, 1) := by decide +kernel
theorem d_M_keyed_32 : decode b_M_keyed 32 = .ok (.getfield 43, 3) := by decide +kernel
theorem d_M_keyed_35 : decode b_M_keyed 35 = .ok (.iload_n 2, 1) := by decide +kernel
theorem d_M_keyed_36 : decode b_M_keyed 36 = .ok (.iaload, 1) := by decide +kernel
theorem d_M_keyed_37 : decode b_M_keyed 37 = .ok (.aload_n 0, 1) := by decide +kernel
theorem d_M_keyed_38 : decode b_M_keyed 38 = .ok (.iload_n 1, 1) := by decide +kernel
theorem d_M_keyed_39 : decode b_M_keyed 39 = .ok (.iload_n 2, 1) := by decide +kernel
theorem d_M_keyed_40 : decode b_M_keyed 40 = .ok (.aload_n 0, 1) := by decide +kernel
theorem d_M_keyed_41 : decode b_M_keyed 41 = .ok (.getfield 13, 3) := by decide +kernel
theorem d_M_keyed_44 : decode b_M_keyed 44 = .ok (.iload_n 1, 1) := by decide +kernel
theorem d_M_keyed_45 : decode b_M_keyed 45 = .ok (.iaload, 1) := by decide +kernel
theorem d_M_keyed_46 : decode b_M_keyed 46 = .ok (.irem, 1) := by decide +kernel
theorem d_M_keyed_47 : decode b_M_keyed 47 = .ok (.invokevirtual 60, 3) := by decide +kernel
theorem d_M_keyed_50 : decode b_M_keyed 50 = .ok (.bipush 97, 2) := by decide +kernel
theorem d_M_keyed_52 : decode b_M_keyed 52 = .ok (.isub, 1) := by decide +kernel
theorem d_M_keyed_53 : decode b_M_keyed 53 = .ok (.invokestatic 116, 3) := by decide +kernel
theorem d_M_keyed_56 : decode b_M_keyed 56 = .ok (.ireturn, 1) := by decide +kernel
theorem d_M_stands_0 : decode b_M_stands 0 = .ok (.iload_n 2, 1) := by decide +kernel
theorem d_M_stands_1 : decode b_M_stands 1 = .ok (.aload_n 0, 1) := by decide +kernel
theorem d_M_stands_2 : decode b_M_stands 2 = .ok (.getfield 13, 3) := by decide +kernel
theorem d_M_stands_5 : decode b_M_stands 5 = .ok (.iload_n 1, 1) := by decide +kernel
theorem d_M_stands_6 : decode b_M_stands 6 = .ok (.iaload, 1) := by decide +kernel
theorem d_M_stands_7 : decode b_M_stands 7 = .ok (.iadd, 1) := by decide +kernel
theorem d_M_stands_8 : decode b_M_stands 8 = .ok (.aload_n 0, 1) := by decide +kernel
theorem d_M_stands_9 : decode b_M_stands 9 = .ok (.getfield 113, 3) := by decide +kernel
theorem d_M_stands_12 : decode b_M_stands 12 = .ok (.if_icmp .le 5, 3) := by decide +kernel
theorem d_M_stands_15 : decode b_M_stands 15 = .ok (.iconst 0, 1) := by decide +kernel
theorem d_M_stands_16 : decode b_M_stands 16 = .ok (.ireturn, 1) := by decide +kernel
theorem d_M_stands_17 : decode b_M_stands 17 = .ok (.iconst 0, 1) := by decide +kernel
theorem d_M_stands_18 : decode b_M_stands 18 = .ok (.istore_n 3, 1) := by decide +kernel
theorem d_M_stands_19 : decode b_M_stands 19 = .ok (.iload_n 3, 1) := by decide +kernel
theorem d_M_stands_20 : decode b_M_stands 20 = .ok (.aload_n 0, 1) := by decide +kernel
theorem d_M_stands_21 : decode b_M_stands 21 = .ok (.getfield 13, 3) := by decide +kernel
theorem d_M_stands_24 : decode b_M_stands 24 = .ok (.iload_n 1, 1) := by decide +kernel
theorem d_M_stands_25 : decode b_M_stands 25 = .ok (.iaload, 1) := by decide +kernel
theorem d_M_stands_26 : decode b_M_stands 26 = .ok (.if_icmp .ge 28, 3) := by decide +kernel
theorem d_M_stands_29 : decode b_M_stands 29 = .ok (.aload_n 0, 1) := by decide +kernel
theorem d_M_stands_30 : decode b_M_stands 30 = .ok (.getfield 43, 3) := by decide +kernel
theorem d_M_stands_33 : decode b_M_stands 33 = .ok (.iload_n 2, 1) := by decide +kernel
theorem d_M_stands_34 : decode b_M_stands 34 = .ok (.iload_n 3, 1) := by decide +kernel
theorem d_M_stands_35 : decode b_M_stands 35 = .ok (.iadd, 1) := by decide +kernel
theorem d_M_stands_36 : decode b_M_stands 36 = .ok (.iaload, 1) := by decide +kernel
theorem d_M_stands_37 : decode b_M_stands 37 = .ok (.aload_n 0, 1) := by decide +kernel
theorem d_M_stands_38 : decode b_M_stands 38 = .ok (.iload_n 1, 1) := by decide +kernel
theorem d_M_stands_39 : decode b_M_stands 39 = .ok (.iload_n 3, 1) := by decide +kernel
theorem d_M_stands_40 : decode b_M_stands 40 = .ok (.invokevirtual 60, 3) := by decide +kernel
theorem d_M_stands_43 : decode b_M_stands 43 = .ok (.if_icmp .eq 5, 3) := by decide +kernel
theorem d_M_stands_46 : decode b_M_stands 46 = .ok (.iconst 0, 1) := by decide +kernel
theorem d_M_stands_47 : decode b_M_stands 47 = .ok (.ireturn, 1) := by decide +kernel
theorem d_M_stands_48 : decode b_M_stands 48 = .ok (.iinc 3 1, 3) := by decide +kernel
theorem d_M_stands_51 : decode b_M_stands 51 = .ok (.goto (-32), 3) := by decide +kernel
theorem d_M_stands_54 : decode b_M_stands 54 = .ok (.iconst 1, 1) := by decide +kernel
theorem d_M_stands_55 : decode b_M_stands 55 = .ok (.ireturn, 1) := by decide +kernel
theorem d_M_reckon_0 : decode b_M_reckon 0 = .ok (.aload_n 0, 1) := by decide +kernel
theorem d_M_reckon_1 : decode b_M_reckon 1 = .ok (.getfield 46, 3) := by decide +kernel
theorem d_M_reckon_4 : decode b_M_reckon 4 = .ok (.aload_n 0, 1) := by decide +kernel
theorem d_M_reckon_5 : decode b_M_reckon 5 = .ok (.getfield 113, 3) := by decide +kernel
theorem d_M_reckon_8 : decode b_M_reckon 8 = .ok (.iconst 0, 1) := by decide +kernel
theorem d_M_reckon_9 : decode b_M_reckon 9 = .ok (.iastore, 1) := by decide +kernel
theorem d_M_reckon_10 : decode b_M_reckon 10 = .ok (.aload_n 0, 1) := by decide +kernel
theorem d_M_reckon_11 : decode b_M_reckon 11 = .ok (.getfield 113, 3) := by decide +kernel
theorem d_M_reckon_14 : decode b_M_reckon 14 = .ok (.iconst 1, 1) := by decide +kernel
theorem d_M_reckon_15 : decode b_M_reckon 15 = .ok (.isub, 1) := by decide +kernel
theorem d_M_reckon_16 : decode b_M_reckon 16 = .ok (.istore_n 1, 1) := by decide +kernel
theorem d_M_reckon_17 : decode b_M_reckon 17 = .ok (.iload_n 1, 1) := by decide +kernel
theorem d_M_reckon_18 : decode b_M_reckon 18 = .ok (.ifCond .lt 111, 3) := by decide +kernel
theorem d_M_reckon_21 : decode b_M_reckon 21 = .ok (.aload_n 0, 1) := by decide +kernel
theorem d_M_reckon_22 : decode b_M_reckon 22 = .ok (.getfield 46, 3) := by decide +kernel
theorem d_M_reckon_25 : decode b_M_reckon 25 = .ok (.iload_n 1, 1) := by decide +kernel
theorem d_M_reckon_26 : decode b_M_reckon 26 = .ok (.iconst (-1), 1) := by decide +kernel
theorem d_M_reckon_27 : decode b_M_reckon 27 = .ok (.iastore, 1) := by decide +kernel
theorem d_M_reckon_28 : decode b_M_reckon 28 = .ok (.iconst 0, 1) := by decide +kernel
theorem d_M_reckon_29 : decode b_M_reckon 29 = .ok (.istore_n 2, 1) := by decide +kernel
theorem d_M_reckon_30 : decode b_M_reckon 30 = .ok (.iload_n 2, 1) := by decide +kernel
theorem d_M_reckon_31 : decode b_M_reckon 31 = .ok (.aload_n 0, 1) := by decide +kernel
theorem d_M_reckon_32 : decode b_M_reckon 32 = .ok (.getfield 64, 3) := by decide +kernel
theorem d_M_reckon_35 : decode b_M_reckon 35 = .ok (.if_icmp .ge 88, 3) := by decide +kernel
theorem d_M_reckon_38 : decode b_M_reckon 38 = .ok (.aload_n 0, 1) := by decide +kernel
theorem d_M_reckon_39 : decode b_M_reckon 39 = .ok (.iload_n 2, 1) := by decide +kernel
theorem d_M_reckon_40 : decode b_M_reckon 40 = .ok (.iload_n 1, 1) := by decide +kernel
theorem d_M_reckon_41 : decode b_M_reckon 41 = .ok (.invokevirtual 119, 3) := by decide +kernel
theorem d_M_reckon_44 : decode b_M_reckon 44 = .ok (.ifCond .eq 73, 3) := by decide +kernel
theorem d_M_reckon_47 : decode b_M_reckon 47 = .ok (.aload_n 0, 1) := by decide +kernel
theorem d_M_reckon_48 : decode b_M_reckon 48 = .ok (.getfield 46, 3) := by decide +kernel
theorem d_M_reckon_51 : decode b_M_reckon 51 = .ok (.iload_n 1, 1) := by decide +kernel
theorem d_M_reckon_52 : decode b_M_reckon 52 = .ok (.aload_n 0, 1) := by decide +kernel
theorem d_M_reckon_53 : decode b_M_reckon 53 = .ok (.getfield 13, 3) := by decide +kernel
theorem d_M_reckon_56 : decode b_M_reckon 56 = .ok (.iload_n 2, 1) := by decide +kernel
theorem d_M_reckon_57 : decode b_M_reckon 57 = .ok (.iaload, 1) := by decide +kernel
theorem d_M_reckon_58 : decode b_M_reckon 58 = .ok (.iadd, 1) := by decide +kernel
theorem d_M_reckon_59 : decode b_M_reckon 59 = .ok (.iaload, 1) := by decide +kernel
theorem d_M_reckon_60 : decode b_M_reckon 60 = .ok (.ifCond .ge 6, 3) := by decide +kernel
theorem d_M_reckon_63 : decode b_M_reckon 63 = .ok (.goto 54, 3) := by decide +kernel
theorem d_M_reckon_66 : decode b_M_reckon 66 = .ok (.aload_n 0, 1) := by decide +kernel
theorem d_M_reckon_67 : decode b_M_reckon 67 = .ok (.getfield 46, 3) := by decide +kernel
theorem d_M_reckon_70 : decode b_M_reckon 70 = .ok (.iload_n 1, 1) := by decide +kernel
theorem d_M_reckon_71 : decode b_M_reckon 71 = .ok (.aload_n 0, 1) := by decide +kernel
theorem d_M_reckon_72 : decode b_M_reckon 72 = .ok (.getfield 13, 3) := by decide +kernel
theorem d_M_reckon_75 : decode b_M_reckon 75 = .ok (.iload_n 2, 1) := by decide +kernel
theorem d_M_reckon_76 : decode b_M_reckon 76 = .ok (.iaload, 1) := by decide +kernel
theorem d_M_reckon_77 : decode b_M_reckon 77 = .ok (.iadd, 1) := by decide +kernel
theorem d_M_reckon_78 : decode b_M_reckon 78 = .ok (.iaload, 1) := by decide +kernel
theorem d_M_reckon_79 : decode b_M_reckon 79 = .ok (.iconst 1, 1) := by decide +kernel
theorem d_M_reckon_80 : decode b_M_reckon 80 = .ok (.iadd, 1) := by decide +kernel
theorem d_M_reckon_81 : decode b_M_reckon 81 = .ok (.istore_n 3, 1) := by decide +kernel
theorem d_M_reckon_82 : decode b_M_reckon 82 = .ok (.aload_n 0, 1) := by decide +kernel
theorem d_M_reckon_83 : decode b_M_reckon 83 = .ok (.getfield 46, 3) := by decide +kernel
theorem d_M_reckon_86 : decode b_M_reckon 86 = .ok (.iload_n 1, 1) := by decide +kernel
theorem d_M_reckon_87 : decode b_M_reckon 87 = .ok (.aload_n 0, 1) := by decide +kernel
theorem d_M_reckon_88 : decode b_M_reckon 88 = .ok (.getfield 46, 3) := by decide +kernel
theorem d_M_reckon_91 : decode b_M_reckon 91 = .ok (.iload_n 1, 1) := by decide +kernel
theorem d_M_reckon_92 : decode b_M_reckon 92 = .ok (.iaload, 1) := by decide +kernel
theorem d_M_reckon_93 : decode b_M_reckon 93 = .ok (.ifCond .lt 13, 3) := by decide +kernel
theorem d_M_reckon_96 : decode b_M_reckon 96 = .ok (.iload_n 3, 1) := by decide +kernel
theorem d_M_reckon_97 : decode b_M_reckon 97 = .ok (.aload_n 0, 1) := by decide +kernel
theorem d_M_reckon_98 : decode b_M_reckon 98 = .ok (.getfield 46, 3) := by decide +kernel
theorem d_M_reckon_101 : decode b_M_reckon 101 = .ok (.iload_n 1, 1) := by decide +kernel
theorem d_M_reckon_102 : decode b_M_reckon 102 = .ok (.iaload, 1) := by decide +kernel
theorem d_M_reckon_103 : decode b_M_reckon 103 = .ok (.if_icmp .ge 7, 3) := by decide +kernel
theorem d_M_reckon_106 : decode b_M_reckon 106 = .ok (.iload_n 3, 1) := by decide +kernel
theorem d_M_reckon_107 : decode b_M_reckon 107 = .ok (.goto 9, 3) := by decide +kernel
theorem d_M_reckon_110 : decode b_M_reckon 110 = .ok (.aload_n 0, 1) := by decide +kernel
theorem d_M_reckon_111 : decode b_M_reckon 111 = .ok (.getfield 46, 3) := by decide +kernel
theorem d_M_reckon_114 : decode b_M_reckon 114 = .ok (.iload_n 1, 1) := by decide +kernel
theorem d_M_reckon_115 : decode b_M_reckon 115 = .ok (.iaload, 1) := by decide +kernel
theorem d_M_reckon_116 : decode b_M_reckon 116 = .ok (.iastore, 1) := by decide +kernel
theorem d_M_reckon_117 : decode b_M_reckon 117 = .ok (.iinc 2 1, 3) := by decide +kernel
theorem d_M_reckon_120 : decode b_M_reckon 120 = .ok (.goto (-90), 3) := by decide +kernel
theorem d_M_reckon_123 : decode b_M_reckon 123 = .ok (.iinc 1 (-1), 3) := by decide +kernel
theorem d_M_reckon_126 : decode b_M_reckon 126 = .ok (.goto (-109), 3) := by decide +kernel
theorem d_M_reckon_129 : decode b_M_reckon 129 = .ok (.return_, 1) := by decide +kernel
theorem d_M_breaks_0 : decode b_M_breaks 0 = .ok (.aload_n 0, 1) := by decide +kernel
theorem d_M_breaks_1 : decode b_M_breaks 1 = .ok (.iconst 0, 1) := by decide +kernel
theorem d_M_breaks_2 : decode b_M_breaks 2 = .ok (.putfield 49, 3) := by decide +kernel
theorem d_M_breaks_5 : decode b_M_breaks 5 = .ok (.aload_n 0, 1) := by decide +kernel
theorem d_M_breaks_6 : decode b_M_breaks 6 = .ok (.invokevirtual 122, 3) := by decide +kernel
theorem d_M_breaks_9 : decode b_M_breaks 9 = .ok (.aload_n 0, 1) := by decide +kernel
theorem d_M_breaks_10 : decode b_M_breaks 10 = .ok (.getfield 46, 3) := by decide +kernel
theorem d_M_breaks_13 : decode b_M_breaks 13 = .ok (.iconst 0, 1) := by decide +kernel
theorem d_M_breaks_14 : decode b_M_breaks 14 = .ok (.iaload, 1) := by decide +kernel
theorem d_M_breaks_15 : decode b_M_breaks 15 = .ok (.ireturn, 1) := by decide +kernel
theorem d_M_breakAt_0 : decode b_M_breakAt 0 = .ok (.aload_n 0, 1) := by decide +kernel
theorem d_M_breakAt_1 : decode b_M_breakAt 1 = .ok (.iconst 0, 1) := by decide +kernel
theorem d_M_breakAt_2 : decode b_M_breakAt 2 = .ok (.putfield 49, 3) := by decide +kernel
theorem d_M_breakAt_5 : decode b_M_breakAt 5 = .ok (.aload_n 0, 1) := by decide +kernel
theorem d_M_breakAt_6 : decode b_M_breakAt 6 = .ok (.invokevirtual 122, 3) := by decide +kernel
theorem d_M_breakAt_9 : decode b_M_breakAt 9 = .ok (.iload_n 1, 1) := by decide +kernel
theorem d_M_breakAt_10 : decode b_M_breakAt 10 = .ok (.ifCond .lt 13, 3) := by decide +kernel
theorem d_M_breakAt_13 : decode b_M_breakAt 13 = .ok (.iload_n 1, 1) := by decide +kernel
theorem d_M_breakAt_14 : decode b_M_breakAt 14 = .ok (.aload_n 0, 1) := by decide +kernel
theorem d_M_breakAt_15 : decode b_M_breakAt 15 = .ok (.getfield 46, 3) := by decide +kernel
theorem d_M_breakAt_18 : decode b_M_breakAt 18 = .ok (.iconst 0, 1) := by decide +kernel
theorem d_M_breakAt_19 : decode b_M_breakAt 19 = .ok (.iaload, 1) := by decide +kernel
theorem d_M_breakAt_20 : decode b_M_breakAt 20 = .ok (.if_icmp .lt 5, 3) := by decide +kernel
theorem d_M_breakAt_23 : decode b_M_breakAt 23 = .ok (.iconst (-1), 1) := by decide +kernel
theorem d_M_breakAt_24 : decode b_M_breakAt 24 = .ok (.ireturn, 1) := by decide +kernel
theorem d_M_breakAt_25 : decode b_M_breakAt 25 = .ok (.iconst 0, 1) := by decide +kernel
theorem d_M_breakAt_26 : decode b_M_breakAt 26 = .ok (.istore_n 2, 1) := by decide +kernel
theorem d_M_breakAt_27 : decode b_M_breakAt 27 = .ok (.iconst 0, 1) := by decide +kernel
theorem d_M_breakAt_28 : decode b_M_breakAt 28 = .ok (.istore_n 3, 1) := by decide +kernel
theorem d_M_breakAt_29 : decode b_M_breakAt 29 = .ok (.iconst 0, 1) := by decide +kernel
theorem d_M_breakAt_30 : decode b_M_breakAt 30 = .ok (.istore 4, 2) := by decide +kernel
theorem d_M_breakAt_32 : decode b_M_breakAt 32 = .ok (.iload 4, 2) := by decide +kernel
theorem d_M_breakAt_34 : decode b_M_breakAt 34 = .ok (.iload_n 1, 1) := by decide +kernel
theorem d_M_breakAt_35 : decode b_M_breakAt 35 = .ok (.if_icmp .gt 59, 3) := by decide +kernel
theorem d_M_breakAt_38 : decode b_M_breakAt 38 = .ok (.iconst 0, 1) := by decide +kernel
theorem d_M_breakAt_39 : decode b_M_breakAt 39 = .ok (.istore_n 3, 1) := by decide +kernel
theorem d_M_breakAt_40 : decode b_M_breakAt 40 = .ok (.aload_n 0, 1) := by decide +kernel
theorem d_M_breakAt_41 : decode b_M_breakAt 41 = .ok (.iload_n 3, 1) := by decide +kernel
theorem d_M_breakAt_42 : decode b_M_breakAt 42 = .ok (.iload_n 2, 1) := by decide +kernel
theorem d_M_breakAt_43 : decode b_M_breakAt 43 = .ok (.invokevirtual 119, 3) := by decide +kernel
theorem d_M_breakAt_46 : decode b_M_breakAt 46 = .ok (.ifCond .eq 27, 3) := by decide +kernel
theorem d_M_breakAt_49 : decode b_M_breakAt 49 = .ok (.aload_n 0, 1) := by decide +kernel
theorem d_M_breakAt_50 : decode b_M_breakAt 50 = .ok (.getfield 46, 3) := by decide +kernel
theorem d_M_breakAt_53 : decode b_M_breakAt 53 = .ok (.iload_n 2, 1) := by decide +kernel
theorem d_M_breakAt_54 : decode b_M_breakAt 54 = .ok (.aload_n 0, 1) := by decide +kernel
theorem d_M_breakAt_55 : decode b_M_breakAt 55 = .ok (.getfield 13, 3) := by decide +kernel
theorem d_M_breakAt_58 : decode b_M_breakAt 58 = .ok (.iload_n 3, 1) := by decide +kernel
theorem d_M_breakAt_59 : decode b_M_breakAt 59 = .ok (.iaload, 1) := by decide +kernel
theorem d_M_breakAt_60 : decode b_M_breakAt 60 = .ok (.iadd, 1) := by decide +kernel
theorem d_M_breakAt_61 : decode b_M_breakAt 61 = .ok (.iaload, 1) := by decide +kernel
theorem d_M_breakAt_62 : decode b_M_breakAt 62 = .ok (.aload_n 0, 1) := by decide +kernel
theorem d_M_breakAt_63 : decode b_M_breakAt 63 = .ok (.getfield 46, 3) := by decide +kernel
theorem d_M_breakAt_66 : decode b_M_breakAt 66 = .ok (.iload_n 2, 1) := by decide +kernel
theorem d_M_breakAt_67 : decode b_M_breakAt 67 = .ok (.iaload, 1) := by decide +kernel
theorem d_M_breakAt_68 : decode b_M_breakAt 68 = .ok (.iconst 1, 1) := by decide +kernel
theorem d_M_breakAt_69 : decode b_M_breakAt 69 = .ok (.isub, 1) := by decide +kernel
theorem d_M_breakAt_70 : decode b_M_breakAt 70 = .ok (.if_icmp .eq 9, 3) := by decide +kernel
theorem d_M_breakAt_73 : decode b_M_breakAt 73 = .ok (.iinc 3 1, 3) := by decide +kernel
theorem d_M_breakAt_76 : decode b_M_breakAt 76 = .ok (.goto (-36), 3) := by decide +kernel
theorem d_M_breakAt_79 : decode b_M_breakAt 79 = .ok (.iload_n 2, 1) := by decide +kernel
theorem d_M_breakAt_80 : decode b_M_breakAt 80 = .ok (.aload_n 0, 1) := by decide +kernel
theorem d_M_breakAt_81 : decode b_M_breakAt 81 = .ok (.getfield 13, 3) := by decide +kernel
theorem d_M_breakAt_84 : decode b_M_breakAt 84 = .ok (.iload_n 3, 1) := by decide +kernel
theorem d_M_breakAt_85 : decode b_M_breakAt 85 = .ok (.iaload, 1) := by decide +kernel
theorem d_M_breakAt_86 : decode b_M_breakAt 86 = .ok (.iadd, 1) := by decide +kernel
theorem d_M_breakAt_87 : decode b_M_breakAt 87 = .ok (.istore_n 2, 1) := by decide +kernel
theorem d_M_breakAt_88 : decode b_M_breakAt 88 = .ok (.iinc 4 1, 3) := by decide +kernel
theorem d_M_breakAt_91 : decode b_M_breakAt 91 = .ok (.goto (-59), 3) := by decide +kernel
theorem d_M_breakAt_94 : decode b_M_breakAt 94 = .ok (.iload_n 3, 1) := by decide +kernel
theorem d_M_breakAt_95 : decode b_M_breakAt 95 = .ok (.ireturn, 1) := by decide +kernel
theorem d_M_clear_0 : decode b_M_clear 0 = .ok (.aload_n 0, 1) := by decide +kernel
theorem d_M_clear_1 : decode b_M_clear 1 = .ok (.iconst 0, 1) := by decide +kernel
theorem d_M_clear_2 : decode b_M_clear 2 = .ok (.putfield 49, 3) := by decide +kernel
theorem d_M_clear_5 : decode b_M_clear 5 = .ok (.aload_n 0, 1) := by decide +kernel
theorem d_M_clear_6 : decode b_M_clear 6 = .ok (.iconst 0, 1) := by decide +kernel
theorem d_M_clear_7 : decode b_M_clear 7 = .ok (.putfield 74, 3) := by decide +kernel
theorem d_M_clear_10 : decode b_M_clear 10 = .ok (.aload_n 0, 1) := by decide +kernel
theorem d_M_clear_11 : decode b_M_clear 11 = .ok (.iconst 0, 1) := by decide +kernel
theorem d_M_clear_12 : decode b_M_clear 12 = .ok (.putfield 113, 3) := by decide +kernel
theorem d_M_clear_15 : decode b_M_clear 15 = .ok (.aload_n 0, 1) := by decide +kernel
theorem d_M_clear_16 : decode b_M_clear 16 = .ok (.iconst 0, 1) := by decide +kernel
theorem d_M_clear_17 : decode b_M_clear 17 = .ok (.putfield 77, 3) := by decide +kernel
theorem d_M_clear_20 : decode b_M_clear 20 = .ok (.iconst 0, 1) := by decide +kernel
theorem d_M_clear_21 : decode b_M_clear 21 = .ok (.istore_n 1, 1) := by decide +kernel
theorem d_M_clear_22 : decode b_M_clear 22 = .ok (.iload_n 1, 1) := by decide +kernel
theorem d_M_clear_23 : decode b_M_clear 23 = .ok (.bipush 26, 2) := by decide +kernel
theorem d_M_clear_25 : decode b_M_clear 25 = .ok (.if_icmp .ge 16, 3) := by decide +kernel
theorem d_M_clear_28 : decode b_M_clear 28 = .ok (.aload_n 0, 1) := by decide +kernel
theorem d_M_clear_29 : decode b_M_clear 29 = .ok (.getfield 22, 3) := by decide +kernel
theorem d_M_clear_32 : decode b_M_clear 32 = .ok (.iload_n 1, 1) := by decide +kernel
theorem d_M_clear_33 : decode b_M_clear 33 = .ok (.iconst 0, 1) := by decide +kernel
theorem d_M_clear_34 : decode b_M_clear 34 = .ok (.iastore, 1) := by decide +kernel
theorem d_M_clear_35 : decode b_M_clear 35 = .ok (.iinc 1 1, 3) := by decide +kernel
theorem d_M_clear_38 : decode b_M_clear 38 = .ok (.goto (-16), 3) := by decide +kernel
theorem d_M_clear_41 : decode b_M_clear 41 = .ok (.return_, 1) := by decide +kernel
