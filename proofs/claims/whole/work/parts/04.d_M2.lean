theorem d_M_fits_23 : decode b_M_fits 23 = .ok (.iload_n 2, 1) := by decide +kernel
theorem d_M_fits_24 : decode b_M_fits 24 = .ok (.bipush 26, 2) := by decide +kernel
theorem d_M_fits_26 : decode b_M_fits 26 = .ok (.if_icmp .ge 42, 3) := by decide +kernel
theorem d_M_fits_29 : decode b_M_fits 29 = .ok (.aload_n 0, 1) := by decide +kernel
theorem d_M_fits_30 : decode b_M_fits 30 = .ok (.getfield 22, 3) := by decide +kernel
theorem d_M_fits_33 : decode b_M_fits 33 = .ok (.iload_n 2, 1) := by decide +kernel
theorem d_M_fits_34 : decode b_M_fits 34 = .ok (.iaload, 1) := by decide +kernel
theorem d_M_fits_35 : decode b_M_fits 35 = .ok (.ifCond .eq 27, 3) := by decide +kernel
theorem d_M_fits_38 : decode b_M_fits 38 = .ok (.aload_n 0, 1) := by decide +kernel
theorem d_M_fits_39 : decode b_M_fits 39 = .ok (.iload_n 2, 1) := by decide +kernel
theorem d_M_fits_40 : decode b_M_fits 40 = .ok (.invokevirtual 86, 3) := by decide +kernel
theorem d_M_fits_43 : decode b_M_fits 43 = .ok (.ifCond .eq 19, 3) := by decide +kernel
theorem d_M_fits_46 : decode b_M_fits 46 = .ok (.aload_n 0, 1) := by decide +kernel
theorem d_M_fits_47 : decode b_M_fits 47 = .ok (.iload_n 2, 1) := by decide +kernel
theorem d_M_fits_48 : decode b_M_fits 48 = .ok (.aload_n 0, 1) := by decide +kernel
theorem d_M_fits_49 : decode b_M_fits 49 = .ok (.getfield 22, 3) := by decide +kernel
theorem d_M_fits_52 : decode b_M_fits 52 = .ok (.iload_n 2, 1) := by decide +kernel
theorem d_M_fits_53 : decode b_M_fits 53 = .ok (.iaload, 1) := by decide +kernel
theorem d_M_fits_54 : decode b_M_fits 54 = .ok (.invokevirtual 89, 3) := by decide +kernel
theorem d_M_fits_57 : decode b_M_fits 57 = .ok (.ifCond .ne 5, 3) := by decide +kernel
theorem d_M_fits_60 : decode b_M_fits 60 = .ok (.iconst 0, 1) := by decide +kernel
theorem d_M_fits_61 : decode b_M_fits 61 = .ok (.ireturn, 1) := by decide +kernel
theorem d_M_fits_62 : decode b_M_fits 62 = .ok (.iinc 2 1, 3) := by decide +kernel
theorem d_M_fits_65 : decode b_M_fits 65 = .ok (.goto (-42), 3) := by decide +kernel
theorem d_M_fits_68 : decode b_M_fits 68 = .ok (.iconst 0, 1) := by decide +kernel
theorem d_M_fits_69 : decode b_M_fits 69 = .ok (.istore_n 2, 1) := by decide +kernel
theorem d_M_fits_70 : decode b_M_fits 70 = .ok (.iload_n 2, 1) := by decide +kernel
theorem d_M_fits_71 : decode b_M_fits 71 = .ok (.iload_n 1, 1) := by decide +kernel
theorem d_M_fits_72 : decode b_M_fits 72 = .ok (.if_icmp .ge 60, 3) := by decide +kernel
theorem d_M_fits_75 : decode b_M_fits 75 = .ok (.iconst 0, 1) := by decide +kernel
theorem d_M_fits_76 : decode b_M_fits 76 = .ok (.istore_n 3, 1) := by decide +kernel
theorem d_M_fits_77 : decode b_M_fits 77 = .ok (.iload_n 3, 1) := by decide +kernel
theorem d_M_fits_78 : decode b_M_fits 78 = .ok (.aload_n 0, 1) := by decide +kernel
theorem d_M_fits_79 : decode b_M_fits 79 = .ok (.getfield 31, 3) := by decide +kernel
theorem d_M_fits_82 : decode b_M_fits 82 = .ok (.iload_n 2, 1) := by decide +kernel
theorem d_M_fits_83 : decode b_M_fits 83 = .ok (.iaload, 1) := by decide +kernel
theorem d_M_fits_84 : decode b_M_fits 84 = .ok (.if_icmp .ge 42, 3) := by decide +kernel
theorem d_M_fits_87 : decode b_M_fits 87 = .ok (.aload_n 0, 1) := by decide +kernel
theorem d_M_fits_88 : decode b_M_fits 88 = .ok (.aload_n 0, 1) := by decide +kernel
theorem d_M_fits_89 : decode b_M_fits 89 = .ok (.getfield 19, 3) := by decide +kernel
theorem d_M_fits_92 : decode b_M_fits 92 = .ok (.aload_n 0, 1) := by decide +kernel
theorem d_M_fits_93 : decode b_M_fits 93 = .ok (.getfield 28, 3) := by decide +kernel
theorem d_M_fits_96 : decode b_M_fits 96 = .ok (.iload_n 2, 1) := by decide +kernel
theorem d_M_fits_97 : decode b_M_fits 97 = .ok (.iaload, 1) := by decide +kernel
theorem d_M_fits_98 : decode b_M_fits 98 = .ok (.iload_n 3, 1) := by decide +kernel
theorem d_M_fits_99 : decode b_M_fits 99 = .ok (.iadd, 1) := by decide +kernel
theorem d_M_fits_100 : decode b_M_fits 100 = .ok (.iaload, 1) := by decide +kernel
theorem d_M_fits_101 : decode b_M_fits 101 = .ok (.aload_n 0, 1) := by decide +kernel
theorem d_M_fits_102 : decode b_M_fits 102 = .ok (.aload_n 0, 1) := by decide +kernel
theorem d_M_fits_103 : decode b_M_fits 103 = .ok (.getfield 34, 3) := by decide +kernel
theorem d_M_fits_106 : decode b_M_fits 106 = .ok (.iload_n 2, 1) := by decide +kernel
theorem d_M_fits_107 : decode b_M_fits 107 = .ok (.iaload, 1) := by decide +kernel
theorem d_M_fits_108 : decode b_M_fits 108 = .ok (.iload_n 3, 1) := by decide +kernel
theorem d_M_fits_109 : decode b_M_fits 109 = .ok (.invokevirtual 60, 3) := by decide +kernel
theorem d_M_fits_112 : decode b_M_fits 112 = .ok (.invokevirtual 89, 3) := by decide +kernel
theorem d_M_fits_115 : decode b_M_fits 115 = .ok (.ifCond .ne 5, 3) := by decide +kernel
theorem d_M_fits_118 : decode b_M_fits 118 = .ok (.iconst 0, 1) := by decide +kernel
theorem d_M_fits_119 : decode b_M_fits 119 = .ok (.ireturn, 1) := by decide +kernel
theorem d_M_fits_120 : decode b_M_fits 120 = .ok (.iinc 3 1, 3) := by decide +kernel
theorem d_M_fits_123 : decode b_M_fits 123 = .ok (.goto (-46), 3) := by decide +kernel
theorem d_M_fits_126 : decode b_M_fits 126 = .ok (.iinc 2 1, 3) := by decide +kernel
theorem d_M_fits_129 : decode b_M_fits 129 = .ok (.goto (-59), 3) := by decide +kernel
theorem d_M_fits_132 : decode b_M_fits 132 = .ok (.iconst 1, 1) := by decide +kernel
theorem d_M_fits_133 : decode b_M_fits 133 = .ok (.ireturn, 1) := by decide +kernel
theorem d_M_isAhead_0 : decode b_M_isAhead 0 = .ok (.iconst 0, 1) := by decide +kernel
theorem d_M_isAhead_1 : decode b_M_isAhead 1 = .ok (.istore_n 2, 1) := by decide +kernel
theorem d_M_isAhead_2 : decode b_M_isAhead 2 = .ok (.iload_n 2, 1) := by decide +kernel
theorem d_M_isAhead_3 : decode b_M_isAhead 3 = .ok (.bipush 26, 2) := by decide +kernel
theorem d_M_isAhead_5 : decode b_M_isAhead 5 = .ok (.if_icmp .ge 55, 3) := by decide +kernel
theorem d_M_isAhead_8 : decode b_M_isAhead 8 = .ok (.aload_n 0, 1) := by decide +kernel
theorem d_M_isAhead_9 : decode b_M_isAhead 9 = .ok (.getfield 37, 3) := by decide +kernel
theorem d_M_isAhead_12 : decode b_M_isAhead 12 = .ok (.iload_n 2, 1) := by decide +kernel
theorem d_M_isAhead_13 : decode b_M_isAhead 13 = .ok (.iaload, 1) := by decide +kernel
theorem d_M_isAhead_14 : decode b_M_isAhead 14 = .ok (.aload_n 0, 1) := by decide +kernel
theorem d_M_isAhead_15 : decode b_M_isAhead 15 = .ok (.getfield 40, 3) := by decide +kernel
theorem d_M_isAhead_18 : decode b_M_isAhead 18 = .ok (.bipush 26, 2) := by decide +kernel
theorem d_M_isAhead_20 : decode b_M_isAhead 20 = .ok (.iload_n 1, 1) := by decide +kernel
theorem d_M_isAhead_21 : decode b_M_isAhead 21 = .ok (.imul, 1) := by decide +kernel
theorem d_M_isAhead_22 : decode b_M_isAhead 22 = .ok (.iload_n 2, 1) := by decide +kernel
theorem d_M_isAhead_23 : decode b_M_isAhead 23 = .ok (.iadd, 1) := by decide +kernel
theorem d_M_isAhead_24 : decode b_M_isAhead 24 = .ok (.iaload, 1) := by decide +kernel
theorem d_M_isAhead_25 : decode b_M_isAhead 25 = .ok (.if_icmp .eq 29, 3) := by decide +kernel
theorem d_M_isAhead_28 : decode b_M_isAhead 28 = .ok (.aload_n 0, 1) := by decide +kernel
theorem d_M_isAhead_29 : decode b_M_isAhead 29 = .ok (.getfield 37, 3) := by decide +kernel
theorem d_M_isAhead_32 : decode b_M_isAhead 32 = .ok (.iload_n 2, 1) := by decide +kernel
theorem d_M_isAhead_33 : decode b_M_isAhead 33 = .ok (.iaload, 1) := by decide +kernel
theorem d_M_isAhead_34 : decode b_M_isAhead 34 = .ok (.aload_n 0, 1) := by decide +kernel
theorem d_M_isAhead_35 : decode b_M_isAhead 35 = .ok (.getfield 40, 3) := by decide +kernel
theorem d_M_isAhead_38 : decode b_M_isAhead 38 = .ok (.bipush 26, 2) := by decide +kernel
theorem d_M_isAhead_40 : decode b_M_isAhead 40 = .ok (.iload_n 1, 1) := by decide +kernel
theorem d_M_isAhead_41 : decode b_M_isAhead 41 = .ok (.imul, 1) := by decide +kernel
theorem d_M_isAhead_42 : decode b_M_isAhead 42 = .ok (.iload_n 2, 1) := by decide +kernel
theorem d_M_isAhead_43 : decode b_M_isAhead 43 = .ok (.iadd, 1) := by decide +kernel
theorem d_M_isAhead_44 : decode b_M_isAhead 44 = .ok (.iaload, 1) := by decide +kernel
theorem d_M_isAhead_45 : decode b_M_isAhead 45 = .ok (.if_icmp .ge 7, 3) := by decide +kernel
theorem d_M_isAhead_48 : decode b_M_isAhead 48 = .ok (.iconst 1, 1) := by decide +kernel
theorem d_M_isAhead_49 : decode b_M_isAhead 49 = .ok (.goto 4, 3) := by decide +kernel
theorem d_M_isAhead_52 : decode b_M_isAhead 52 = .ok (.iconst 0, 1) := by decide +kernel
theorem d_M_isAhead_53 : decode b_M_isAhead 53 = .ok (.ireturn, 1) := by decide +kernel
theorem d_M_isAhead_54 : decode b_M_isAhead 54 = .ok (.iinc 2 1, 3) := by decide +kernel
theorem d_M_isAhead_57 : decode b_M_isAhead 57 = .ok (.goto (-55), 3) := by decide +kernel
theorem d_M_isAhead_60 : decode b_M_isAhead 60 = .ok (.iconst 0, 1) := by decide +kernel
theorem d_M_isAhead_61 : decode b_M_isAhead 61 = .ok (.ireturn, 1) := by decide +kernel
theorem d_M_enterReading_0 : decode b_M_enterReading 0 = .ok (.aload_n 0, 1) := by decide +kernel
theorem d_M_enterReading_1 : decode b_M_enterReading 1 = .ok (.getfield 77, 3) := by decide +kernel
theorem d_M_enterReading_4 : decode b_M_enterReading 4 = .ok (.istore_n 1, 1) := by decide +kernel
theorem d_M_enterReading_5 : decode b_M_enterReading 5 = .ok (.iload_n 1, 1) := by decide +kernel
theorem d_M_enterReading_6 : decode b_M_enterReading 6 = .ok (.ifCond .le 19, 3) := by decide +kernel
theorem d_M_enterReading_9 : decode b_M_enterReading 9 = .ok (.aload_n 0, 1) := by decide +kernel
theorem d_M_enterReading_10 : decode b_M_enterReading 10 = .ok (.iload_n 1, 1) := by decide +kernel
theorem d_M_enterReading_11 : decode b_M_enterReading 11 = .ok (.iconst 1, 1) := by decide +kernel
theorem d_M_enterReading_12 : decode b_M_enterReading 12 = .ok (.isub, 1) := by decide +kernel
theorem d_M_enterReading_13 : decode b_M_enterReading 13 = .ok (.invokevirtual 93, 3) := by decide +kernel
theorem d_M_enterReading_16 : decode b_M_enterReading 16 = .ok (.ifCond .eq 9, 3) := by decide +kernel
theorem d_M_enterReading_19 : decode b_M_enterReading 19 = .ok (.iinc 1 (-1), 3) := by decide +kernel
theorem d_M_enterReading_22 : decode b_M_enterReading 22 = .ok (.goto (-17), 3) := by decide +kernel
theorem d_M_enterReading_25 : decode b_M_enterReading 25 = .ok (.iload_n 1, 1) := by decide +kernel
theorem d_M_enterReading_26 : decode b_M_enterReading 26 = .ok (.sipush 200, 3) := by decide +kernel
theorem d_M_enterReading_29 : decode b_M_enterReading 29 = .ok (.if_icmp .ne 4, 3) := by decide +kernel
theorem d_M_enterReading_32 : decode b_M_enterReading 32 = .ok (.return_, 1) := by decide +kernel
theorem d_M_enterReading_33 : decode b_M_enterReading 33 = .ok (.aload_n 0, 1) := by decide +kernel
theorem d_M_enterReading_34 : decode b_M_enterReading 34 = .ok (.getfield 77, 3) := by decide +kernel
theorem d_M_enterReading_37 : decode b_M_enterReading 37 = .ok (.sipush 200, 3) := by decide +kernel
theorem d_M_enterReading_40 : decode b_M_enterReading 40 = .ok (.if_icmp .ge 10, 3) := by decide +kernel
theorem d_M_enterReading_43 : decode b_M_enterReading 43 = .ok (.aload_n 0, 1) := by decide +kernel
theorem d_M_enterReading_44 : decode b_M_enterReading 44 = .ok (.getfield 77, 3) := by decide +kernel
theorem d_M_enterReading_47 : decode b_M_enterReading 47 = .ok (.goto 6, 3) := by decide +kernel
theorem d_M_enterReading_50 : decode b_M_enterReading 50 = .ok (.sipush 199, 3) := by decide +kernel
theorem d_M_enterReading_53 : decode b_M_enterReading 53 = .ok (.istore_n 2, 1) := by decide +kernel
theorem d_M_enterReading_54 : decode b_M_enterReading 54 = .ok (.bipush 26, 2) := by decide +kernel
theorem d_M_enterReading_56 : decode b_M_enterReading 56 = .ok (.iload_n 2, 1) := by decide +kernel
theorem d_M_enterReading_57 : decode b_M_enterReading 57 = .ok (.iconst 1, 1) := by decide +kernel
theorem d_M_enterReading_58 : decode b_M_enterReading 58 = .ok (.iadd, 1) := by decide +kernel
theorem d_M_enterReading_59 : decode b_M_enterReading 59 = .ok (.imul, 1) := by decide +kernel
theorem d_M_enterReading_60 : decode b_M_enterReading 60 = .ok (.iconst 1, 1) := by decide +kernel
theorem d_M_enterReading_61 : decode b_M_enterReading 61 = .ok (.isub, 1) := by decide +kernel
theorem d_M_enterReading_62 : decode b_M_enterReading 62 = .ok (.istore_n 3, 1) := by decide +kernel
theorem d_M_enterReading_63 : decode b_M_enterReading 63 = .ok (.iload_n 3, 1) := by decide +kernel
theorem d_M_enterReading_64 : decode b_M_enterReading 64 = .ok (.bipush 26, 2) := by decide +kernel
theorem d_M_enterReading_66 : decode b_M_enterReading 66 = .ok (.iload_n 1, 1) := by decide +kernel
theorem d_M_enterReading_67 : decode b_M_enterReading 67 = .ok (.iconst 1, 1) := by decide +kernel
theorem d_M_enterReading_68 : decode b_M_enterReading 68 = .ok (.iadd, 1) := by decide +kernel
theorem d_M_enterReading_69 : decode b_M_enterReading 69 = .ok (.imul, 1) := by decide +kernel
theorem d_M_enterReading_70 : decode b_M_enterReading 70 = .ok (.if_icmp .lt 24, 3) := by decide +kernel
theorem d_M_enterReading_73 : decode b_M_enterReading 73 = .ok (.aload_n 0, 1) := by decide +kernel
theorem d_M_enterReading_74 : decode b_M_enterReading 74 = .ok (.getfield 40, 3) := by decide +kernel
theorem d_M_enterReading_77 : decode b_M_enterReading 77 = .ok (.iload_n 3, 1) := by decide +kernel
theorem d_M_enterReading_78 : decode b_M_enterReading 78 = .ok (.aload_n 0, 1) := by decide +kernel
theorem d_M_enterReading_79 : decode b_M_enterReading 79 = .ok (.getfield 40, 3) := by decide +kernel
theorem d_M_enterReading_82 : decode b_M_enterReading 82 = .ok (.iload_n 3, 1) := by decide +kernel
theorem d_M_enterReading_83 : decode b_M_enterReading 83 = .ok (.bipush 26, 2) := by decide +kernel
theorem d_M_enterReading_85 : decode b_M_enterReading 85 = .ok (.isub, 1) := by decide +kernel
theorem d_M_enterReading_86 : decode b_M_enterReading 86 = .ok (.iaload, 1) := by decide +kernel
theorem d_M_enterReading_87 : decode b_M_enterReading 87 = .ok (.iastore, 1) := by decide +kernel
theorem d_M_enterReading_88 : decode b_M_enterReading 88 = .ok (.iinc 3 (-1), 3) := by decide +kernel
theorem d_M_enterReading_91 : decode b_M_enterReading 91 = .ok (.goto (-28), 3) := by decide +kernel
theorem d_M_enterReading_94 : decode b_M_enterReading 94 = .ok (.iconst 0, 1) := by decide +kernel
theorem d_M_enterReading_95 : decode b_M_enterReading 95 = .ok (.istore_n 3, 1) := by decide +kernel
theorem d_M_enterReading_96 : decode b_M_enterReading 96 = .ok (.iload_n 3, 1) := by decide +kernel
theorem d_M_enterReading_97 : decode b_M_enterReading 97 = .ok (.bipush 26, 2) := by decide +kernel
theorem d_M_enterReading_99 : decode b_M_enterReading 99 = .ok (.if_icmp .ge 26, 3) := by decide +kernel
theorem d_M_enterReading_102 : decode b_M_enterReading 102 = .ok (.aload_n 0, 1) := by decide +kernel
theorem d_M_enterReading_103 : decode b_M_enterReading 103 = .ok (.getfield 40, 3) := by decide +kernel
theorem d_M_enterReading_106 : decode b_M_enterReading 106 = .ok (.bipush 26, 2) := by decide +kernel
theorem d_M_enterReading_108 : decode b_M_enterReading 108 = .ok (.iload_n 1, 1) := by decide +kernel
theorem d_M_enterReading_109 : decode b_M_enterReading 109 = .ok (.imul, 1) := by decide +kernel
theorem d_M_enterReading_110 : decode b_M_enterReading 110 = .ok (.iload_n 3, 1) := by decide +kernel
theorem d_M_enterReading_111 : decode b_M_enterReading 111 = .ok (.iadd, 1) := by decide +kernel
theorem d_M_enterReading_112 : decode b_M_enterReading 112 = .ok (.aload_n 0, 1) := by decide +kernel
theorem d_M_enterReading_113 : decode b_M_enterReading 113 = .ok (.getfield 37, 3) := by decide +kernel
theorem d_M_enterReading_116 : decode b_M_enterReading 116 = .ok (.iload_n 3, 1) := by decide +kernel
theorem d_M_enterReading_117 : decode b_M_enterReading 117 = .ok (.iaload, 1) := by decide +kernel
theorem d_M_enterReading_118 : decode b_M_enterReading 118 = .ok (.iastore, 1) := by decide +kernel
theorem d_M_enterReading_119 : decode b_M_enterReading 119 = .ok (.iinc 3 1, 3) := by decide +kernel
theorem d_M_enterReading_122 : decode b_M_enterReading 122 = .ok (.goto (-26), 3) := by decide +kernel
theorem d_M_enterReading_125 : decode b_M_enterReading 125 = .ok (.aload_n 0, 1) := by decide +kernel
theorem d_M_enterReading_126 : decode b_M_enterReading 126 = .ok (.getfield 77, 3) := by decide +kernel
theorem d_M_enterReading_129 : decode b_M_enterReading 129 = .ok (.sipush 200, 3) := by decide +kernel
theorem d_M_enterReading_132 : decode b_M_enterReading 132 = .ok (.if_icmp .ge 13, 3) := by decide +kernel
theorem d_M_enterReading_135 : decode b_M_enterReading 135 = .ok (.aload_n 0, 1) := by decide +kernel
theorem d_M_enterReading_136 : decode b_M_enterReading 136 = .ok (.dup, 1) := by decide +kernel
theorem d_M_enterReading_137 : decode b_M_enterReading 137 = .ok (.getfield 77, 3) := by decide +kernel
theorem d_M_enterReading_140 : decode b_M_enterReading 140 = .ok (.iconst 1, 1) := by decide +kernel
theorem d_M_enterReading_141 : decode b_M_enterReading 141 = .ok (.iadd, 1) := by decide +kernel
theorem d_M_enterReading_142 : decode b_M_enterReading 142 = .ok (.putfield 77, 3) := by decide +kernel
theorem d_M_enterReading_145 : decode b_M_enterReading 145 = .ok (.return_, 1) := by decide +kernel
theorem d_M_run_0 : decode b_M_run 0 = .ok (.aload_n 0, 1) := by decide +kernel
theorem d_M_run_1 : decode b_M_run 1 = .ok (.iconst 0, 1) := by decide +kernel
theorem d_M_run_2 : decode b_M_run 2 = .ok (.putfield 49, 3) := by decide +kernel
theorem d_M_run_5 : decode b_M_run 5 = .ok (.iload_n 1, 1) := by decide +kernel
theorem d_M_run_6 : decode b_M_run 6 = .ok (.ifCond .lt 9, 3) := by decide +kernel
theorem d_M_run_9 : decode b_M_run 9 = .ok (.iload_n 1, 1) := by decide +kernel
theorem d_M_run_10 : decode b_M_run 10 = .ok (.ldc 96, 2) := by decide +kernel
theorem d_M_run_12 : decode b_M_run 12 = .ok (.if_icmp .le 6, 3) := by decide +kernel
theorem d_M_run_15 : decode b_M_run 15 = .ok (.bipush (-2), 2) := by decide +kernel
theorem d_M_run_17 : decode b_M_run 17 = .ok (.ireturn, 1) := by decide +kernel
theorem d_M_run_18 : decode b_M_run 18 = .ok (.aload_n 0, 1) := by decide +kernel
theorem d_M_run_19 : decode b_M_run 19 = .ok (.invokevirtual 83, 3) := by decide +kernel
theorem d_M_run_22 : decode b_M_run 22 = .ok (.aload_n 0, 1) := by decide +kernel
theorem d_M_run_23 : decode b_M_run 23 = .ok (.iconst 0, 1) := by decide +kernel
theorem d_M_run_24 : decode b_M_run 24 = .ok (.putfield 77, 3) := by decide +kernel
theorem d_M_run_27 : decode b_M_run 27 = .ok (.aload_n 0, 1) := by decide +kernel
theorem d_M_run_28 : decode b_M_run 28 = .ok (.iconst 0, 1) := by decide +kernel
theorem d_M_run_29 : decode b_M_run 29 = .ok (.putfield 97, 3) := by decide +kernel
theorem d_M_run_32 : decode b_M_run 32 = .ok (.aload_n 0, 1) := by decide +kernel
theorem d_M_run_33 : decode b_M_run 33 = .ok (.iconst 0, 1) := by decide +kernel
theorem d_M_run_34 : decode b_M_run 34 = .ok (.invokevirtual 100, 3) := by decide +kernel
theorem d_M_run_37 : decode b_M_run 37 = .ok (.ifCond .ne 5, 3) := by decide +kernel
theorem d_M_run_40 : decode b_M_run 40 = .ok (.iconst 0, 1) := by decide +kernel
theorem d_M_run_41 : decode b_M_run 41 = .ok (.ireturn, 1) := by decide +kernel
theorem d_M_run_42 : decode b_M_run 42 = .ok (.iconst 0, 1) := by decide +kernel
theorem d_M_run_43 : decode b_M_run 43 = .ok (.istore_n 2, 1) := by decide +kernel
theorem d_M_run_44 : decode b_M_run 44 = .ok (.iconst 0, 1) := by decide +kernel
theorem d_M_run_45 : decode b_M_run 45 = .ok (.istore_n 3, 1) := by decide +kernel
theorem d_M_run_46 : decode b_M_run 46 = .ok (.aload_n 0, 1) := by decide +kernel
theorem d_M_run_47 : decode b_M_run 47 = .ok (.getfield 34, 3) := by decide +kernel
theorem d_M_run_50 : decode b_M_run 50 = .ok (.iconst 0, 1) := by decide +kernel
theorem d_M_run_51 : decode b_M_run 51 = .ok (.iconst (-1), 1) := by decide +kernel
theorem d_M_run_52 : decode b_M_run 52 = .ok (.iastore, 1) := by decide +kernel
theorem d_M_run_53 : decode b_M_run 53 = .ok (.iload_n 3, 1) := by decide +kernel
theorem d_M_run_54 : decode b_M_run 54 = .ok (.ifCond .lt 167, 3) := by decide +kernel
theorem d_M_run_57 : decode b_M_run 57 = .ok (.iload_n 3, 1) := by decide +kernel
theorem d_M_run_58 : decode b_M_run 58 = .ok (.aload_n 0, 1) := by decide +kernel
theorem d_M_run_59 : decode b_M_run 59 = .ok (.getfield 80, 3) := by decide +kernel
theorem d_M_run_62 : decode b_M_run 62 = .ok (.if_icmp .ne 25, 3) := by decide +kernel
theorem d_M_run_65 : decode b_M_run 65 = .ok (.iinc 2 1, 3) := by decide +kernel
theorem d_M_run_68 : decode b_M_run 68 = .ok (.aload_n 0, 1) := by decide +kernel
theorem d_M_run_69 : decode b_M_run 69 = .ok (.aload_n 0, 1) := by decide +kernel
theorem d_M_run_70 : decode b_M_run 70 = .ok (.getfield 80, 3) := by decide +kernel
theorem d_M_run_73 : decode b_M_run 73 = .ok (.invokevirtual 100, 3) := by decide +kernel
theorem d_M_run_76 : decode b_M_run 76 = .ok (.pop, 1) := by decide +kernel
theorem d_M_run_77 : decode b_M_run 77 = .ok (.aload_n 0, 1) := by decide +kernel
theorem d_M_run_78 : decode b_M_run 78 = .ok (.invokevirtual 103, 3) := by decide +kernel
theorem d_M_run_81 : decode b_M_run 81 = .ok (.iinc 3 (-1), 3) := by decide +kernel
theorem d_M_run_84 : decode b_M_run 84 = .ok (.goto (-31), 3) := by decide +kernel
theorem d_M_run_87 : decode b_M_run 87 = .ok (.aload_n 0, 1) := by decide +kernel
theorem d_M_run_88 : decode b_M_run 88 = .ok (.getfield 34, 3) := by decide +kernel
theorem d_M_run_91 : decode b_M_run 91 = .ok (.iload_n 3, 1) := by decide +kernel
theorem d_M_run_92 : decode b_M_run 92 = .ok (.dup2, 1) := by decide +kernel
theorem d_M_run_93 : decode b_M_run 93 = .ok (.iaload, 1) := by decide +kernel
theorem d_M_run_94 : decode b_M_run 94 = .ok (.iconst 1, 1) := by decide +kernel
theorem d_M_run_95 : decode b_M_run 95 = .ok (.iadd, 1) := by decide +kernel
theorem d_M_run_96 : decode b_M_run 96 = .ok (.iastore, 1) := by decide +kernel
theorem d_M_run_97 : decode b_M_run 97 = .ok (.aload_n 0, 1) := by decide +kernel
theorem d_M_run_98 : decode b_M_run 98 = .ok (.getfield 34, 3) := by decide +kernel
theorem d_M_run_101 : decode b_M_run 101 = .ok (.iload_n 3, 1) := by decide +kernel
theorem d_M_run_102 : decode b_M_run 102 = .ok (.iaload, 1) := by decide +kernel
theorem d_M_run_103 : decode b_M_run 103 = .ok (.aload_n 0, 1) := by decide +kernel
theorem d_M_run_104 : decode b_M_run 104 = .ok (.getfield 64, 3) := by decide +kernel
theorem d_M_run_107 : decode b_M_run 107 = .ok (.if_icmp .ge 36, 3) := by decide +kernel
theorem d_M_run_110 : decode b_M_run 110 = .ok (.aload_n 0, 1) := by decide +kernel
theorem d_M_run_111 : decode b_M_run 111 = .ok (.getfield 13, 3) := by decide +kernel
theorem d_M_run_114 : decode b_M_run 114 = .ok (.aload_n 0, 1) := by decide +kernel
theorem d_M_run_115 : decode b_M_run 115 = .ok (.getfield 34, 3) := by decide +kernel
theorem d_M_run_118 : decode b_M_run 118 = .ok (.iload_n 3, 1) := by decide +kernel
theorem d_M_run_119 : decode b_M_run 119 = .ok (.iaload, 1) := by decide +kernel
theorem d_M_run_120 : decode b_M_run 120 = .ok (.iaload, 1) := by decide +kernel
theorem d_M_run_121 : decode b_M_run 121 = .ok (.aload_n 0, 1) := by decide +kernel
theorem d_M_run_122 : decode b_M_run 122 = .ok (.getfield 31, 3) := by decide +kernel
theorem d_M_run_125 : decode b_M_run 125 = .ok (.iload_n 3, 1) := by decide +kernel
theorem d_M_run_126 : decode b_M_run 126 = .ok (.iaload, 1) := by decide +kernel
theorem d_M_run_127 : decode b_M_run 127 = .ok (.if_icmp .eq 16, 3) := by decide +kernel
theorem d_M_run_130 : decode b_M_run 130 = .ok (.aload_n 0, 1) := by decide +kernel
theorem d_M_run_131 : decode b_M_run 131 = .ok (.getfield 34, 3) := by decide +kernel
theorem d_M_run_134 : decode b_M_run 134 = .ok (.iload_n 3, 1) := by decide +kernel
theorem d_M_run_135 : decode b_M_run 135 = .ok (.dup2, 1) := by decide +kernel
theorem d_M_run_136 : decode b_M_run 136 = .ok (.iaload, 1) := by decide +kernel
theorem d_M_run_137 : decode b_M_run 137 = .ok (.iconst 1, 1) := by decide +kernel
theorem d_M_run_138 : decode b_M_run 138 = .ok (.iadd, 1) := by decide +kernel
theorem d_M_run_139 : decode b_M_run 139 = .ok (.iastore, 1) := by decide +kernel
theorem d_M_run_140 : decode b_M_run 140 = .ok (.goto (-43), 3) := by decide +kernel
theorem d_M_run_143 : decode b_M_run 143 = .ok (.aload_n 0, 1) := by decide +kernel
theorem d_M_run_144 : decode b_M_run 144 = .ok (.getfield 34, 3) := by decide +kernel
theorem d_M_run_147 : decode b_M_run 147 = .ok (.iload_n 3, 1) := by decide +kernel
theorem d_M_run_148 : decode b_M_run 148 = .ok (.iaload, 1) := by decide +kernel
theorem d_M_run_149 : decode b_M_run 149 = .ok (.aload_n 0, 1) := by decide +kernel
theorem d_M_run_150 : decode b_M_run 150 = .ok (.getfield 64, 3) := by decide +kernel
theorem d_M_run_153 : decode b_M_run 153 = .ok (.if_icmp .ne 9, 3) := by decide +kernel
theorem d_M_run_156 : decode b_M_run 156 = .ok (.iinc 3 (-1), 3) := by decide +kernel
theorem d_M_run_159 : decode b_M_run 159 = .ok (.goto (-106), 3) := by decide +kernel
theorem d_M_run_162 : decode b_M_run 162 = .ok (.aload_n 0, 1) := by decide +kernel
theorem d_M_run_163 : decode b_M_run 163 = .ok (.getfield 97, 3) := by decide +kernel
theorem d_M_run_166 : decode b_M_run 166 = .ok (.iload_n 1, 1) := by decide +kernel
theorem d_M_run_167 : decode b_M_run 167 = .ok (.if_icmp .ne 10, 3) := by decide +kernel
theorem d_M_run_170 : decode b_M_run 170 = .ok (.aload_n 0, 1) := by decide +kernel
theorem d_M_run_171 : decode b_M_run 171 = .ok (.iconst 0, 1) := by decide +kernel
theorem d_M_run_172 : decode b_M_run 172 = .ok (.putfield 77, 3) := by decide +kernel
theorem d_M_run_175 : decode b_M_run 175 = .ok (.iconst (-1), 1) := by decide +kernel
theorem d_M_run_176 : decode b_M_run 176 = .ok (.ireturn, 1) := by decide +kernel
theorem d_M_run_177 : decode b_M_run 177 = .ok (.aload_n 0, 1) := by decide +kernel
theorem d_M_run_178 : decode b_M_run 178 = .ok (.dup, 1) := by decide +kernel
theorem d_M_run_179 : decode b_M_run 179 = .ok (.getfield 97, 3) := by decide +kernel
theorem d_M_run_182 : decode b_M_run 182 = .ok (.iconst 1, 1) := by decide +kernel
theorem d_M_run_183 : decode b_M_run 183 = .ok (.iadd, 1) := by decide +kernel
theorem d_M_run_184 : decode b_M_run 184 = .ok (.putfield 97, 3) := by decide +kernel
theorem d_M_run_187 : decode b_M_run 187 = .ok (.aload_n 0, 1) := by decide +kernel
theorem d_M_run_188 : decode b_M_run 188 = .ok (.iload_n 3, 1) := by decide +kernel
theorem d_M_run_189 : decode b_M_run 189 = .ok (.iconst 1, 1) := by decide +kernel
theorem d_M_run_190 : decode b_M_run 190 = .ok (.iadd, 1) := by decide +kernel
theorem d_M_run_191 : decode b_M_run 191 = .ok (.invokevirtual 100, 3) := by decide +kernel
theorem d_M_run_194 : decode b_M_run 194 = .ok (.ifCond .ne 6, 3) := by decide +kernel
theorem d_M_run_197 : decode b_M_run 197 = .ok (.goto (-144), 3) := by decide +kernel
theorem d_M_run_200 : decode b_M_run 200 = .ok (.iinc 3 1, 3) := by decide +kernel
theorem d_M_run_203 : decode b_M_run 203 = .ok (.iload_n 3, 1) := by decide +kernel
theorem d_M_run_204 : decode b_M_run 204 = .ok (.aload_n 0, 1) := by decide +kernel
theorem d_M_run_205 : decode b_M_run 205 = .ok (.getfield 80, 3) := by decide +kernel
theorem d_M_run_208 : decode b_M_run 208 = .ok (.if_icmp .ge (-155), 3) := by decide +kernel
theorem d_M_run_211 : decode b_M_run 211 = .ok (.aload_n 0, 1) := by decide +kernel
theorem d_M_run_212 : decode b_M_run 212 = .ok (.getfield 34, 3) := by decide +kernel
theorem d_M_run_215 : decode b_M_run 215 = .ok (.iload_n 3, 1) := by decide +kernel
theorem d_M_run_216 : decode b_M_run 216 = .ok (.iconst (-1), 1) := by decide +kernel
theorem d_M_run_217 : decode b_M_run 217 = .ok (.iastore, 1) := by decide +kernel
theorem d_M_run_218 : decode b_M_run 218 = .ok (.goto (-165), 3) := by decide +kernel
theorem d_M_run_221 : decode b_M_run 221 = .ok (.iload_n 2, 1) := by decide +kernel
theorem d_M_run_222 : decode b_M_run 222 = .ok (.ireturn, 1) := by decide +kernel
theorem d_M_steps_0 : decode b_M_steps 0 = .ok (.aload_n 0, 1) := by decide +kernel
theorem d_M_steps_1 : decode b_M_steps 1 = .ok (.iconst 0, 1) := by decide +kernel
theorem d_M_steps_2 : decode b_M_steps 2 = .ok (.putfield 49, 3) := by decide +kernel
theorem d_M_steps_5 : decode b_M_steps 5 = .ok (.aload_n 0, 1) := by decide +kernel
theorem d_M_steps_6 : decode b_M_steps 6 = .ok (.getfield 97, 3) := by decide +kernel
theorem d_M_steps_9 : decode b_M_steps 9 = .ok (.ireturn, 1) := by decide +kernel
theorem d_M_letter_0 : decode b_M_letter 0 = .ok (.aload_n 0, 1) := by decide +kernel
theorem d_M_letter_1 : decode b_M_letter 1 = .ok (.iconst 0, 1) := by decide +kernel
theorem d_M_letter_2 : decode b_M_letter 2 = .ok (.putfield 49, 3) := by decide +kernel
theorem d_M_letter_5 : decode b_M_letter 5 = .ok (.iload_n 1, 1) := by decide +kernel
theorem d_M_letter_6 : decode b_M_letter 6 = .ok (.ifCond .lt 35, 3) := by decide +kernel
theorem d_M_letter_9 : decode b_M_letter 9 = .ok (.iload_n 1, 1) := by decide +kernel
theorem d_M_letter_10 : decode b_M_letter 10 = .ok (.aload_n 0, 1) := by decide +kernel
theorem d_M_letter_11 : decode b_M_letter 11 = .ok (.getfield 77, 3) := by decide +kernel
theorem d_M_letter_14 : decode b_M_letter 14 = .ok (.if_icmp .ge 27, 3) := by decide +kernel
theorem d_M_letter_17 : decode b_M_letter 17 = .ok (.iload_n 2, 1) := by decide +kernel
theorem d_M_letter_18 : decode b_M_letter 18 = .ok (.ifCond .lt 23, 3) := by decide +kernel
theorem d_M_letter_21 : decode b_M_letter 21 = .ok (.iload_n 2, 1) := by decide +kernel
theorem d_M_letter_22 : decode b_M_letter 22 = .ok (.bipush 25, 2) := by decide +kernel
theorem d_M_letter_24 : decode b_M_letter 24 = .ok (.if_icmp .gt 17, 3) := by decide +kernel
theorem d_M_letter_27 : decode b_M_letter 27 = .ok (.aload_n 0, 1) := by decide +kernel
theorem d_M_letter_28 : decode b_M_letter 28 = .ok (.getfield 40, 3) := by decide +kernel
theorem d_M_letter_31 : decode b_M_letter 31 = .ok (.bipush 26, 2) := by decide +kernel
theorem d_M_letter_33 : decode b_M_letter 33 = .ok (.iload_n 1, 1) := by decide +kernel
theorem d_M_letter_34 : decode b_M_letter 34 = .ok (.imul, 1) := by decide +kernel
theorem d_M_letter_35 : decode b_M_letter 35 = .ok (.iload_n 2, 1) := by decide +kernel
theorem d_M_letter_36 : decode b_M_letter 36 = .ok (.iadd, 1) := by decide +kernel
theorem d_M_letter_37 : decode b_M_letter 37 = .ok (.iaload, 1) := by decide +kernel
theorem d_M_letter_38 : decode b_M_letter 38 = .ok (.ifCond .ne 5, 3) := by decide +kernel
theorem d_M_letter_41 : decode b_M_letter 41 = .ok (.iconst (-1), 1) := by decide +kernel
theorem d_M_letter_42 : decode b_M_letter 42 = .ok (.ireturn, 1) := by decide +kernel
theorem d_M_letter_43 : decode b_M_letter 43 = .ok (.aload_n 0, 1) := by decide +kernel
theorem d_M_letter_44 : decode b_M_letter 44 = .ok (.getfield 40, 3) := by decide +kernel
theorem d_M_letter_47 : decode b_M_letter 47 = .ok (.bipush 26, 2) := by decide +kernel
theorem d_M_letter_49 : decode b_M_letter 49 = .ok (.iload_n 1, 1) := by decide +kernel
theorem d_M_letter_50 : decode b_M_letter 50 = .ok (.imul, 1) := by decide +kernel
theorem d_M_letter_51 : decode b_M_letter 51 = .ok (.iload_n 2, 1) := by decide +kernel
theorem d_M_letter_52 : decode b_M_letter 52 = .ok (.iadd, 1) := by decide +kernel
theorem d_M_letter_53 : decode b_M_letter 53 = .ok (.iaload, 1) := by decide +kernel
theorem d_M_letter_54 : decode b_M_letter 54 = .ok (.ireturn, 1) := by decide +kernel
theorem d_M_rankOf_0 : decode b_M_rankOf 0 = .ok (.lconst 0, 1) := by decide +kernel
theorem d_M_rankOf_1 : decode b_M_rankOf 1 = .ok (.lstore_n 2, 1) := by decide +kernel
theorem d_M_rankOf_2 : decode b_M_rankOf 2 = .ok (.iconst 1, 1) := by decide +kernel
theorem d_M_rankOf_3 : decode b_M_rankOf 3 = .ok (.istore 4, 2) := by decide +kernel
theorem d_M_rankOf_5 : decode b_M_rankOf 5 = .ok (.iload 4, 2) := by decide +kernel
theorem d_M_rankOf_7 : decode b_M_rankOf 7 = .ok (.aload_n 0, 1) := by decide +kernel
theorem d_M_rankOf_8 : decode b_M_rankOf 8 = .ok (.getfield 74, 3) := by decide +kernel
theorem d_M_rankOf_11 : decode b_M_rankOf 11 = .ok (.if_icmp .ge 75, 3) := by decide +kernel
theorem d_M_rankOf_14 : decode b_M_rankOf 14 = .ok (.aload_n 0, 1) := by decide +kernel
theorem d_M_rankOf_15 : decode b_M_rankOf 15 = .ok (.getfield 19, 3) := by decide +kernel
theorem d_M_rankOf_18 : decode b_M_rankOf 18 = .ok (.iload 4, 2) := by decide +kernel
theorem d_M_rankOf_20 : decode b_M_rankOf 20 = .ok (.iaload, 1) := by decide +kernel
theorem d_M_rankOf_21 : decode b_M_rankOf 21 = .ok (.ifCond .lt 59, 3) := by decide +kernel
theorem d_M_rankOf_24 : decode b_M_rankOf 24 = .ok (.aload_n 0, 1) := by decide +kernel
theorem d_M_rankOf_25 : decode b_M_rankOf 25 = .ok (.getfield 19, 3) := by decide +kernel
theorem d_M_rankOf_28 : decode b_M_rankOf 28 = .ok (.iload 4, 2) := by decide +kernel
theorem d_M_rankOf_30 : decode b_M_rankOf 30 = .ok (.iconst 1, 1) := by decide +kernel
theorem d_M_rankOf_31 : decode b_M_rankOf 31 = .ok (.isub, 1) := by decide +kernel
theorem d_M_rankOf_32 : decode b_M_rankOf 32 = .ok (.iaload, 1) := by decide +kernel
theorem d_M_rankOf_33 : decode b_M_rankOf 33 = .ok (.ifCond .lt 47, 3) := by decide +kernel
theorem d_M_rankOf_36 : decode b_M_rankOf 36 = .ok (.lload_n 2, 1) := by decide +kernel
theorem d_M_rankOf_37 : decode b_M_rankOf 37 = .ok (.aload_n 0, 1) := by decide +kernel
theorem d_M_rankOf_38 : decode b_M_rankOf 38 = .ok (.aload_n 0, 1) := by decide +kernel
theorem d_M_rankOf_39 : decode b_M_rankOf 39 = .ok (.getfield 40, 3) := by decide +kernel
theorem d_M_rankOf_42 : decode b_M_rankOf 42 = .ok (.bipush 26, 2) := by decide +kernel
theorem d_M_rankOf_44 : decode b_M_rankOf 44 = .ok (.iload_n 1, 1) := by decide +kernel
theorem d_M_rankOf_45 : decode b_M_rankOf 45 = .ok (.imul, 1) := by decide +kernel
theorem d_M_rankOf_46 : decode b_M_rankOf 46 = .ok (.aload_n 0, 1) := by decide +kernel
theorem d_M_rankOf_47 : decode b_M_rankOf 47 = .ok (.getfield 19, 3) := by decide +kernel
theorem d_M_rankOf_50 : decode b_M_rankOf 50 = .ok (.iload 4, 2) := by decide +kernel
theorem d_M_rankOf_52 : decode b_M_rankOf 52 = .ok (.iconst 1, 1) := by decide +kernel
theorem d_M_rankOf_53 : decode b_M_rankOf 53 = .ok (.isub, 1) := by decide +kernel
theorem d_M_rankOf_54 : decode b_M_rankOf 54 = .ok (.iaload, 1) := by decide +kernel
theorem d_M_rankOf_55 : decode b_M_rankOf 55 = .ok (.iadd, 1) := by decide +kernel
theorem d_M_rankOf_56 : decode b_M_rankOf 56 = .ok (.iaload, 1) := by decide +kernel
theorem d_M_rankOf_57 : decode b_M_rankOf 57 = .ok (.aload_n 0, 1) := by decide +kernel
theorem d_M_rankOf_58 : decode b_M_rankOf 58 = .ok (.getfield 40, 3) := by decide +kernel
theorem d_M_rankOf_61 : decode b_M_rankOf 61 = .ok (.bipush 26, 2) := by decide +kernel
theorem d_M_rankOf_63 : decode b_M_rankOf 63 = .ok (.iload_n 1, 1) := by decide +kernel
theorem d_M_rankOf_64 : decode b_M_rankOf 64 = .ok (.imul, 1) := by decide +kernel
theorem d_M_rankOf_65 : decode b_M_rankOf 65 = .ok (.aload_n 0, 1) := by decide +kernel
theorem d_M_rankOf_66 : decode b_M_rankOf 66 = .ok (.getfield 19, 3) := by decide +kernel
theorem d_M_rankOf_69 : decode b_M_rankOf 69 = .ok (.iload 4, 2) := by decide +kernel
theorem d_M_rankOf_71 : decode b_M_rankOf 71 = .ok (.iaload, 1) := by decide +kernel
theorem d_M_rankOf_72 : decode b_M_rankOf 72 = .ok (.iadd, 1) := by decide +kernel
theorem d_M_rankOf_73 : decode b_M_rankOf 73 = .ok (.iaload, 1) := by decide +kernel
theorem d_M_rankOf_74 : decode b_M_rankOf 74 = .ok (.invokevirtual 106, 3) := by decide +kernel
theorem d_M_rankOf_77 : decode b_M_rankOf 77 = .ok (.i2l, 1) := by decide +kernel
theorem d_M_rankOf_78 : decode b_M_rankOf 78 = .ok (.ladd, 1) := by decide +kernel
theorem d_M_rankOf_79 : decode b_M_rankOf 79 = .ok (.lstore_n 2, 1) := by decide +kernel
theorem d_M_rankOf_80 : decode b_M_rankOf 80 = .ok (.iinc 4 1, 3) := by decide +kernel
theorem d_M_rankOf_83 : decode b_M_rankOf 83 = .ok (.goto (-78), 3) := by decide +kernel
theorem d_M_rankOf_86 : decode b_M_rankOf 86 = .ok (.lload_n 2, 1) := by decide +kernel
theorem d_M_rankOf_87 : decode b_M_rankOf 87 = .ok (.lreturn, 1) := by decide +kernel
theorem d_M_rank_0 : decode b_M_rank 0 = .ok (.aload_n 0, 1) := by decide +kernel
theorem d_M_rank_1 : decode b_M_rank 1 = .ok (.iconst 0, 1) := by decide +kernel
theorem d_M_rank_2 : decode b_M_rank 2 = .ok (.putfield 49, 3) := by decide +kernel
theorem d_M_rank_5 : decode b_M_rank 5 = .ok (.iload_n 1, 1) := by decide +kernel
theorem d_M_rank_6 : decode b_M_rank 6 = .ok (.ifCond .lt 11, 3) := by decide +kernel
theorem d_M_rank_9 : decode b_M_rank 9 = .ok (.iload_n 1, 1) := by decide +kernel
theorem d_M_rank_10 : decode b_M_rank 10 = .ok (.aload_n 0, 1) := by decide +kernel
theorem d_M_rank_11 : decode b_M_rank 11 = .ok (.getfield 77, 3) := by decide +kernel
theorem d_M_rank_14 : decode b_M_rank 14 = .ok (.if_icmp .lt 7, 3) := by decide +kernel
theorem d_M_rank_17 : decode b_M_rank 17 = .ok (.lconst 0, 1) := by decide +kernel
theorem d_M_rank_18 : decode b_M_rank 18 = .ok (.goto 8, 3) := by decide +kernel
theorem d_M_rank_21 : decode b_M_rank 21 = .ok (.aload_n 0, 1) := by decide +kernel
theorem d_M_rank_22 : decode b_M_rank 22 = .ok (.iload_n 1, 1) := by decide +kernel
theorem d_M_rank_23 : decode b_M_rank 23 = .ok (.invokevirtual 109, 3) := by decide +kernel
theorem d_M_rank_26 : decode b_M_rank 26 = .ok (.lreturn, 1) := by decide +kernel
theorem d_M_best_0 : decode b_M_best 0 = .ok (.aload_n 0, 1) := by decide +kernel
theorem d_M_best_1 : decode b_M_best 1 = .ok (.iconst 0, 1) := by decide +kernel
theorem d_M_best_2 : decode b_M_best 2 = .ok (.putfield 49, 3) := by decide +kernel
theorem d_M_best_5 : decode b_M_best 5 = .ok (.iconst (-1), 1) := by decide +kernel
theorem d_M_best_6 : decode b_M_best 6 = .ok (.istore_n 1, 1) := by decide +kernel
theorem d_M_best_7 : decode b_M_best 7 = .ok (.iconst 0, 1) := by decide +kernel
theorem d_M_best_8 : decode b_M_best 8 = .ok (.istore_n 2, 1) := by decide +kernel
theorem d_M_best_9 : decode b_M_best 9 = .ok (.iload_n 2, 1) := by decide +kernel
theorem d_M_best_10 : decode b_M_best 10 = .ok (.aload_n 0, 1) := by decide +kernel
theorem d_M_best_11 : decode b_M_best 11 = .ok (.getfield 77, 3) := by decide +kernel
theorem d_M_best_14 : decode b_M_best 14 = .ok (.if_icmp .ge 29, 3) := by decide +kernel
theorem d_M_best_17 : decode b_M_best 17 = .ok (.iload_n 1, 1) := by decide +kernel
theorem d_M_best_18 : decode b_M_best 18 = .ok (.ifCond .lt 17, 3) := by decide +kernel
theorem d_M_best_21 : decode b_M_best 21 = .ok (.aload_n 0, 1) := by decide +kernel
theorem d_M_best_22 : decode b_M_best 22 = .ok (.iload_n 2, 1) := by decide +kernel
theorem d_M_best_23 : decode b_M_best 23 = .ok (.invokevirtual 109, 3) := by decide +kernel
