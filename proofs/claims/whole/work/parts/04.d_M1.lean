theorem d_M_init_0 : decode b_M_init 0 = .ok (.aload_n 0, 1) := by decide +kernel
theorem d_M_init_1 : decode b_M_init 1 = .ok (.invokespecial 1, 3) := by decide +kernel
theorem d_M_init_4 : decode b_M_init 4 = .ok (.aload_n 0, 1) := by decide +kernel
theorem d_M_init_5 : decode b_M_init 5 = .ok (.bipush 8, 2) := by decide +kernel
theorem d_M_init_7 : decode b_M_init 7 = .ok (.newarray .int, 2) := by decide +kernel
theorem d_M_init_9 : decode b_M_init 9 = .ok (.putfield 7, 3) := by decide +kernel
theorem d_M_init_12 : decode b_M_init 12 = .ok (.aload_n 0, 1) := by decide +kernel
theorem d_M_init_13 : decode b_M_init 13 = .ok (.bipush 60, 2) := by decide +kernel
theorem d_M_init_15 : decode b_M_init 15 = .ok (.newarray .int, 2) := by decide +kernel
theorem d_M_init_17 : decode b_M_init 17 = .ok (.putfield 13, 3) := by decide +kernel
theorem d_M_init_20 : decode b_M_init 20 = .ok (.aload_n 0, 1) := by decide +kernel
theorem d_M_init_21 : decode b_M_init 21 = .ok (.sipush 480, 3) := by decide +kernel
theorem d_M_init_24 : decode b_M_init 24 = .ok (.newarray .int, 2) := by decide +kernel
theorem d_M_init_26 : decode b_M_init 26 = .ok (.putfield 16, 3) := by decide +kernel
theorem d_M_init_29 : decode b_M_init 29 = .ok (.aload_n 0, 1) := by decide +kernel
theorem d_M_init_30 : decode b_M_init 30 = .ok (.bipush 60, 2) := by decide +kernel
theorem d_M_init_32 : decode b_M_init 32 = .ok (.newarray .int, 2) := by decide +kernel
theorem d_M_init_34 : decode b_M_init 34 = .ok (.putfield 19, 3) := by decide +kernel
theorem d_M_init_37 : decode b_M_init 37 = .ok (.aload_n 0, 1) := by decide +kernel
theorem d_M_init_38 : decode b_M_init 38 = .ok (.bipush 26, 2) := by decide +kernel
theorem d_M_init_40 : decode b_M_init 40 = .ok (.newarray .int, 2) := by decide +kernel
theorem d_M_init_42 : decode b_M_init 42 = .ok (.putfield 22, 3) := by decide +kernel
theorem d_M_init_45 : decode b_M_init 45 = .ok (.aload_n 0, 1) := by decide +kernel
theorem d_M_init_46 : decode b_M_init 46 = .ok (.sipush 676, 3) := by decide +kernel
theorem d_M_init_49 : decode b_M_init 49 = .ok (.newarray .int, 2) := by decide +kernel
theorem d_M_init_51 : decode b_M_init 51 = .ok (.putfield 25, 3) := by decide +kernel
theorem d_M_init_54 : decode b_M_init 54 = .ok (.aload_n 0, 1) := by decide +kernel
theorem d_M_init_55 : decode b_M_init 55 = .ok (.bipush 60, 2) := by decide +kernel
theorem d_M_init_57 : decode b_M_init 57 = .ok (.newarray .int, 2) := by decide +kernel
theorem d_M_init_59 : decode b_M_init 59 = .ok (.putfield 28, 3) := by decide +kernel
theorem d_M_init_62 : decode b_M_init 62 = .ok (.aload_n 0, 1) := by decide +kernel
theorem d_M_init_63 : decode b_M_init 63 = .ok (.bipush 60, 2) := by decide +kernel
theorem d_M_init_65 : decode b_M_init 65 = .ok (.newarray .int, 2) := by decide +kernel
theorem d_M_init_67 : decode b_M_init 67 = .ok (.putfield 31, 3) := by decide +kernel
theorem d_M_init_70 : decode b_M_init 70 = .ok (.aload_n 0, 1) := by decide +kernel
theorem d_M_init_71 : decode b_M_init 71 = .ok (.bipush 61, 2) := by decide +kernel
theorem d_M_init_73 : decode b_M_init 73 = .ok (.newarray .int, 2) := by decide +kernel
theorem d_M_init_75 : decode b_M_init 75 = .ok (.putfield 34, 3) := by decide +kernel
theorem d_M_init_78 : decode b_M_init 78 = .ok (.aload_n 0, 1) := by decide +kernel
theorem d_M_init_79 : decode b_M_init 79 = .ok (.bipush 26, 2) := by decide +kernel
theorem d_M_init_81 : decode b_M_init 81 = .ok (.newarray .int, 2) := by decide +kernel
theorem d_M_init_83 : decode b_M_init 83 = .ok (.putfield 37, 3) := by decide +kernel
theorem d_M_init_86 : decode b_M_init 86 = .ok (.aload_n 0, 1) := by decide +kernel
theorem d_M_init_87 : decode b_M_init 87 = .ok (.sipush 5200, 3) := by decide +kernel
theorem d_M_init_90 : decode b_M_init 90 = .ok (.newarray .int, 2) := by decide +kernel
theorem d_M_init_92 : decode b_M_init 92 = .ok (.putfield 40, 3) := by decide +kernel
theorem d_M_init_95 : decode b_M_init 95 = .ok (.aload_n 0, 1) := by decide +kernel
theorem d_M_init_96 : decode b_M_init 96 = .ok (.bipush 60, 2) := by decide +kernel
theorem d_M_init_98 : decode b_M_init 98 = .ok (.newarray .int, 2) := by decide +kernel
theorem d_M_init_100 : decode b_M_init 100 = .ok (.putfield 43, 3) := by decide +kernel
theorem d_M_init_103 : decode b_M_init 103 = .ok (.aload_n 0, 1) := by decide +kernel
theorem d_M_init_104 : decode b_M_init 104 = .ok (.bipush 61, 2) := by decide +kernel
theorem d_M_init_106 : decode b_M_init 106 = .ok (.newarray .int, 2) := by decide +kernel
theorem d_M_init_108 : decode b_M_init 108 = .ok (.putfield 46, 3) := by decide +kernel
theorem d_M_init_111 : decode b_M_init 111 = .ok (.return_, 1) := by decide +kernel
theorem d_M_isLetter_0 : decode b_M_isLetter 0 = .ok (.iload_n 0, 1) := by decide +kernel
theorem d_M_isLetter_1 : decode b_M_isLetter 1 = .ok (.bipush 97, 2) := by decide +kernel
theorem d_M_isLetter_3 : decode b_M_isLetter 3 = .ok (.if_icmp .lt 13, 3) := by decide +kernel
theorem d_M_isLetter_6 : decode b_M_isLetter 6 = .ok (.iload_n 0, 1) := by decide +kernel
theorem d_M_isLetter_7 : decode b_M_isLetter 7 = .ok (.bipush 122, 2) := by decide +kernel
theorem d_M_isLetter_9 : decode b_M_isLetter 9 = .ok (.if_icmp .gt 7, 3) := by decide +kernel
theorem d_M_isLetter_12 : decode b_M_isLetter 12 = .ok (.iconst 1, 1) := by decide +kernel
theorem d_M_isLetter_13 : decode b_M_isLetter 13 = .ok (.goto 4, 3) := by decide +kernel
theorem d_M_isLetter_16 : decode b_M_isLetter 16 = .ok (.iconst 0, 1) := by decide +kernel
theorem d_M_isLetter_17 : decode b_M_isLetter 17 = .ok (.ireturn, 1) := by decide +kernel
theorem d_M_at_0 : decode b_M_at 0 = .ok (.aload_n 0, 1) := by decide +kernel
theorem d_M_at_1 : decode b_M_at 1 = .ok (.getfield 16, 3) := by decide +kernel
theorem d_M_at_4 : decode b_M_at 4 = .ok (.bipush 8, 2) := by decide +kernel
theorem d_M_at_6 : decode b_M_at 6 = .ok (.iload_n 1, 1) := by decide +kernel
theorem d_M_at_7 : decode b_M_at 7 = .ok (.imul, 1) := by decide +kernel
theorem d_M_at_8 : decode b_M_at 8 = .ok (.iload_n 2, 1) := by decide +kernel
theorem d_M_at_9 : decode b_M_at 9 = .ok (.iadd, 1) := by decide +kernel
theorem d_M_at_10 : decode b_M_at 10 = .ok (.iaload, 1) := by decide +kernel
theorem d_M_at_11 : decode b_M_at 11 = .ok (.ireturn, 1) := by decide +kernel
theorem d_M_unit_0 : decode b_M_unit 0 = .ok (.aload_n 0, 1) := by decide +kernel
theorem d_M_unit_1 : decode b_M_unit 1 = .ok (.iconst 0, 1) := by decide +kernel
theorem d_M_unit_2 : decode b_M_unit 2 = .ok (.putfield 49, 3) := by decide +kernel
theorem d_M_unit_5 : decode b_M_unit 5 = .ok (.iload_n 1, 1) := by decide +kernel
theorem d_M_unit_6 : decode b_M_unit 6 = .ok (.invokestatic 53, 3) := by decide +kernel
theorem d_M_unit_9 : decode b_M_unit 9 = .ok (.ifCond .eq 12, 3) := by decide +kernel
theorem d_M_unit_12 : decode b_M_unit 12 = .ok (.aload_n 0, 1) := by decide +kernel
theorem d_M_unit_13 : decode b_M_unit 13 = .ok (.getfield 57, 3) := by decide +kernel
theorem d_M_unit_16 : decode b_M_unit 16 = .ok (.bipush 8, 2) := by decide +kernel
theorem d_M_unit_18 : decode b_M_unit 18 = .ok (.if_icmp .ne 5, 3) := by decide +kernel
theorem d_M_unit_21 : decode b_M_unit 21 = .ok (.iconst 0, 1) := by decide +kernel
theorem d_M_unit_22 : decode b_M_unit 22 = .ok (.ireturn, 1) := by decide +kernel
theorem d_M_unit_23 : decode b_M_unit 23 = .ok (.aload_n 0, 1) := by decide +kernel
theorem d_M_unit_24 : decode b_M_unit 24 = .ok (.getfield 7, 3) := by decide +kernel
theorem d_M_unit_27 : decode b_M_unit 27 = .ok (.aload_n 0, 1) := by decide +kernel
theorem d_M_unit_28 : decode b_M_unit 28 = .ok (.getfield 57, 3) := by decide +kernel
theorem d_M_unit_31 : decode b_M_unit 31 = .ok (.iload_n 1, 1) := by decide +kernel
theorem d_M_unit_32 : decode b_M_unit 32 = .ok (.iastore, 1) := by decide +kernel
theorem d_M_unit_33 : decode b_M_unit 33 = .ok (.aload_n 0, 1) := by decide +kernel
theorem d_M_unit_34 : decode b_M_unit 34 = .ok (.dup, 1) := by decide +kernel
theorem d_M_unit_35 : decode b_M_unit 35 = .ok (.getfield 57, 3) := by decide +kernel
theorem d_M_unit_38 : decode b_M_unit 38 = .ok (.iconst 1, 1) := by decide +kernel
theorem d_M_unit_39 : decode b_M_unit 39 = .ok (.iadd, 1) := by decide +kernel
theorem d_M_unit_40 : decode b_M_unit 40 = .ok (.putfield 57, 3) := by decide +kernel
theorem d_M_unit_43 : decode b_M_unit 43 = .ok (.iconst 1, 1) := by decide +kernel
theorem d_M_unit_44 : decode b_M_unit 44 = .ok (.ireturn, 1) := by decide +kernel
theorem d_M_isRow_0 : decode b_M_isRow 0 = .ok (.aload_n 0, 1) := by decide +kernel
theorem d_M_isRow_1 : decode b_M_isRow 1 = .ok (.getfield 13, 3) := by decide +kernel
theorem d_M_isRow_4 : decode b_M_isRow 4 = .ok (.iload_n 1, 1) := by decide +kernel
theorem d_M_isRow_5 : decode b_M_isRow 5 = .ok (.iaload, 1) := by decide +kernel
theorem d_M_isRow_6 : decode b_M_isRow 6 = .ok (.aload_n 0, 1) := by decide +kernel
theorem d_M_isRow_7 : decode b_M_isRow 7 = .ok (.getfield 57, 3) := by decide +kernel
theorem d_M_isRow_10 : decode b_M_isRow 10 = .ok (.if_icmp .eq 5, 3) := by decide +kernel
theorem d_M_isRow_13 : decode b_M_isRow 13 = .ok (.iconst 0, 1) := by decide +kernel
theorem d_M_isRow_14 : decode b_M_isRow 14 = .ok (.ireturn, 1) := by decide +kernel
theorem d_M_isRow_15 : decode b_M_isRow 15 = .ok (.iconst 0, 1) := by decide +kernel
theorem d_M_isRow_16 : decode b_M_isRow 16 = .ok (.istore_n 2, 1) := by decide +kernel
theorem d_M_isRow_17 : decode b_M_isRow 17 = .ok (.iload_n 2, 1) := by decide +kernel
theorem d_M_isRow_18 : decode b_M_isRow 18 = .ok (.aload_n 0, 1) := by decide +kernel
theorem d_M_isRow_19 : decode b_M_isRow 19 = .ok (.getfield 57, 3) := by decide +kernel
theorem d_M_isRow_22 : decode b_M_isRow 22 = .ok (.if_icmp .ge 26, 3) := by decide +kernel
theorem d_M_isRow_25 : decode b_M_isRow 25 = .ok (.aload_n 0, 1) := by decide +kernel
theorem d_M_isRow_26 : decode b_M_isRow 26 = .ok (.iload_n 1, 1) := by decide +kernel
theorem d_M_isRow_27 : decode b_M_isRow 27 = .ok (.iload_n 2, 1) := by decide +kernel
theorem d_M_isRow_28 : decode b_M_isRow 28 = .ok (.invokevirtual 60, 3) := by decide +kernel
theorem d_M_isRow_31 : decode b_M_isRow 31 = .ok (.aload_n 0, 1) := by decide +kernel
theorem d_M_isRow_32 : decode b_M_isRow 32 = .ok (.getfield 7, 3) := by decide +kernel
theorem d_M_isRow_35 : decode b_M_isRow 35 = .ok (.iload_n 2, 1) := by decide +kernel
theorem d_M_isRow_36 : decode b_M_isRow 36 = .ok (.iaload, 1) := by decide +kernel
theorem d_M_isRow_37 : decode b_M_isRow 37 = .ok (.if_icmp .eq 5, 3) := by decide +kernel
theorem d_M_isRow_40 : decode b_M_isRow 40 = .ok (.iconst 0, 1) := by decide +kernel
theorem d_M_isRow_41 : decode b_M_isRow 41 = .ok (.ireturn, 1) := by decide +kernel
theorem d_M_isRow_42 : decode b_M_isRow 42 = .ok (.iinc 2 1, 3) := by decide +kernel
theorem d_M_isRow_45 : decode b_M_isRow 45 = .ok (.goto (-28), 3) := by decide +kernel
theorem d_M_isRow_48 : decode b_M_isRow 48 = .ok (.iconst 1, 1) := by decide +kernel
theorem d_M_isRow_49 : decode b_M_isRow 49 = .ok (.ireturn, 1) := by decide +kernel
theorem d_M_enter_0 : decode b_M_enter 0 = .ok (.aload_n 0, 1) := by decide +kernel
theorem d_M_enter_1 : decode b_M_enter 1 = .ok (.getfield 57, 3) := by decide +kernel
theorem d_M_enter_4 : decode b_M_enter 4 = .ok (.ifCond .ne 5, 3) := by decide +kernel
theorem d_M_enter_7 : decode b_M_enter 7 = .ok (.iconst (-1), 1) := by decide +kernel
theorem d_M_enter_8 : decode b_M_enter 8 = .ok (.ireturn, 1) := by decide +kernel
theorem d_M_enter_9 : decode b_M_enter 9 = .ok (.iconst 0, 1) := by decide +kernel
theorem d_M_enter_10 : decode b_M_enter 10 = .ok (.istore_n 1, 1) := by decide +kernel
theorem d_M_enter_11 : decode b_M_enter 11 = .ok (.iload_n 1, 1) := by decide +kernel
theorem d_M_enter_12 : decode b_M_enter 12 = .ok (.aload_n 0, 1) := by decide +kernel
theorem d_M_enter_13 : decode b_M_enter 13 = .ok (.getfield 64, 3) := by decide +kernel
theorem d_M_enter_16 : decode b_M_enter 16 = .ok (.if_icmp .ge 19, 3) := by decide +kernel
theorem d_M_enter_19 : decode b_M_enter 19 = .ok (.aload_n 0, 1) := by decide +kernel
theorem d_M_enter_20 : decode b_M_enter 20 = .ok (.iload_n 1, 1) := by decide +kernel
theorem d_M_enter_21 : decode b_M_enter 21 = .ok (.invokevirtual 67, 3) := by decide +kernel
theorem d_M_enter_24 : decode b_M_enter 24 = .ok (.ifCond .eq 5, 3) := by decide +kernel
theorem d_M_enter_27 : decode b_M_enter 27 = .ok (.iload_n 1, 1) := by decide +kernel
theorem d_M_enter_28 : decode b_M_enter 28 = .ok (.ireturn, 1) := by decide +kernel
theorem d_M_enter_29 : decode b_M_enter 29 = .ok (.iinc 1 1, 3) := by decide +kernel
theorem d_M_enter_32 : decode b_M_enter 32 = .ok (.goto (-21), 3) := by decide +kernel
theorem d_M_enter_35 : decode b_M_enter 35 = .ok (.aload_n 0, 1) := by decide +kernel
theorem d_M_enter_36 : decode b_M_enter 36 = .ok (.getfield 64, 3) := by decide +kernel
theorem d_M_enter_39 : decode b_M_enter 39 = .ok (.bipush 60, 2) := by decide +kernel
theorem d_M_enter_41 : decode b_M_enter 41 = .ok (.if_icmp .ne 5, 3) := by decide +kernel
theorem d_M_enter_44 : decode b_M_enter 44 = .ok (.iconst (-1), 1) := by decide +kernel
theorem d_M_enter_45 : decode b_M_enter 45 = .ok (.ireturn, 1) := by decide +kernel
theorem d_M_enter_46 : decode b_M_enter 46 = .ok (.iconst 0, 1) := by decide +kernel
theorem d_M_enter_47 : decode b_M_enter 47 = .ok (.istore_n 1, 1) := by decide +kernel
theorem d_M_enter_48 : decode b_M_enter 48 = .ok (.iload_n 1, 1) := by decide +kernel
theorem d_M_enter_49 : decode b_M_enter 49 = .ok (.aload_n 0, 1) := by decide +kernel
theorem d_M_enter_50 : decode b_M_enter 50 = .ok (.getfield 57, 3) := by decide +kernel
theorem d_M_enter_53 : decode b_M_enter 53 = .ok (.if_icmp .ge 29, 3) := by decide +kernel
theorem d_M_enter_56 : decode b_M_enter 56 = .ok (.aload_n 0, 1) := by decide +kernel
theorem d_M_enter_57 : decode b_M_enter 57 = .ok (.getfield 16, 3) := by decide +kernel
theorem d_M_enter_60 : decode b_M_enter 60 = .ok (.bipush 8, 2) := by decide +kernel
theorem d_M_enter_62 : decode b_M_enter 62 = .ok (.aload_n 0, 1) := by decide +kernel
theorem d_M_enter_63 : decode b_M_enter 63 = .ok (.getfield 64, 3) := by decide +kernel
theorem d_M_enter_66 : decode b_M_enter 66 = .ok (.imul, 1) := by decide +kernel
theorem d_M_enter_67 : decode b_M_enter 67 = .ok (.iload_n 1, 1) := by decide +kernel
theorem d_M_enter_68 : decode b_M_enter 68 = .ok (.iadd, 1) := by decide +kernel
theorem d_M_enter_69 : decode b_M_enter 69 = .ok (.aload_n 0, 1) := by decide +kernel
theorem d_M_enter_70 : decode b_M_enter 70 = .ok (.getfield 7, 3) := by decide +kernel
theorem d_M_enter_73 : decode b_M_enter 73 = .ok (.iload_n 1, 1) := by decide +kernel
theorem d_M_enter_74 : decode b_M_enter 74 = .ok (.iaload, 1) := by decide +kernel
theorem d_M_enter_75 : decode b_M_enter 75 = .ok (.iastore, 1) := by decide +kernel
theorem d_M_enter_76 : decode b_M_enter 76 = .ok (.iinc 1 1, 3) := by decide +kernel
theorem d_M_enter_79 : decode b_M_enter 79 = .ok (.goto (-31), 3) := by decide +kernel
theorem d_M_enter_82 : decode b_M_enter 82 = .ok (.aload_n 0, 1) := by decide +kernel
theorem d_M_enter_83 : decode b_M_enter 83 = .ok (.getfield 13, 3) := by decide +kernel
theorem d_M_enter_86 : decode b_M_enter 86 = .ok (.aload_n 0, 1) := by decide +kernel
theorem d_M_enter_87 : decode b_M_enter 87 = .ok (.getfield 64, 3) := by decide +kernel
theorem d_M_enter_90 : decode b_M_enter 90 = .ok (.aload_n 0, 1) := by decide +kernel
theorem d_M_enter_91 : decode b_M_enter 91 = .ok (.getfield 57, 3) := by decide +kernel
theorem d_M_enter_94 : decode b_M_enter 94 = .ok (.iastore, 1) := by decide +kernel
theorem d_M_enter_95 : decode b_M_enter 95 = .ok (.aload_n 0, 1) := by decide +kernel
theorem d_M_enter_96 : decode b_M_enter 96 = .ok (.dup, 1) := by decide +kernel
theorem d_M_enter_97 : decode b_M_enter 97 = .ok (.getfield 64, 3) := by decide +kernel
theorem d_M_enter_100 : decode b_M_enter 100 = .ok (.iconst 1, 1) := by decide +kernel
theorem d_M_enter_101 : decode b_M_enter 101 = .ok (.iadd, 1) := by decide +kernel
theorem d_M_enter_102 : decode b_M_enter 102 = .ok (.putfield 64, 3) := by decide +kernel
theorem d_M_enter_105 : decode b_M_enter 105 = .ok (.aload_n 0, 1) := by decide +kernel
theorem d_M_enter_106 : decode b_M_enter 106 = .ok (.getfield 64, 3) := by decide +kernel
theorem d_M_enter_109 : decode b_M_enter 109 = .ok (.iconst 1, 1) := by decide +kernel
theorem d_M_enter_110 : decode b_M_enter 110 = .ok (.isub, 1) := by decide +kernel
theorem d_M_enter_111 : decode b_M_enter 111 = .ok (.ireturn, 1) := by decide +kernel
theorem d_M_word_0 : decode b_M_word 0 = .ok (.aload_n 0, 1) := by decide +kernel
theorem d_M_word_1 : decode b_M_word 1 = .ok (.iconst 0, 1) := by decide +kernel
theorem d_M_word_2 : decode b_M_word 2 = .ok (.putfield 49, 3) := by decide +kernel
theorem d_M_word_5 : decode b_M_word 5 = .ok (.aload_n 0, 1) := by decide +kernel
theorem d_M_word_6 : decode b_M_word 6 = .ok (.invokevirtual 70, 3) := by decide +kernel
theorem d_M_word_9 : decode b_M_word 9 = .ok (.istore_n 1, 1) := by decide +kernel
theorem d_M_word_10 : decode b_M_word 10 = .ok (.aload_n 0, 1) := by decide +kernel
theorem d_M_word_11 : decode b_M_word 11 = .ok (.iconst 0, 1) := by decide +kernel
theorem d_M_word_12 : decode b_M_word 12 = .ok (.putfield 57, 3) := by decide +kernel
theorem d_M_word_15 : decode b_M_word 15 = .ok (.iload_n 1, 1) := by decide +kernel
theorem d_M_word_16 : decode b_M_word 16 = .ok (.ireturn, 1) := by decide +kernel
theorem d_M_sign_0 : decode b_M_sign 0 = .ok (.aload_n 0, 1) := by decide +kernel
theorem d_M_sign_1 : decode b_M_sign 1 = .ok (.iconst 0, 1) := by decide +kernel
theorem d_M_sign_2 : decode b_M_sign 2 = .ok (.putfield 49, 3) := by decide +kernel
theorem d_M_sign_5 : decode b_M_sign 5 = .ok (.iload_n 1, 1) := by decide +kernel
theorem d_M_sign_6 : decode b_M_sign 6 = .ok (.iconst (-1), 1) := by decide +kernel
theorem d_M_sign_7 : decode b_M_sign 7 = .ok (.if_icmp .lt 18, 3) := by decide +kernel
theorem d_M_sign_10 : decode b_M_sign 10 = .ok (.iload_n 1, 1) := by decide +kernel
theorem d_M_sign_11 : decode b_M_sign 11 = .ok (.bipush 25, 2) := by decide +kernel
theorem d_M_sign_13 : decode b_M_sign 13 = .ok (.if_icmp .gt 12, 3) := by decide +kernel
theorem d_M_sign_16 : decode b_M_sign 16 = .ok (.aload_n 0, 1) := by decide +kernel
theorem d_M_sign_17 : decode b_M_sign 17 = .ok (.getfield 74, 3) := by decide +kernel
theorem d_M_sign_20 : decode b_M_sign 20 = .ok (.bipush 60, 2) := by decide +kernel
theorem d_M_sign_22 : decode b_M_sign 22 = .ok (.if_icmp .ne 5, 3) := by decide +kernel
theorem d_M_sign_25 : decode b_M_sign 25 = .ok (.iconst 0, 1) := by decide +kernel
theorem d_M_sign_26 : decode b_M_sign 26 = .ok (.ireturn, 1) := by decide +kernel
theorem d_M_sign_27 : decode b_M_sign 27 = .ok (.aload_n 0, 1) := by decide +kernel
theorem d_M_sign_28 : decode b_M_sign 28 = .ok (.getfield 19, 3) := by decide +kernel
theorem d_M_sign_31 : decode b_M_sign 31 = .ok (.aload_n 0, 1) := by decide +kernel
theorem d_M_sign_32 : decode b_M_sign 32 = .ok (.getfield 74, 3) := by decide +kernel
theorem d_M_sign_35 : decode b_M_sign 35 = .ok (.iload_n 1, 1) := by decide +kernel
theorem d_M_sign_36 : decode b_M_sign 36 = .ok (.iastore, 1) := by decide +kernel
theorem d_M_sign_37 : decode b_M_sign 37 = .ok (.aload_n 0, 1) := by decide +kernel
theorem d_M_sign_38 : decode b_M_sign 38 = .ok (.dup, 1) := by decide +kernel
theorem d_M_sign_39 : decode b_M_sign 39 = .ok (.getfield 74, 3) := by decide +kernel
theorem d_M_sign_42 : decode b_M_sign 42 = .ok (.iconst 1, 1) := by decide +kernel
theorem d_M_sign_43 : decode b_M_sign 43 = .ok (.iadd, 1) := by decide +kernel
theorem d_M_sign_44 : decode b_M_sign 44 = .ok (.putfield 74, 3) := by decide +kernel
theorem d_M_sign_47 : decode b_M_sign 47 = .ok (.aload_n 0, 1) := by decide +kernel
theorem d_M_sign_48 : decode b_M_sign 48 = .ok (.iconst 0, 1) := by decide +kernel
theorem d_M_sign_49 : decode b_M_sign 49 = .ok (.putfield 77, 3) := by decide +kernel
theorem d_M_sign_52 : decode b_M_sign 52 = .ok (.iconst 1, 1) := by decide +kernel
theorem d_M_sign_53 : decode b_M_sign 53 = .ok (.ireturn, 1) := by decide +kernel
theorem d_M_keep_0 : decode b_M_keep 0 = .ok (.aload_n 0, 1) := by decide +kernel
theorem d_M_keep_1 : decode b_M_keep 1 = .ok (.iconst 0, 1) := by decide +kernel
theorem d_M_keep_2 : decode b_M_keep 2 = .ok (.putfield 49, 3) := by decide +kernel
theorem d_M_keep_5 : decode b_M_keep 5 = .ok (.iload_n 1, 1) := by decide +kernel
theorem d_M_keep_6 : decode b_M_keep 6 = .ok (.ifCond .lt 20, 3) := by decide +kernel
theorem d_M_keep_9 : decode b_M_keep 9 = .ok (.iload_n 1, 1) := by decide +kernel
theorem d_M_keep_10 : decode b_M_keep 10 = .ok (.bipush 25, 2) := by decide +kernel
theorem d_M_keep_12 : decode b_M_keep 12 = .ok (.if_icmp .gt 14, 3) := by decide +kernel
theorem d_M_keep_15 : decode b_M_keep 15 = .ok (.iload_n 2, 1) := by decide +kernel
theorem d_M_keep_16 : decode b_M_keep 16 = .ok (.ifCond .eq 12, 3) := by decide +kernel
theorem d_M_keep_19 : decode b_M_keep 19 = .ok (.iload_n 2, 1) := by decide +kernel
theorem d_M_keep_20 : decode b_M_keep 20 = .ok (.invokestatic 53, 3) := by decide +kernel
theorem d_M_keep_23 : decode b_M_keep 23 = .ok (.ifCond .ne 5, 3) := by decide +kernel
theorem d_M_keep_26 : decode b_M_keep 26 = .ok (.iconst 0, 1) := by decide +kernel
theorem d_M_keep_27 : decode b_M_keep 27 = .ok (.ireturn, 1) := by decide +kernel
theorem d_M_keep_28 : decode b_M_keep 28 = .ok (.aload_n 0, 1) := by decide +kernel
theorem d_M_keep_29 : decode b_M_keep 29 = .ok (.getfield 22, 3) := by decide +kernel
theorem d_M_keep_32 : decode b_M_keep 32 = .ok (.iload_n 1, 1) := by decide +kernel
theorem d_M_keep_33 : decode b_M_keep 33 = .ok (.iload_n 2, 1) := by decide +kernel
theorem d_M_keep_34 : decode b_M_keep 34 = .ok (.iastore, 1) := by decide +kernel
theorem d_M_keep_35 : decode b_M_keep 35 = .ok (.aload_n 0, 1) := by decide +kernel
theorem d_M_keep_36 : decode b_M_keep 36 = .ok (.iconst 0, 1) := by decide +kernel
theorem d_M_keep_37 : decode b_M_keep 37 = .ok (.putfield 77, 3) := by decide +kernel
theorem d_M_keep_40 : decode b_M_keep 40 = .ok (.iconst 1, 1) := by decide +kernel
theorem d_M_keep_41 : decode b_M_keep 41 = .ok (.ireturn, 1) := by decide +kernel
theorem d_M_pair_0 : decode b_M_pair 0 = .ok (.aload_n 0, 1) := by decide +kernel
theorem d_M_pair_1 : decode b_M_pair 1 = .ok (.iconst 0, 1) := by decide +kernel
theorem d_M_pair_2 : decode b_M_pair 2 = .ok (.putfield 49, 3) := by decide +kernel
theorem d_M_pair_5 : decode b_M_pair 5 = .ok (.iload_n 1, 1) := by decide +kernel
theorem d_M_pair_6 : decode b_M_pair 6 = .ok (.invokestatic 53, 3) := by decide +kernel
theorem d_M_pair_9 : decode b_M_pair 9 = .ok (.ifCond .eq 24, 3) := by decide +kernel
theorem d_M_pair_12 : decode b_M_pair 12 = .ok (.iload_n 2, 1) := by decide +kernel
theorem d_M_pair_13 : decode b_M_pair 13 = .ok (.invokestatic 53, 3) := by decide +kernel
theorem d_M_pair_16 : decode b_M_pair 16 = .ok (.ifCond .eq 17, 3) := by decide +kernel
theorem d_M_pair_19 : decode b_M_pair 19 = .ok (.iload_n 3, 1) := by decide +kernel
theorem d_M_pair_20 : decode b_M_pair 20 = .ok (.sipush (-1000), 3) := by decide +kernel
theorem d_M_pair_23 : decode b_M_pair 23 = .ok (.if_icmp .lt 10, 3) := by decide +kernel
theorem d_M_pair_26 : decode b_M_pair 26 = .ok (.iload_n 3, 1) := by decide +kernel
theorem d_M_pair_27 : decode b_M_pair 27 = .ok (.sipush 1000, 3) := by decide +kernel
theorem d_M_pair_30 : decode b_M_pair 30 = .ok (.if_icmp .le 5, 3) := by decide +kernel
theorem d_M_pair_33 : decode b_M_pair 33 = .ok (.iconst 0, 1) := by decide +kernel
theorem d_M_pair_34 : decode b_M_pair 34 = .ok (.ireturn, 1) := by decide +kernel
theorem d_M_pair_35 : decode b_M_pair 35 = .ok (.aload_n 0, 1) := by decide +kernel
theorem d_M_pair_36 : decode b_M_pair 36 = .ok (.getfield 25, 3) := by decide +kernel
theorem d_M_pair_39 : decode b_M_pair 39 = .ok (.bipush 26, 2) := by decide +kernel
theorem d_M_pair_41 : decode b_M_pair 41 = .ok (.iload_n 1, 1) := by decide +kernel
theorem d_M_pair_42 : decode b_M_pair 42 = .ok (.bipush 97, 2) := by decide +kernel
theorem d_M_pair_44 : decode b_M_pair 44 = .ok (.isub, 1) := by decide +kernel
theorem d_M_pair_45 : decode b_M_pair 45 = .ok (.imul, 1) := by decide +kernel
theorem d_M_pair_46 : decode b_M_pair 46 = .ok (.iload_n 2, 1) := by decide +kernel
theorem d_M_pair_47 : decode b_M_pair 47 = .ok (.iadd, 1) := by decide +kernel
theorem d_M_pair_48 : decode b_M_pair 48 = .ok (.bipush 97, 2) := by decide +kernel
theorem d_M_pair_50 : decode b_M_pair 50 = .ok (.isub, 1) := by decide +kernel
theorem d_M_pair_51 : decode b_M_pair 51 = .ok (.iload_n 3, 1) := by decide +kernel
theorem d_M_pair_52 : decode b_M_pair 52 = .ok (.iastore, 1) := by decide +kernel
theorem d_M_pair_53 : decode b_M_pair 53 = .ok (.iconst 1, 1) := by decide +kernel
theorem d_M_pair_54 : decode b_M_pair 54 = .ok (.ireturn, 1) := by decide +kernel
theorem d_M_weight_0 : decode b_M_weight 0 = .ok (.aload_n 0, 1) := by decide +kernel
theorem d_M_weight_1 : decode b_M_weight 1 = .ok (.getfield 25, 3) := by decide +kernel
theorem d_M_weight_4 : decode b_M_weight 4 = .ok (.bipush 26, 2) := by decide +kernel
theorem d_M_weight_6 : decode b_M_weight 6 = .ok (.iload_n 1, 1) := by decide +kernel
theorem d_M_weight_7 : decode b_M_weight 7 = .ok (.bipush 97, 2) := by decide +kernel
theorem d_M_weight_9 : decode b_M_weight 9 = .ok (.isub, 1) := by decide +kernel
theorem d_M_weight_10 : decode b_M_weight 10 = .ok (.imul, 1) := by decide +kernel
theorem d_M_weight_11 : decode b_M_weight 11 = .ok (.iload_n 2, 1) := by decide +kernel
theorem d_M_weight_12 : decode b_M_weight 12 = .ok (.iadd, 1) := by decide +kernel
theorem d_M_weight_13 : decode b_M_weight 13 = .ok (.bipush 97, 2) := by decide +kernel
theorem d_M_weight_15 : decode b_M_weight 15 = .ok (.isub, 1) := by decide +kernel
theorem d_M_weight_16 : decode b_M_weight 16 = .ok (.iaload, 1) := by decide +kernel
theorem d_M_weight_17 : decode b_M_weight 17 = .ok (.ireturn, 1) := by decide +kernel
theorem d_M_isIn_0 : decode b_M_isIn 0 = .ok (.iconst 0, 1) := by decide +kernel
theorem d_M_isIn_1 : decode b_M_isIn 1 = .ok (.istore_n 2, 1) := by decide +kernel
theorem d_M_isIn_2 : decode b_M_isIn 2 = .ok (.iload_n 2, 1) := by decide +kernel
theorem d_M_isIn_3 : decode b_M_isIn 3 = .ok (.aload_n 0, 1) := by decide +kernel
theorem d_M_isIn_4 : decode b_M_isIn 4 = .ok (.getfield 74, 3) := by decide +kernel
theorem d_M_isIn_7 : decode b_M_isIn 7 = .ok (.if_icmp .ge 21, 3) := by decide +kernel
theorem d_M_isIn_10 : decode b_M_isIn 10 = .ok (.aload_n 0, 1) := by decide +kernel
theorem d_M_isIn_11 : decode b_M_isIn 11 = .ok (.getfield 19, 3) := by decide +kernel
theorem d_M_isIn_14 : decode b_M_isIn 14 = .ok (.iload_n 2, 1) := by decide +kernel
theorem d_M_isIn_15 : decode b_M_isIn 15 = .ok (.iaload, 1) := by decide +kernel
theorem d_M_isIn_16 : decode b_M_isIn 16 = .ok (.iload_n 1, 1) := by decide +kernel
theorem d_M_isIn_17 : decode b_M_isIn 17 = .ok (.if_icmp .ne 5, 3) := by decide +kernel
theorem d_M_isIn_20 : decode b_M_isIn 20 = .ok (.iconst 1, 1) := by decide +kernel
theorem d_M_isIn_21 : decode b_M_isIn 21 = .ok (.ireturn, 1) := by decide +kernel
theorem d_M_isIn_22 : decode b_M_isIn 22 = .ok (.iinc 2 1, 3) := by decide +kernel
theorem d_M_isIn_25 : decode b_M_isIn 25 = .ok (.goto (-23), 3) := by decide +kernel
theorem d_M_isIn_28 : decode b_M_isIn 28 = .ok (.iconst 0, 1) := by decide +kernel
theorem d_M_isIn_29 : decode b_M_isIn 29 = .ok (.ireturn, 1) := by decide +kernel
theorem d_M_part_0 : decode b_M_part 0 = .ok (.aload_n 0, 1) := by decide +kernel
theorem d_M_part_1 : decode b_M_part 1 = .ok (.iconst 0, 1) := by decide +kernel
theorem d_M_part_2 : decode b_M_part 2 = .ok (.putfield 80, 3) := by decide +kernel
theorem d_M_part_5 : decode b_M_part 5 = .ok (.iconst 0, 1) := by decide +kernel
theorem d_M_part_6 : decode b_M_part 6 = .ok (.istore_n 1, 1) := by decide +kernel
theorem d_M_part_7 : decode b_M_part 7 = .ok (.iload_n 1, 1) := by decide +kernel
theorem d_M_part_8 : decode b_M_part 8 = .ok (.aload_n 0, 1) := by decide +kernel
theorem d_M_part_9 : decode b_M_part 9 = .ok (.getfield 74, 3) := by decide +kernel
theorem d_M_part_12 : decode b_M_part 12 = .ok (.if_icmp .ge 81, 3) := by decide +kernel
theorem d_M_part_15 : decode b_M_part 15 = .ok (.aload_n 0, 1) := by decide +kernel
theorem d_M_part_16 : decode b_M_part 16 = .ok (.getfield 19, 3) := by decide +kernel
theorem d_M_part_19 : decode b_M_part 19 = .ok (.iload_n 1, 1) := by decide +kernel
theorem d_M_part_20 : decode b_M_part 20 = .ok (.iaload, 1) := by decide +kernel
theorem d_M_part_21 : decode b_M_part 21 = .ok (.ifCond .ge 6, 3) := by decide +kernel
theorem d_M_part_24 : decode b_M_part 24 = .ok (.goto 63, 3) := by decide +kernel
theorem d_M_part_27 : decode b_M_part 27 = .ok (.iload_n 1, 1) := by decide +kernel
theorem d_M_part_28 : decode b_M_part 28 = .ok (.ifCond .eq 14, 3) := by decide +kernel
theorem d_M_part_31 : decode b_M_part 31 = .ok (.aload_n 0, 1) := by decide +kernel
theorem d_M_part_32 : decode b_M_part 32 = .ok (.getfield 19, 3) := by decide +kernel
theorem d_M_part_35 : decode b_M_part 35 = .ok (.iload_n 1, 1) := by decide +kernel
theorem d_M_part_36 : decode b_M_part 36 = .ok (.iconst 1, 1) := by decide +kernel
theorem d_M_part_37 : decode b_M_part 37 = .ok (.isub, 1) := by decide +kernel
theorem d_M_part_38 : decode b_M_part 38 = .ok (.iaload, 1) := by decide +kernel
theorem d_M_part_39 : decode b_M_part 39 = .ok (.ifCond .ge 33, 3) := by decide +kernel
theorem d_M_part_42 : decode b_M_part 42 = .ok (.aload_n 0, 1) := by decide +kernel
theorem d_M_part_43 : decode b_M_part 43 = .ok (.getfield 28, 3) := by decide +kernel
theorem d_M_part_46 : decode b_M_part 46 = .ok (.aload_n 0, 1) := by decide +kernel
theorem d_M_part_47 : decode b_M_part 47 = .ok (.getfield 80, 3) := by decide +kernel
theorem d_M_part_50 : decode b_M_part 50 = .ok (.iload_n 1, 1) := by decide +kernel
theorem d_M_part_51 : decode b_M_part 51 = .ok (.iastore, 1) := by decide +kernel
theorem d_M_part_52 : decode b_M_part 52 = .ok (.aload_n 0, 1) := by decide +kernel
theorem d_M_part_53 : decode b_M_part 53 = .ok (.getfield 31, 3) := by decide +kernel
theorem d_M_part_56 : decode b_M_part 56 = .ok (.aload_n 0, 1) := by decide +kernel
theorem d_M_part_57 : decode b_M_part 57 = .ok (.getfield 80, 3) := by decide +kernel
theorem d_M_part_60 : decode b_M_part 60 = .ok (.iconst 0, 1) := by decide +kernel
theorem d_M_part_61 : decode b_M_part 61 = .ok (.iastore, 1) := by decide +kernel
theorem d_M_part_62 : decode b_M_part 62 = .ok (.aload_n 0, 1) := by decide +kernel
theorem d_M_part_63 : decode b_M_part 63 = .ok (.dup, 1) := by decide +kernel
theorem d_M_part_64 : decode b_M_part 64 = .ok (.getfield 80, 3) := by decide +kernel
theorem d_M_part_67 : decode b_M_part 67 = .ok (.iconst 1, 1) := by decide +kernel
theorem d_M_part_68 : decode b_M_part 68 = .ok (.iadd, 1) := by decide +kernel
theorem d_M_part_69 : decode b_M_part 69 = .ok (.putfield 80, 3) := by decide +kernel
theorem d_M_part_72 : decode b_M_part 72 = .ok (.aload_n 0, 1) := by decide +kernel
theorem d_M_part_73 : decode b_M_part 73 = .ok (.getfield 31, 3) := by decide +kernel
theorem d_M_part_76 : decode b_M_part 76 = .ok (.aload_n 0, 1) := by decide +kernel
theorem d_M_part_77 : decode b_M_part 77 = .ok (.getfield 80, 3) := by decide +kernel
theorem d_M_part_80 : decode b_M_part 80 = .ok (.iconst 1, 1) := by decide +kernel
theorem d_M_part_81 : decode b_M_part 81 = .ok (.isub, 1) := by decide +kernel
theorem d_M_part_82 : decode b_M_part 82 = .ok (.dup2, 1) := by decide +kernel
theorem d_M_part_83 : decode b_M_part 83 = .ok (.iaload, 1) := by decide +kernel
theorem d_M_part_84 : decode b_M_part 84 = .ok (.iconst 1, 1) := by decide +kernel
theorem d_M_part_85 : decode b_M_part 85 = .ok (.iadd, 1) := by decide +kernel
theorem d_M_part_86 : decode b_M_part 86 = .ok (.iastore, 1) := by decide +kernel
theorem d_M_part_87 : decode b_M_part 87 = .ok (.iinc 1 1, 3) := by decide +kernel
theorem d_M_part_90 : decode b_M_part 90 = .ok (.goto (-83), 3) := by decide +kernel
theorem d_M_part_93 : decode b_M_part 93 = .ok (.return_, 1) := by decide +kernel
theorem d_M_codewords_0 : decode b_M_codewords 0 = .ok (.aload_n 0, 1) := by decide +kernel
theorem d_M_codewords_1 : decode b_M_codewords 1 = .ok (.iconst 0, 1) := by decide +kernel
theorem d_M_codewords_2 : decode b_M_codewords 2 = .ok (.putfield 49, 3) := by decide +kernel
theorem d_M_codewords_5 : decode b_M_codewords 5 = .ok (.aload_n 0, 1) := by decide +kernel
theorem d_M_codewords_6 : decode b_M_codewords 6 = .ok (.invokevirtual 83, 3) := by decide +kernel
theorem d_M_codewords_9 : decode b_M_codewords 9 = .ok (.aload_n 0, 1) := by decide +kernel
theorem d_M_codewords_10 : decode b_M_codewords 10 = .ok (.getfield 80, 3) := by decide +kernel
theorem d_M_codewords_13 : decode b_M_codewords 13 = .ok (.ireturn, 1) := by decide +kernel
theorem d_M_tell_0 : decode b_M_tell 0 = .ok (.aload_n 0, 1) := by decide +kernel
theorem d_M_tell_1 : decode b_M_tell 1 = .ok (.getfield 37, 3) := by decide +kernel
theorem d_M_tell_4 : decode b_M_tell 4 = .ok (.iload_n 1, 1) := by decide +kernel
theorem d_M_tell_5 : decode b_M_tell 5 = .ok (.iaload, 1) := by decide +kernel
theorem d_M_tell_6 : decode b_M_tell 6 = .ok (.ifCond .eq 19, 3) := by decide +kernel
theorem d_M_tell_9 : decode b_M_tell 9 = .ok (.aload_n 0, 1) := by decide +kernel
theorem d_M_tell_10 : decode b_M_tell 10 = .ok (.getfield 37, 3) := by decide +kernel
theorem d_M_tell_13 : decode b_M_tell 13 = .ok (.iload_n 1, 1) := by decide +kernel
theorem d_M_tell_14 : decode b_M_tell 14 = .ok (.iaload, 1) := by decide +kernel
theorem d_M_tell_15 : decode b_M_tell 15 = .ok (.iload_n 2, 1) := by decide +kernel
theorem d_M_tell_16 : decode b_M_tell 16 = .ok (.if_icmp .ne 7, 3) := by decide +kernel
theorem d_M_tell_19 : decode b_M_tell 19 = .ok (.iconst 1, 1) := by decide +kernel
theorem d_M_tell_20 : decode b_M_tell 20 = .ok (.goto 4, 3) := by decide +kernel
theorem d_M_tell_23 : decode b_M_tell 23 = .ok (.iconst 0, 1) := by decide +kernel
theorem d_M_tell_24 : decode b_M_tell 24 = .ok (.ireturn, 1) := by decide +kernel
theorem d_M_tell_25 : decode b_M_tell 25 = .ok (.iconst 0, 1) := by decide +kernel
theorem d_M_tell_26 : decode b_M_tell 26 = .ok (.istore_n 3, 1) := by decide +kernel
theorem d_M_tell_27 : decode b_M_tell 27 = .ok (.iload_n 3, 1) := by decide +kernel
theorem d_M_tell_28 : decode b_M_tell 28 = .ok (.bipush 26, 2) := by decide +kernel
theorem d_M_tell_30 : decode b_M_tell 30 = .ok (.if_icmp .ge 21, 3) := by decide +kernel
theorem d_M_tell_33 : decode b_M_tell 33 = .ok (.aload_n 0, 1) := by decide +kernel
theorem d_M_tell_34 : decode b_M_tell 34 = .ok (.getfield 37, 3) := by decide +kernel
theorem d_M_tell_37 : decode b_M_tell 37 = .ok (.iload_n 3, 1) := by decide +kernel
theorem d_M_tell_38 : decode b_M_tell 38 = .ok (.iaload, 1) := by decide +kernel
theorem d_M_tell_39 : decode b_M_tell 39 = .ok (.iload_n 2, 1) := by decide +kernel
theorem d_M_tell_40 : decode b_M_tell 40 = .ok (.if_icmp .ne 5, 3) := by decide +kernel
theorem d_M_tell_43 : decode b_M_tell 43 = .ok (.iconst 0, 1) := by decide +kernel
theorem d_M_tell_44 : decode b_M_tell 44 = .ok (.ireturn, 1) := by decide +kernel
theorem d_M_tell_45 : decode b_M_tell 45 = .ok (.iinc 3 1, 3) := by decide +kernel
theorem d_M_tell_48 : decode b_M_tell 48 = .ok (.goto (-21), 3) := by decide +kernel
theorem d_M_tell_51 : decode b_M_tell 51 = .ok (.aload_n 0, 1) := by decide +kernel
theorem d_M_tell_52 : decode b_M_tell 52 = .ok (.getfield 37, 3) := by decide +kernel
theorem d_M_tell_55 : decode b_M_tell 55 = .ok (.iload_n 1, 1) := by decide +kernel
theorem d_M_tell_56 : decode b_M_tell 56 = .ok (.iload_n 2, 1) := by decide +kernel
theorem d_M_tell_57 : decode b_M_tell 57 = .ok (.iastore, 1) := by decide +kernel
theorem d_M_tell_58 : decode b_M_tell 58 = .ok (.iconst 1, 1) := by decide +kernel
theorem d_M_tell_59 : decode b_M_tell 59 = .ok (.ireturn, 1) := by decide +kernel
theorem d_M_fits_0 : decode b_M_fits 0 = .ok (.iconst 0, 1) := by decide +kernel
theorem d_M_fits_1 : decode b_M_fits 1 = .ok (.istore_n 2, 1) := by decide +kernel
theorem d_M_fits_2 : decode b_M_fits 2 = .ok (.iload_n 2, 1) := by decide +kernel
theorem d_M_fits_3 : decode b_M_fits 3 = .ok (.bipush 26, 2) := by decide +kernel
theorem d_M_fits_5 : decode b_M_fits 5 = .ok (.if_icmp .ge 16, 3) := by decide +kernel
theorem d_M_fits_8 : decode b_M_fits 8 = .ok (.aload_n 0, 1) := by decide +kernel
theorem d_M_fits_9 : decode b_M_fits 9 = .ok (.getfield 37, 3) := by decide +kernel
theorem d_M_fits_12 : decode b_M_fits 12 = .ok (.iload_n 2, 1) := by decide +kernel
theorem d_M_fits_13 : decode b_M_fits 13 = .ok (.iconst 0, 1) := by decide +kernel
theorem d_M_fits_14 : decode b_M_fits 14 = .ok (.iastore, 1) := by decide +kernel
theorem d_M_fits_15 : decode b_M_fits 15 = .ok (.iinc 2 1, 3) := by decide +kernel
theorem d_M_fits_18 : decode b_M_fits 18 = .ok (.goto (-16), 3) := by decide +kernel
theorem d_M_fits_21 : decode b_M_fits 21 = .ok (.iconst 0, 1) := by decide +kernel
theorem d_M_fits_22 : decode b_M_fits 22 = .ok (.istore_n 2, 1) := by decide +kernel
