theorem d_S_init_0 : decode b_S_init 0 = .ok (.aload_n 0, 1) := by decide +kernel
theorem d_S_init_1 : decode b_S_init 1 = .ok (.invokespecial 3, 3) := by decide +kernel
theorem d_S_init_4 : decode b_S_init 4 = .ok (.aload_n 0, 1) := by decide +kernel
theorem d_S_init_5 : decode b_S_init 5 = .ok (.bipush 26, 2) := by decide +kernel
theorem d_S_init_7 : decode b_S_init 7 = .ok (.newarray .int, 2) := by decide +kernel
theorem d_S_init_9 : decode b_S_init 9 = .ok (.putfield 9, 3) := by decide +kernel
theorem d_S_init_12 : decode b_S_init 12 = .ok (.aload_n 0, 1) := by decide +kernel
theorem d_S_init_13 : decode b_S_init 13 = .ok (.bipush 26, 2) := by decide +kernel
theorem d_S_init_15 : decode b_S_init 15 = .ok (.newarray .boolean, 2) := by decide +kernel
theorem d_S_init_17 : decode b_S_init 17 = .ok (.putfield 15, 3) := by decide +kernel
theorem d_S_init_20 : decode b_S_init 20 = .ok (.aload_n 0, 1) := by decide +kernel
theorem d_S_init_21 : decode b_S_init 21 = .ok (.bipush 26, 2) := by decide +kernel
theorem d_S_init_23 : decode b_S_init 23 = .ok (.newarray .int, 2) := by decide +kernel
theorem d_S_init_25 : decode b_S_init 25 = .ok (.putfield 19, 3) := by decide +kernel
theorem d_S_init_28 : decode b_S_init 28 = .ok (.aload_n 0, 1) := by decide +kernel
theorem d_S_init_29 : decode b_S_init 29 = .ok (.iconst 0, 1) := by decide +kernel
theorem d_S_init_30 : decode b_S_init 30 = .ok (.putfield 22, 3) := by decide +kernel
theorem d_S_init_33 : decode b_S_init 33 = .ok (.aload_n 0, 1) := by decide +kernel
theorem d_S_init_34 : decode b_S_init 34 = .ok (.iconst 0, 1) := by decide +kernel
theorem d_S_init_35 : decode b_S_init 35 = .ok (.putfield 26, 3) := by decide +kernel
theorem d_S_init_38 : decode b_S_init 38 = .ok (.aload_n 0, 1) := by decide +kernel
theorem d_S_init_39 : decode b_S_init 39 = .ok (.iconst 0, 1) := by decide +kernel
theorem d_S_init_40 : decode b_S_init 40 = .ok (.putfield 29, 3) := by decide +kernel
theorem d_S_init_43 : decode b_S_init 43 = .ok (.aload_n 0, 1) := by decide +kernel
theorem d_S_init_44 : decode b_S_init 44 = .ok (.iconst 0, 1) := by decide +kernel
theorem d_S_init_45 : decode b_S_init 45 = .ok (.putfield 32, 3) := by decide +kernel
theorem d_S_init_48 : decode b_S_init 48 = .ok (.aload_n 0, 1) := by decide +kernel
theorem d_S_init_49 : decode b_S_init 49 = .ok (.iconst 0, 1) := by decide +kernel
theorem d_S_init_50 : decode b_S_init 50 = .ok (.putfield 35, 3) := by decide +kernel
theorem d_S_init_53 : decode b_S_init 53 = .ok (.aload_n 0, 1) := by decide +kernel
theorem d_S_init_54 : decode b_S_init 54 = .ok (.aload_n 1, 1) := by decide +kernel
theorem d_S_init_55 : decode b_S_init 55 = .ok (.putfield 39, 3) := by decide +kernel
theorem d_S_init_58 : decode b_S_init 58 = .ok (.aload_n 0, 1) := by decide +kernel
theorem d_S_init_59 : decode b_S_init 59 = .ok (.aload_n 2, 1) := by decide +kernel
theorem d_S_init_60 : decode b_S_init 60 = .ok (.putfield 43, 3) := by decide +kernel
theorem d_S_init_63 : decode b_S_init 63 = .ok (.aload_n 0, 1) := by decide +kernel
theorem d_S_init_64 : decode b_S_init 64 = .ok (.aload_n 3, 1) := by decide +kernel
theorem d_S_init_65 : decode b_S_init 65 = .ok (.putfield 47, 3) := by decide +kernel
theorem d_S_init_68 : decode b_S_init 68 = .ok (.return_, 1) := by decide +kernel
theorem d_S_stepsMade_0 : decode b_S_stepsMade 0 = .ok (.aload_n 0, 1) := by decide +kernel
theorem d_S_stepsMade_1 : decode b_S_stepsMade 1 = .ok (.getfield 29, 3) := by decide +kernel
theorem d_S_stepsMade_4 : decode b_S_stepsMade 4 = .ok (.ireturn, 1) := by decide +kernel
theorem d_S_seekAll_0 : decode b_S_seekAll 0 = .ok (.aload_n 0, 1) := by decide +kernel
theorem d_S_seekAll_1 : decode b_S_seekAll 1 = .ok (.getfield 47, 3) := by decide +kernel
theorem d_S_seekAll_4 : decode b_S_seekAll 4 = .ok (.invokevirtual 51, 3) := by decide +kernel
theorem d_S_seekAll_7 : decode b_S_seekAll 7 = .ok (.aload_n 0, 1) := by decide +kernel
theorem d_S_seekAll_8 : decode b_S_seekAll 8 = .ok (.iload_n 1, 1) := by decide +kernel
theorem d_S_seekAll_9 : decode b_S_seekAll 9 = .ok (.putfield 26, 3) := by decide +kernel
theorem d_S_seekAll_12 : decode b_S_seekAll 12 = .ok (.aload_n 0, 1) := by decide +kernel
theorem d_S_seekAll_13 : decode b_S_seekAll 13 = .ok (.iconst 0, 1) := by decide +kernel
theorem d_S_seekAll_14 : decode b_S_seekAll 14 = .ok (.putfield 29, 3) := by decide +kernel
theorem d_S_seekAll_17 : decode b_S_seekAll 17 = .ok (.aload_n 0, 1) := by decide +kernel
theorem d_S_seekAll_18 : decode b_S_seekAll 18 = .ok (.iconst 0, 1) := by decide +kernel
theorem d_S_seekAll_19 : decode b_S_seekAll 19 = .ok (.putfield 32, 3) := by decide +kernel
theorem d_S_seekAll_22 : decode b_S_seekAll 22 = .ok (.aload_n 0, 1) := by decide +kernel
theorem d_S_seekAll_23 : decode b_S_seekAll 23 = .ok (.iconst 0, 1) := by decide +kernel
theorem d_S_seekAll_24 : decode b_S_seekAll 24 = .ok (.putfield 35, 3) := by decide +kernel
theorem d_S_seekAll_27 : decode b_S_seekAll 27 = .ok (.aload_n 0, 1) := by decide +kernel
theorem d_S_seekAll_28 : decode b_S_seekAll 28 = .ok (.invokevirtual 56, 3) := by decide +kernel
theorem d_S_seekAll_31 : decode b_S_seekAll 31 = .ok (.ifCond .eq 8, 3) := by decide +kernel
theorem d_S_seekAll_34 : decode b_S_seekAll 34 = .ok (.aload_n 0, 1) := by decide +kernel
theorem d_S_seekAll_35 : decode b_S_seekAll 35 = .ok (.iconst 0, 1) := by decide +kernel
theorem d_S_seekAll_36 : decode b_S_seekAll 36 = .ok (.invokevirtual 60, 3) := by decide +kernel
theorem d_S_seekAll_39 : decode b_S_seekAll 39 = .ok (.aload_n 0, 1) := by decide +kernel
theorem d_S_seekAll_40 : decode b_S_seekAll 40 = .ok (.getfield 35, 3) := by decide +kernel
theorem d_S_seekAll_43 : decode b_S_seekAll 43 = .ok (.ifCond .eq 12, 3) := by decide +kernel
theorem d_S_seekAll_46 : decode b_S_seekAll 46 = .ok (.aload_n 0, 1) := by decide +kernel
theorem d_S_seekAll_47 : decode b_S_seekAll 47 = .ok (.getfield 47, 3) := by decide +kernel
theorem d_S_seekAll_50 : decode b_S_seekAll 50 = .ok (.invokevirtual 51, 3) := by decide +kernel
theorem d_S_seekAll_53 : decode b_S_seekAll 53 = .ok (.iconst (-1), 1) := by decide +kernel
theorem d_S_seekAll_54 : decode b_S_seekAll 54 = .ok (.ireturn, 1) := by decide +kernel
theorem d_S_seekAll_55 : decode b_S_seekAll 55 = .ok (.aload_n 0, 1) := by decide +kernel
theorem d_S_seekAll_56 : decode b_S_seekAll 56 = .ok (.getfield 32, 3) := by decide +kernel
theorem d_S_seekAll_59 : decode b_S_seekAll 59 = .ok (.ireturn, 1) := by decide +kernel
theorem d_S_beginWithKept_0 : decode b_S_beginWithKept 0 = .ok (.aload_n 0, 1) := by decide +kernel
theorem d_S_beginWithKept_1 : decode b_S_beginWithKept 1 = .ok (.iconst 0, 1) := by decide +kernel
theorem d_S_beginWithKept_2 : decode b_S_beginWithKept 2 = .ok (.putfield 22, 3) := by decide +kernel
theorem d_S_beginWithKept_5 : decode b_S_beginWithKept 5 = .ok (.aload_n 0, 1) := by decide +kernel
theorem d_S_beginWithKept_6 : decode b_S_beginWithKept 6 = .ok (.getfield 9, 3) := by decide +kernel
theorem d_S_beginWithKept_9 : decode b_S_beginWithKept 9 = .ok (.iconst (-1), 1) := by decide +kernel
theorem d_S_beginWithKept_10 : decode b_S_beginWithKept 10 = .ok (.invokestatic 64, 3) := by decide +kernel
theorem d_S_beginWithKept_13 : decode b_S_beginWithKept 13 = .ok (.iconst 0, 1) := by decide +kernel
theorem d_S_beginWithKept_14 : decode b_S_beginWithKept 14 = .ok (.istore_n 1, 1) := by decide +kernel
theorem d_S_beginWithKept_15 : decode b_S_beginWithKept 15 = .ok (.iload_n 1, 1) := by decide +kernel
theorem d_S_beginWithKept_16 : decode b_S_beginWithKept 16 = .ok (.bipush 26, 2) := by decide +kernel
theorem d_S_beginWithKept_18 : decode b_S_beginWithKept 18 = .ok (.if_icmp .ge 16, 3) := by decide +kernel
theorem d_S_beginWithKept_21 : decode b_S_beginWithKept 21 = .ok (.aload_n 0, 1) := by decide +kernel
theorem d_S_beginWithKept_22 : decode b_S_beginWithKept 22 = .ok (.getfield 15, 3) := by decide +kernel
theorem d_S_beginWithKept_25 : decode b_S_beginWithKept 25 = .ok (.iload_n 1, 1) := by decide +kernel
theorem d_S_beginWithKept_26 : decode b_S_beginWithKept 26 = .ok (.iconst 0, 1) := by decide +kernel
theorem d_S_beginWithKept_27 : decode b_S_beginWithKept 27 = .ok (.bastore, 1) := by decide +kernel
theorem d_S_beginWithKept_28 : decode b_S_beginWithKept 28 = .ok (.iinc 1 1, 3) := by decide +kernel
theorem d_S_beginWithKept_31 : decode b_S_beginWithKept 31 = .ok (.goto (-16), 3) := by decide +kernel
theorem d_S_beginWithKept_34 : decode b_S_beginWithKept 34 = .ok (.iconst 0, 1) := by decide +kernel
theorem d_S_beginWithKept_35 : decode b_S_beginWithKept 35 = .ok (.istore_n 1, 1) := by decide +kernel
theorem d_S_beginWithKept_36 : decode b_S_beginWithKept 36 = .ok (.iload_n 1, 1) := by decide +kernel
theorem d_S_beginWithKept_37 : decode b_S_beginWithKept 37 = .ok (.bipush 26, 2) := by decide +kernel
theorem d_S_beginWithKept_39 : decode b_S_beginWithKept 39 = .ok (.if_icmp .ge 61, 3) := by decide +kernel
theorem d_S_beginWithKept_42 : decode b_S_beginWithKept 42 = .ok (.aload_n 0, 1) := by decide +kernel
theorem d_S_beginWithKept_43 : decode b_S_beginWithKept 43 = .ok (.getfield 43, 3) := by decide +kernel
theorem d_S_beginWithKept_46 : decode b_S_beginWithKept 46 = .ok (.iload_n 1, 1) := by decide +kernel
theorem d_S_beginWithKept_47 : decode b_S_beginWithKept 47 = .ok (.invokevirtual 70, 3) := by decide +kernel
theorem d_S_beginWithKept_50 : decode b_S_beginWithKept 50 = .ok (.istore_n 2, 1) := by decide +kernel
theorem d_S_beginWithKept_51 : decode b_S_beginWithKept 51 = .ok (.aload_n 0, 1) := by decide +kernel
theorem d_S_beginWithKept_52 : decode b_S_beginWithKept 52 = .ok (.getfield 43, 3) := by decide +kernel
theorem d_S_beginWithKept_55 : decode b_S_beginWithKept 55 = .ok (.iload_n 1, 1) := by decide +kernel
theorem d_S_beginWithKept_56 : decode b_S_beginWithKept 56 = .ok (.invokevirtual 76, 3) := by decide +kernel
theorem d_S_beginWithKept_59 : decode b_S_beginWithKept 59 = .ok (.ifCond .eq 35, 3) := by decide +kernel
theorem d_S_beginWithKept_62 : decode b_S_beginWithKept 62 = .ok (.iload_n 2, 1) := by decide +kernel
theorem d_S_beginWithKept_63 : decode b_S_beginWithKept 63 = .ok (.invokestatic 80, 3) := by decide +kernel
theorem d_S_beginWithKept_66 : decode b_S_beginWithKept 66 = .ok (.ifCond .eq 28, 3) := by decide +kernel
theorem d_S_beginWithKept_69 : decode b_S_beginWithKept 69 = .ok (.aload_n 0, 1) := by decide +kernel
theorem d_S_beginWithKept_70 : decode b_S_beginWithKept 70 = .ok (.getfield 15, 3) := by decide +kernel
theorem d_S_beginWithKept_73 : decode b_S_beginWithKept 73 = .ok (.iload_n 2, 1) := by decide +kernel
theorem d_S_beginWithKept_74 : decode b_S_beginWithKept 74 = .ok (.baload, 1) := by decide +kernel
theorem d_S_beginWithKept_75 : decode b_S_beginWithKept 75 = .ok (.ifCond .eq 5, 3) := by decide +kernel
theorem d_S_beginWithKept_78 : decode b_S_beginWithKept 78 = .ok (.iconst 0, 1) := by decide +kernel
theorem d_S_beginWithKept_79 : decode b_S_beginWithKept 79 = .ok (.ireturn, 1) := by decide +kernel
theorem d_S_beginWithKept_80 : decode b_S_beginWithKept 80 = .ok (.aload_n 0, 1) := by decide +kernel
theorem d_S_beginWithKept_81 : decode b_S_beginWithKept 81 = .ok (.getfield 9, 3) := by decide +kernel
theorem d_S_beginWithKept_84 : decode b_S_beginWithKept 84 = .ok (.iload_n 1, 1) := by decide +kernel
theorem d_S_beginWithKept_85 : decode b_S_beginWithKept 85 = .ok (.iload_n 2, 1) := by decide +kernel
theorem d_S_beginWithKept_86 : decode b_S_beginWithKept 86 = .ok (.iastore, 1) := by decide +kernel
theorem d_S_beginWithKept_87 : decode b_S_beginWithKept 87 = .ok (.aload_n 0, 1) := by decide +kernel
theorem d_S_beginWithKept_88 : decode b_S_beginWithKept 88 = .ok (.getfield 15, 3) := by decide +kernel
theorem d_S_beginWithKept_91 : decode b_S_beginWithKept 91 = .ok (.iload_n 2, 1) := by decide +kernel
theorem d_S_beginWithKept_92 : decode b_S_beginWithKept 92 = .ok (.iconst 1, 1) := by decide +kernel
theorem d_S_beginWithKept_93 : decode b_S_beginWithKept 93 = .ok (.bastore, 1) := by decide +kernel
theorem d_S_beginWithKept_94 : decode b_S_beginWithKept 94 = .ok (.iinc 1 1, 3) := by decide +kernel
theorem d_S_beginWithKept_97 : decode b_S_beginWithKept 97 = .ok (.goto (-61), 3) := by decide +kernel
theorem d_S_beginWithKept_100 : decode b_S_beginWithKept 100 = .ok (.iconst 1, 1) := by decide +kernel
theorem d_S_beginWithKept_101 : decode b_S_beginWithKept 101 = .ok (.ireturn, 1) := by decide +kernel
theorem d_S_seekFrom_0 : decode b_S_seekFrom 0 = .ok (.iload_n 1, 1) := by decide +kernel
theorem d_S_seekFrom_1 : decode b_S_seekFrom 1 = .ok (.aload_n 0, 1) := by decide +kernel
theorem d_S_seekFrom_2 : decode b_S_seekFrom 2 = .ok (.getfield 43, 3) := by decide +kernel
theorem d_S_seekFrom_5 : decode b_S_seekFrom 5 = .ok (.invokevirtual 83, 3) := by decide +kernel
theorem d_S_seekFrom_8 : decode b_S_seekFrom 8 = .ok (.if_icmp .lt 25, 3) := by decide +kernel
theorem d_S_seekFrom_11 : decode b_S_seekFrom 11 = .ok (.aload_n 0, 1) := by decide +kernel
theorem d_S_seekFrom_12 : decode b_S_seekFrom 12 = .ok (.dup, 1) := by decide +kernel
theorem d_S_seekFrom_13 : decode b_S_seekFrom 13 = .ok (.getfield 32, 3) := by decide +kernel
theorem d_S_seekFrom_16 : decode b_S_seekFrom 16 = .ok (.iconst 1, 1) := by decide +kernel
theorem d_S_seekFrom_17 : decode b_S_seekFrom 17 = .ok (.iadd, 1) := by decide +kernel
theorem d_S_seekFrom_18 : decode b_S_seekFrom 18 = .ok (.putfield 32, 3) := by decide +kernel
theorem d_S_seekFrom_21 : decode b_S_seekFrom 21 = .ok (.aload_n 0, 1) := by decide +kernel
theorem d_S_seekFrom_22 : decode b_S_seekFrom 22 = .ok (.getfield 47, 3) := by decide +kernel
theorem d_S_seekFrom_25 : decode b_S_seekFrom 25 = .ok (.aload_n 0, 1) := by decide +kernel
theorem d_S_seekFrom_26 : decode b_S_seekFrom 26 = .ok (.getfield 9, 3) := by decide +kernel
theorem d_S_seekFrom_29 : decode b_S_seekFrom 29 = .ok (.invokevirtual 87, 3) := by decide +kernel
theorem d_S_seekFrom_32 : decode b_S_seekFrom 32 = .ok (.return_, 1) := by decide +kernel
theorem d_S_seekFrom_33 : decode b_S_seekFrom 33 = .ok (.aload_n 0, 1) := by decide +kernel
theorem d_S_seekFrom_34 : decode b_S_seekFrom 34 = .ok (.getfield 43, 3) := by decide +kernel
theorem d_S_seekFrom_37 : decode b_S_seekFrom 37 = .ok (.iload_n 1, 1) := by decide +kernel
theorem d_S_seekFrom_38 : decode b_S_seekFrom 38 = .ok (.invokevirtual 91, 3) := by decide +kernel
theorem d_S_seekFrom_41 : decode b_S_seekFrom 41 = .ok (.istore_n 2, 1) := by decide +kernel
theorem d_S_seekFrom_42 : decode b_S_seekFrom 42 = .ok (.iconst 0, 1) := by decide +kernel
theorem d_S_seekFrom_43 : decode b_S_seekFrom 43 = .ok (.istore_n 3, 1) := by decide +kernel
theorem d_S_seekFrom_44 : decode b_S_seekFrom 44 = .ok (.iload_n 3, 1) := by decide +kernel
theorem d_S_seekFrom_45 : decode b_S_seekFrom 45 = .ok (.aload_n 0, 1) := by decide +kernel
theorem d_S_seekFrom_46 : decode b_S_seekFrom 46 = .ok (.getfield 39, 3) := by decide +kernel
theorem d_S_seekFrom_49 : decode b_S_seekFrom 49 = .ok (.invokevirtual 94, 3) := by decide +kernel
theorem d_S_seekFrom_52 : decode b_S_seekFrom 52 = .ok (.if_icmp .ge 34, 3) := by decide +kernel
theorem d_S_seekFrom_55 : decode b_S_seekFrom 55 = .ok (.aload_n 0, 1) := by decide +kernel
theorem d_S_seekFrom_56 : decode b_S_seekFrom 56 = .ok (.getfield 35, 3) := by decide +kernel
theorem d_S_seekFrom_59 : decode b_S_seekFrom 59 = .ok (.ifCond .ne 27, 3) := by decide +kernel
theorem d_S_seekFrom_62 : decode b_S_seekFrom 62 = .ok (.aload_n 0, 1) := by decide +kernel
theorem d_S_seekFrom_63 : decode b_S_seekFrom 63 = .ok (.getfield 39, 3) := by decide +kernel
theorem d_S_seekFrom_66 : decode b_S_seekFrom 66 = .ok (.iload_n 3, 1) := by decide +kernel
theorem d_S_seekFrom_67 : decode b_S_seekFrom 67 = .ok (.invokevirtual 99, 3) := by decide +kernel
theorem d_S_seekFrom_70 : decode b_S_seekFrom 70 = .ok (.iload_n 2, 1) := by decide +kernel
theorem d_S_seekFrom_71 : decode b_S_seekFrom 71 = .ok (.if_icmp .ne 9, 3) := by decide +kernel
theorem d_S_seekFrom_74 : decode b_S_seekFrom 74 = .ok (.aload_n 0, 1) := by decide +kernel
theorem d_S_seekFrom_75 : decode b_S_seekFrom 75 = .ok (.iload_n 1, 1) := by decide +kernel
theorem d_S_seekFrom_76 : decode b_S_seekFrom 76 = .ok (.iload_n 3, 1) := by decide +kernel
theorem d_S_seekFrom_77 : decode b_S_seekFrom 77 = .ok (.invokevirtual 102, 3) := by decide +kernel
theorem d_S_seekFrom_80 : decode b_S_seekFrom 80 = .ok (.iinc 3 1, 3) := by decide +kernel
theorem d_S_seekFrom_83 : decode b_S_seekFrom 83 = .ok (.goto (-39), 3) := by decide +kernel
theorem d_S_seekFrom_86 : decode b_S_seekFrom 86 = .ok (.return_, 1) := by decide +kernel
theorem d_S_tryWord_0 : decode b_S_tryWord 0 = .ok (.aload_n 0, 1) := by decide +kernel
theorem d_S_tryWord_1 : decode b_S_tryWord 1 = .ok (.getfield 29, 3) := by decide +kernel
theorem d_S_tryWord_4 : decode b_S_tryWord 4 = .ok (.aload_n 0, 1) := by decide +kernel
theorem d_S_tryWord_5 : decode b_S_tryWord 5 = .ok (.getfield 26, 3) := by decide +kernel
theorem d_S_tryWord_8 : decode b_S_tryWord 8 = .ok (.if_icmp .lt 9, 3) := by decide +kernel
theorem d_S_tryWord_11 : decode b_S_tryWord 11 = .ok (.aload_n 0, 1) := by decide +kernel
theorem d_S_tryWord_12 : decode b_S_tryWord 12 = .ok (.iconst 1, 1) := by decide +kernel
theorem d_S_tryWord_13 : decode b_S_tryWord 13 = .ok (.putfield 35, 3) := by decide +kernel
theorem d_S_tryWord_16 : decode b_S_tryWord 16 = .ok (.return_, 1) := by decide +kernel
theorem d_S_tryWord_17 : decode b_S_tryWord 17 = .ok (.aload_n 0, 1) := by decide +kernel
theorem d_S_tryWord_18 : decode b_S_tryWord 18 = .ok (.dup, 1) := by decide +kernel
theorem d_S_tryWord_19 : decode b_S_tryWord 19 = .ok (.getfield 29, 3) := by decide +kernel
theorem d_S_tryWord_22 : decode b_S_tryWord 22 = .ok (.iconst 1, 1) := by decide +kernel
theorem d_S_tryWord_23 : decode b_S_tryWord 23 = .ok (.iadd, 1) := by decide +kernel
theorem d_S_tryWord_24 : decode b_S_tryWord 24 = .ok (.putfield 29, 3) := by decide +kernel
theorem d_S_tryWord_27 : decode b_S_tryWord 27 = .ok (.aload_n 0, 1) := by decide +kernel
theorem d_S_tryWord_28 : decode b_S_tryWord 28 = .ok (.getfield 22, 3) := by decide +kernel
theorem d_S_tryWord_31 : decode b_S_tryWord 31 = .ok (.istore_n 3, 1) := by decide +kernel
theorem d_S_tryWord_32 : decode b_S_tryWord 32 = .ok (.aload_n 0, 1) := by decide +kernel
theorem d_S_tryWord_33 : decode b_S_tryWord 33 = .ok (.iload_n 1, 1) := by decide +kernel
theorem d_S_tryWord_34 : decode b_S_tryWord 34 = .ok (.iload_n 2, 1) := by decide +kernel
theorem d_S_tryWord_35 : decode b_S_tryWord 35 = .ok (.invokevirtual 106, 3) := by decide +kernel
theorem d_S_tryWord_38 : decode b_S_tryWord 38 = .ok (.ifCond .eq 10, 3) := by decide +kernel
theorem d_S_tryWord_41 : decode b_S_tryWord 41 = .ok (.aload_n 0, 1) := by decide +kernel
theorem d_S_tryWord_42 : decode b_S_tryWord 42 = .ok (.iload_n 1, 1) := by decide +kernel
theorem d_S_tryWord_43 : decode b_S_tryWord 43 = .ok (.iconst 1, 1) := by decide +kernel
theorem d_S_tryWord_44 : decode b_S_tryWord 44 = .ok (.iadd, 1) := by decide +kernel
theorem d_S_tryWord_45 : decode b_S_tryWord 45 = .ok (.invokevirtual 60, 3) := by decide +kernel
theorem d_S_tryWord_48 : decode b_S_tryWord 48 = .ok (.aload_n 0, 1) := by decide +kernel
theorem d_S_tryWord_49 : decode b_S_tryWord 49 = .ok (.iload_n 3, 1) := by decide +kernel
theorem d_S_tryWord_50 : decode b_S_tryWord 50 = .ok (.invokevirtual 110, 3) := by decide +kernel
theorem d_S_tryWord_53 : decode b_S_tryWord 53 = .ok (.return_, 1) := by decide +kernel
theorem d_S_agrees_0 : decode b_S_agrees 0 = .ok (.aload_n 0, 1) := by decide +kernel
theorem d_S_agrees_1 : decode b_S_agrees 1 = .ok (.getfield 39, 3) := by decide +kernel
theorem d_S_agrees_4 : decode b_S_agrees 4 = .ok (.iload_n 2, 1) := by decide +kernel
theorem d_S_agrees_5 : decode b_S_agrees 5 = .ok (.invokevirtual 99, 3) := by decide +kernel
theorem d_S_agrees_8 : decode b_S_agrees 8 = .ok (.istore_n 3, 1) := by decide +kernel
theorem d_S_agrees_9 : decode b_S_agrees 9 = .ok (.iconst 0, 1) := by decide +kernel
theorem d_S_agrees_10 : decode b_S_agrees 10 = .ok (.istore 4, 2) := by decide +kernel
theorem d_S_agrees_12 : decode b_S_agrees 12 = .ok (.iload 4, 2) := by decide +kernel
theorem d_S_agrees_14 : decode b_S_agrees 14 = .ok (.iload_n 3, 1) := by decide +kernel
theorem d_S_agrees_15 : decode b_S_agrees 15 = .ok (.if_icmp .ge 38, 3) := by decide +kernel
theorem d_S_agrees_18 : decode b_S_agrees 18 = .ok (.aload_n 0, 1) := by decide +kernel
theorem d_S_agrees_19 : decode b_S_agrees 19 = .ok (.aload_n 0, 1) := by decide +kernel
theorem d_S_agrees_20 : decode b_S_agrees 20 = .ok (.getfield 43, 3) := by decide +kernel
theorem d_S_agrees_23 : decode b_S_agrees 23 = .ok (.iload_n 1, 1) := by decide +kernel
theorem d_S_agrees_24 : decode b_S_agrees 24 = .ok (.iload 4, 2) := by decide +kernel
theorem d_S_agrees_26 : decode b_S_agrees 26 = .ok (.invokevirtual 113, 3) := by decide +kernel
theorem d_S_agrees_29 : decode b_S_agrees 29 = .ok (.aload_n 0, 1) := by decide +kernel
theorem d_S_agrees_30 : decode b_S_agrees 30 = .ok (.getfield 39, 3) := by decide +kernel
theorem d_S_agrees_33 : decode b_S_agrees 33 = .ok (.iload_n 2, 1) := by decide +kernel
theorem d_S_agrees_34 : decode b_S_agrees 34 = .ok (.iload 4, 2) := by decide +kernel
theorem d_S_agrees_36 : decode b_S_agrees 36 = .ok (.invokevirtual 117, 3) := by decide +kernel
theorem d_S_agrees_39 : decode b_S_agrees 39 = .ok (.invokevirtual 120, 3) := by decide +kernel
theorem d_S_agrees_42 : decode b_S_agrees 42 = .ok (.ifCond .ne 5, 3) := by decide +kernel
theorem d_S_agrees_45 : decode b_S_agrees 45 = .ok (.iconst 0, 1) := by decide +kernel
theorem d_S_agrees_46 : decode b_S_agrees 46 = .ok (.ireturn, 1) := by decide +kernel
theorem d_S_agrees_47 : decode b_S_agrees 47 = .ok (.iinc 4 1, 3) := by decide +kernel
theorem d_S_agrees_50 : decode b_S_agrees 50 = .ok (.goto (-38), 3) := by decide +kernel
theorem d_S_agrees_53 : decode b_S_agrees 53 = .ok (.iconst 1, 1) := by decide +kernel
theorem d_S_agrees_54 : decode b_S_agrees 54 = .ok (.ireturn, 1) := by decide +kernel
theorem d_S_give_0 : decode b_S_give 0 = .ok (.iload_n 1, 1) := by decide +kernel
theorem d_S_give_1 : decode b_S_give 1 = .ok (.invokestatic 123, 3) := by decide +kernel
theorem d_S_give_4 : decode b_S_give 4 = .ok (.ifCond .eq 10, 3) := by decide +kernel
theorem d_S_give_7 : decode b_S_give 7 = .ok (.iload_n 2, 1) := by decide +kernel
theorem d_S_give_8 : decode b_S_give 8 = .ok (.invokestatic 80, 3) := by decide +kernel
theorem d_S_give_11 : decode b_S_give 11 = .ok (.ifCond .ne 5, 3) := by decide +kernel
theorem d_S_give_14 : decode b_S_give 14 = .ok (.iconst 0, 1) := by decide +kernel
theorem d_S_give_15 : decode b_S_give 15 = .ok (.ireturn, 1) := by decide +kernel
theorem d_S_give_16 : decode b_S_give 16 = .ok (.aload_n 0, 1) := by decide +kernel
theorem d_S_give_17 : decode b_S_give 17 = .ok (.getfield 9, 3) := by decide +kernel
theorem d_S_give_20 : decode b_S_give 20 = .ok (.iload_n 1, 1) := by decide +kernel
theorem d_S_give_21 : decode b_S_give 21 = .ok (.iaload, 1) := by decide +kernel
theorem d_S_give_22 : decode b_S_give 22 = .ok (.iload_n 2, 1) := by decide +kernel
theorem d_S_give_23 : decode b_S_give 23 = .ok (.if_icmp .ne 5, 3) := by decide +kernel
theorem d_S_give_26 : decode b_S_give 26 = .ok (.iconst 1, 1) := by decide +kernel
theorem d_S_give_27 : decode b_S_give 27 = .ok (.ireturn, 1) := by decide +kernel
theorem d_S_give_28 : decode b_S_give 28 = .ok (.aload_n 0, 1) := by decide +kernel
theorem d_S_give_29 : decode b_S_give 29 = .ok (.getfield 9, 3) := by decide +kernel
theorem d_S_give_32 : decode b_S_give 32 = .ok (.iload_n 1, 1) := by decide +kernel
theorem d_S_give_33 : decode b_S_give 33 = .ok (.iaload, 1) := by decide +kernel
theorem d_S_give_34 : decode b_S_give 34 = .ok (.iconst (-1), 1) := by decide +kernel
theorem d_S_give_35 : decode b_S_give 35 = .ok (.if_icmp .ne 21, 3) := by decide +kernel
theorem d_S_give_38 : decode b_S_give 38 = .ok (.aload_n 0, 1) := by decide +kernel
theorem d_S_give_39 : decode b_S_give 39 = .ok (.getfield 15, 3) := by decide +kernel
theorem d_S_give_42 : decode b_S_give 42 = .ok (.iload_n 2, 1) := by decide +kernel
theorem d_S_give_43 : decode b_S_give 43 = .ok (.baload, 1) := by decide +kernel
theorem d_S_give_44 : decode b_S_give 44 = .ok (.ifCond .ne 12, 3) := by decide +kernel
theorem d_S_give_47 : decode b_S_give 47 = .ok (.aload_n 0, 1) := by decide +kernel
theorem d_S_give_48 : decode b_S_give 48 = .ok (.getfield 22, 3) := by decide +kernel
theorem d_S_give_51 : decode b_S_give 51 = .ok (.bipush 26, 2) := by decide +kernel
theorem d_S_give_53 : decode b_S_give 53 = .ok (.if_icmp .lt 5, 3) := by decide +kernel
theorem d_S_give_56 : decode b_S_give 56 = .ok (.iconst 0, 1) := by decide +kernel
theorem d_S_give_57 : decode b_S_give 57 = .ok (.ireturn, 1) := by decide +kernel
theorem d_S_give_58 : decode b_S_give 58 = .ok (.aload_n 0, 1) := by decide +kernel
theorem d_S_give_59 : decode b_S_give 59 = .ok (.getfield 9, 3) := by decide +kernel
theorem d_S_give_62 : decode b_S_give 62 = .ok (.iload_n 1, 1) := by decide +kernel
theorem d_S_give_63 : decode b_S_give 63 = .ok (.iload_n 2, 1) := by decide +kernel
theorem d_S_give_64 : decode b_S_give 64 = .ok (.iastore, 1) := by decide +kernel
theorem d_S_give_65 : decode b_S_give 65 = .ok (.aload_n 0, 1) := by decide +kernel
theorem d_S_give_66 : decode b_S_give 66 = .ok (.getfield 15, 3) := by decide +kernel
theorem d_S_give_69 : decode b_S_give 69 = .ok (.iload_n 2, 1) := by decide +kernel
theorem d_S_give_70 : decode b_S_give 70 = .ok (.iconst 1, 1) := by decide +kernel
theorem d_S_give_71 : decode b_S_give 71 = .ok (.bastore, 1) := by decide +kernel
theorem d_S_give_72 : decode b_S_give 72 = .ok (.aload_n 0, 1) := by decide +kernel
theorem d_S_give_73 : decode b_S_give 73 = .ok (.getfield 19, 3) := by decide +kernel
theorem d_S_give_76 : decode b_S_give 76 = .ok (.aload_n 0, 1) := by decide +kernel
theorem d_S_give_77 : decode b_S_give 77 = .ok (.getfield 22, 3) := by decide +kernel
theorem d_S_give_80 : decode b_S_give 80 = .ok (.iload_n 1, 1) := by decide +kernel
theorem d_S_give_81 : decode b_S_give 81 = .ok (.iastore, 1) := by decide +kernel
theorem d_S_give_82 : decode b_S_give 82 = .ok (.aload_n 0, 1) := by decide +kernel
theorem d_S_give_83 : decode b_S_give 83 = .ok (.dup, 1) := by decide +kernel
theorem d_S_give_84 : decode b_S_give 84 = .ok (.getfield 22, 3) := by decide +kernel
theorem d_S_give_87 : decode b_S_give 87 = .ok (.iconst 1, 1) := by decide +kernel
theorem d_S_give_88 : decode b_S_give 88 = .ok (.iadd, 1) := by decide +kernel
theorem d_S_give_89 : decode b_S_give 89 = .ok (.putfield 22, 3) := by decide +kernel
theorem d_S_give_92 : decode b_S_give 92 = .ok (.iconst 1, 1) := by decide +kernel
theorem d_S_give_93 : decode b_S_give 93 = .ok (.ireturn, 1) := by decide +kernel
theorem d_S_takeBack_0 : decode b_S_takeBack 0 = .ok (.aload_n 0, 1) := by decide +kernel
theorem d_S_takeBack_1 : decode b_S_takeBack 1 = .ok (.getfield 22, 3) := by decide +kernel
theorem d_S_takeBack_4 : decode b_S_takeBack 4 = .ok (.iconst 1, 1) := by decide +kernel
theorem d_S_takeBack_5 : decode b_S_takeBack 5 = .ok (.isub, 1) := by decide +kernel
theorem d_S_takeBack_6 : decode b_S_takeBack 6 = .ok (.istore_n 2, 1) := by decide +kernel
theorem d_S_takeBack_7 : decode b_S_takeBack 7 = .ok (.iload_n 2, 1) := by decide +kernel
theorem d_S_takeBack_8 : decode b_S_takeBack 8 = .ok (.iload_n 1, 1) := by decide +kernel
theorem d_S_takeBack_9 : decode b_S_takeBack 9 = .ok (.if_icmp .lt 19, 3) := by decide +kernel
theorem d_S_takeBack_12 : decode b_S_takeBack 12 = .ok (.aload_n 0, 1) := by decide +kernel
theorem d_S_takeBack_13 : decode b_S_takeBack 13 = .ok (.aload_n 0, 1) := by decide +kernel
theorem d_S_takeBack_14 : decode b_S_takeBack 14 = .ok (.getfield 19, 3) := by decide +kernel
theorem d_S_takeBack_17 : decode b_S_takeBack 17 = .ok (.iload_n 2, 1) := by decide +kernel
theorem d_S_takeBack_18 : decode b_S_takeBack 18 = .ok (.iaload, 1) := by decide +kernel
theorem d_S_takeBack_19 : decode b_S_takeBack 19 = .ok (.invokevirtual 126, 3) := by decide +kernel
theorem d_S_takeBack_22 : decode b_S_takeBack 22 = .ok (.iinc 2 (-1), 3) := by decide +kernel
theorem d_S_takeBack_25 : decode b_S_takeBack 25 = .ok (.goto (-18), 3) := by decide +kernel
theorem d_S_takeBack_28 : decode b_S_takeBack 28 = .ok (.aload_n 0, 1) := by decide +kernel
theorem d_S_takeBack_29 : decode b_S_takeBack 29 = .ok (.iload_n 1, 1) := by decide +kernel
theorem d_S_takeBack_30 : decode b_S_takeBack 30 = .ok (.putfield 22, 3) := by decide +kernel
theorem d_S_takeBack_33 : decode b_S_takeBack 33 = .ok (.return_, 1) := by decide +kernel
theorem d_S_release_0 : decode b_S_release 0 = .ok (.iload_n 1, 1) := by decide +kernel
theorem d_S_release_1 : decode b_S_release 1 = .ok (.invokestatic 123, 3) := by decide +kernel
theorem d_S_release_4 : decode b_S_release 4 = .ok (.ifCond .eq 15, 3) := by decide +kernel
theorem d_S_release_7 : decode b_S_release 7 = .ok (.aload_n 0, 1) := by decide +kernel
theorem d_S_release_8 : decode b_S_release 8 = .ok (.getfield 9, 3) := by decide +kernel
theorem d_S_release_11 : decode b_S_release 11 = .ok (.iload_n 1, 1) := by decide +kernel
theorem d_S_release_12 : decode b_S_release 12 = .ok (.iaload, 1) := by decide +kernel
theorem d_S_release_13 : decode b_S_release 13 = .ok (.invokestatic 80, 3) := by decide +kernel
theorem d_S_release_16 : decode b_S_release 16 = .ok (.ifCond .ne 4, 3) := by decide +kernel
theorem d_S_release_19 : decode b_S_release 19 = .ok (.return_, 1) := by decide +kernel
theorem d_S_release_20 : decode b_S_release 20 = .ok (.aload_n 0, 1) := by decide +kernel
theorem d_S_release_21 : decode b_S_release 21 = .ok (.getfield 15, 3) := by decide +kernel
theorem d_S_release_24 : decode b_S_release 24 = .ok (.aload_n 0, 1) := by decide +kernel
theorem d_S_release_25 : decode b_S_release 25 = .ok (.getfield 9, 3) := by decide +kernel
theorem d_S_release_28 : decode b_S_release 28 = .ok (.iload_n 1, 1) := by decide +kernel
theorem d_S_release_29 : decode b_S_release 29 = .ok (.iaload, 1) := by decide +kernel
theorem d_S_release_30 : decode b_S_release 30 = .ok (.iconst 0, 1) := by decide +kernel
theorem d_S_release_31 : decode b_S_release 31 = .ok (.bastore, 1) := by decide +kernel
theorem d_S_release_32 : decode b_S_release 32 = .ok (.aload_n 0, 1) := by decide +kernel
theorem d_S_release_33 : decode b_S_release 33 = .ok (.getfield 9, 3) := by decide +kernel
theorem d_S_release_36 : decode b_S_release 36 = .ok (.iload_n 1, 1) := by decide +kernel
theorem d_S_release_37 : decode b_S_release 37 = .ok (.iconst (-1), 1) := by decide +kernel
theorem d_S_release_38 : decode b_S_release 38 = .ok (.iastore, 1) := by decide +kernel
theorem d_S_release_39 : decode b_S_release 39 = .ok (.return_, 1) := by decide +kernel
