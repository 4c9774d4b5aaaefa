theorem dX0_init_0 : decode cX0_init 0 = .ok (.aload_n 0, 1) := by decide +kernel
theorem dX0_init_1 : decode cX0_init 1 = .ok (.invokespecial 3, 3) := by decide +kernel
theorem dX0_init_4 : decode cX0_init 4 = .ok (.aload_n 0, 1) := by decide +kernel
theorem dX0_init_5 : decode cX0_init 5 = .ok (.bipush 11, 2) := by decide +kernel
theorem dX0_init_7 : decode cX0_init 7 = .ok (.newarray .int, 2) := by decide +kernel
theorem dX0_init_9 : decode cX0_init 9 = .ok (.putfield 9, 3) := by decide +kernel
theorem dX0_init_12 : decode cX0_init 12 = .ok (.aload_n 0, 1) := by decide +kernel
theorem dX0_init_13 : decode cX0_init 13 = .ok (.bipush 10, 2) := by decide +kernel
theorem dX0_init_15 : decode cX0_init 15 = .ok (.newarray .int, 2) := by decide +kernel
theorem dX0_init_17 : decode cX0_init 17 = .ok (.putfield 15, 3) := by decide +kernel
theorem dX0_init_20 : decode cX0_init 20 = .ok (.aload_n 0, 1) := by decide +kernel
theorem dX0_init_21 : decode cX0_init 21 = .ok (.bipush 60, 2) := by decide +kernel
theorem dX0_init_23 : decode cX0_init 23 = .ok (.newarray .int, 2) := by decide +kernel
theorem dX0_init_25 : decode cX0_init 25 = .ok (.putfield 18, 3) := by decide +kernel
theorem dX0_init_28 : decode cX0_init 28 = .ok (.aload_n 0, 1) := by decide +kernel
theorem dX0_init_29 : decode cX0_init 29 = .ok (.bipush 6, 2) := by decide +kernel
theorem dX0_init_31 : decode cX0_init 31 = .ok (.newarray .int, 2) := by decide +kernel
theorem dX0_init_33 : decode cX0_init 33 = .ok (.putfield 21, 3) := by decide +kernel
theorem dX0_init_36 : decode cX0_init 36 = .ok (.aload_n 0, 1) := by decide +kernel
theorem dX0_init_37 : decode cX0_init 37 = .ok (.aload_n 1, 1) := by decide +kernel
theorem dX0_init_38 : decode cX0_init 38 = .ok (.putfield 24, 3) := by decide +kernel
theorem dX0_init_41 : decode cX0_init 41 = .ok (.return_, 1) := by decide +kernel
theorem dX0_startWith_0 : decode cX0_startWith 0 = .ok (.aload_n 0, 1) := by decide +kernel
theorem dX0_startWith_1 : decode cX0_startWith 1 = .ok (.getfield 9, 3) := by decide +kernel
theorem dX0_startWith_4 : decode cX0_startWith 4 = .ok (.iconst 0, 1) := by decide +kernel
theorem dX0_startWith_5 : decode cX0_startWith 5 = .ok (.iload_n 1, 1) := by decide +kernel
theorem dX0_startWith_6 : decode cX0_startWith 6 = .ok (.iastore, 1) := by decide +kernel
theorem dX0_startWith_7 : decode cX0_startWith 7 = .ok (.aload_n 0, 1) := by decide +kernel
theorem dX0_startWith_8 : decode cX0_startWith 8 = .ok (.iload_n 2, 1) := by decide +kernel
theorem dX0_startWith_9 : decode cX0_startWith 9 = .ok (.putfield 28, 3) := by decide +kernel
theorem dX0_startWith_12 : decode cX0_startWith 12 = .ok (.iconst 0, 1) := by decide +kernel
theorem dX0_startWith_13 : decode cX0_startWith 13 = .ok (.istore_n 3, 1) := by decide +kernel
theorem dX0_startWith_14 : decode cX0_startWith 14 = .ok (.iload_n 3, 1) := by decide +kernel
theorem dX0_startWith_15 : decode cX0_startWith 15 = .ok (.aload_n 0, 1) := by decide +kernel
theorem dX0_startWith_16 : decode cX0_startWith 16 = .ok (.getfield 24, 3) := by decide +kernel
theorem dX0_startWith_19 : decode cX0_startWith 19 = .ok (.getfield 32, 3) := by decide +kernel
theorem dX0_startWith_22 : decode cX0_startWith 22 = .ok (.if_icmp .ge 64, 3) := by decide +kernel
theorem dX0_startWith_25 : decode cX0_startWith 25 = .ok (.iload_n 3, 1) := by decide +kernel
theorem dX0_startWith_26 : decode cX0_startWith 26 = .ok (.istore 4, 2) := by decide +kernel
theorem dX0_startWith_28 : decode cX0_startWith 28 = .ok (.iload 4, 2) := by decide +kernel
theorem dX0_startWith_30 : decode cX0_startWith 30 = .ok (.ifCond .le 42, 3) := by decide +kernel
theorem dX0_startWith_33 : decode cX0_startWith 33 = .ok (.aload_n 0, 1) := by decide +kernel
theorem dX0_startWith_34 : decode cX0_startWith 34 = .ok (.iload_n 3, 1) := by decide +kernel
theorem dX0_startWith_35 : decode cX0_startWith 35 = .ok (.aload_n 0, 1) := by decide +kernel
theorem dX0_startWith_36 : decode cX0_startWith 36 = .ok (.getfield 21, 3) := by decide +kernel
theorem dX0_startWith_39 : decode cX0_startWith 39 = .ok (.iload 4, 2) := by decide +kernel
theorem dX0_startWith_41 : decode cX0_startWith 41 = .ok (.iconst 1, 1) := by decide +kernel
theorem dX0_startWith_42 : decode cX0_startWith 42 = .ok (.isub, 1) := by decide +kernel
theorem dX0_startWith_43 : decode cX0_startWith 43 = .ok (.iaload, 1) := by decide +kernel
theorem dX0_startWith_44 : decode cX0_startWith 44 = .ok (.invokevirtual 37, 3) := by decide +kernel
theorem dX0_startWith_47 : decode cX0_startWith 47 = .ok (.ifCond .eq 25, 3) := by decide +kernel
theorem dX0_startWith_50 : decode cX0_startWith 50 = .ok (.aload_n 0, 1) := by decide +kernel
theorem dX0_startWith_51 : decode cX0_startWith 51 = .ok (.getfield 21, 3) := by decide +kernel
theorem dX0_startWith_54 : decode cX0_startWith 54 = .ok (.iload 4, 2) := by decide +kernel
theorem dX0_startWith_56 : decode cX0_startWith 56 = .ok (.aload_n 0, 1) := by decide +kernel
theorem dX0_startWith_57 : decode cX0_startWith 57 = .ok (.getfield 21, 3) := by decide +kernel
theorem dX0_startWith_60 : decode cX0_startWith 60 = .ok (.iload 4, 2) := by decide +kernel
theorem dX0_startWith_62 : decode cX0_startWith 62 = .ok (.iconst 1, 1) := by decide +kernel
theorem dX0_startWith_63 : decode cX0_startWith 63 = .ok (.isub, 1) := by decide +kernel
theorem dX0_startWith_64 : decode cX0_startWith 64 = .ok (.iaload, 1) := by decide +kernel
theorem dX0_startWith_65 : decode cX0_startWith 65 = .ok (.iastore, 1) := by decide +kernel
theorem dX0_startWith_66 : decode cX0_startWith 66 = .ok (.iinc 4 (-1), 3) := by decide +kernel
theorem dX0_startWith_69 : decode cX0_startWith 69 = .ok (.goto (-41), 3) := by decide +kernel
theorem dX0_startWith_72 : decode cX0_startWith 72 = .ok (.aload_n 0, 1) := by decide +kernel
theorem dX0_startWith_73 : decode cX0_startWith 73 = .ok (.getfield 21, 3) := by decide +kernel
theorem dX0_startWith_76 : decode cX0_startWith 76 = .ok (.iload 4, 2) := by decide +kernel
theorem dX0_startWith_78 : decode cX0_startWith 78 = .ok (.iload_n 3, 1) := by decide +kernel
theorem dX0_startWith_79 : decode cX0_startWith 79 = .ok (.iastore, 1) := by decide +kernel
theorem dX0_startWith_80 : decode cX0_startWith 80 = .ok (.iinc 3 1, 3) := by decide +kernel
theorem dX0_startWith_83 : decode cX0_startWith 83 = .ok (.goto (-69), 3) := by decide +kernel
theorem dX0_startWith_86 : decode cX0_startWith 86 = .ok (.return_, 1) := by decide +kernel
theorem dX0_drawsBefore_0 : decode cX0_drawsBefore 0 = .ok (.aload_n 0, 1) := by decide +kernel
theorem dX0_drawsBefore_1 : decode cX0_drawsBefore 1 = .ok (.getfield 24, 3) := by decide +kernel
theorem dX0_drawsBefore_4 : decode cX0_drawsBefore 4 = .ok (.getfield 41, 3) := by decide +kernel
theorem dX0_drawsBefore_7 : decode cX0_drawsBefore 7 = .ok (.iload_n 1, 1) := by decide +kernel
theorem dX0_drawsBefore_8 : decode cX0_drawsBefore 8 = .ok (.aaload, 1) := by decide +kernel
theorem dX0_drawsBefore_9 : decode cX0_drawsBefore 9 = .ok (.getfield 45, 3) := by decide +kernel
theorem dX0_drawsBefore_12 : decode cX0_drawsBefore 12 = .ok (.istore_n 3, 1) := by decide +kernel
theorem dX0_drawsBefore_13 : decode cX0_drawsBefore 13 = .ok (.aload_n 0, 1) := by decide +kernel
theorem dX0_drawsBefore_14 : decode cX0_drawsBefore 14 = .ok (.getfield 24, 3) := by decide +kernel
theorem dX0_drawsBefore_17 : decode cX0_drawsBefore 17 = .ok (.getfield 41, 3) := by decide +kernel
theorem dX0_drawsBefore_20 : decode cX0_drawsBefore 20 = .ok (.iload_n 2, 1) := by decide +kernel
theorem dX0_drawsBefore_21 : decode cX0_drawsBefore 21 = .ok (.aaload, 1) := by decide +kernel
theorem dX0_drawsBefore_22 : decode cX0_drawsBefore 22 = .ok (.getfield 45, 3) := by decide +kernel
theorem dX0_drawsBefore_25 : decode cX0_drawsBefore 25 = .ok (.istore 4, 2) := by decide +kernel
theorem dX0_drawsBefore_27 : decode cX0_drawsBefore 27 = .ok (.aload_n 0, 1) := by decide +kernel
theorem dX0_drawsBefore_28 : decode cX0_drawsBefore 28 = .ok (.getfield 28, 3) := by decide +kernel
theorem dX0_drawsBefore_31 : decode cX0_drawsBefore 31 = .ok (.iconst 1, 1) := by decide +kernel
theorem dX0_drawsBefore_32 : decode cX0_drawsBefore 32 = .ok (.if_icmp .ne 17, 3) := by decide +kernel
theorem dX0_drawsBefore_35 : decode cX0_drawsBefore 35 = .ok (.iload_n 3, 1) := by decide +kernel
theorem dX0_drawsBefore_36 : decode cX0_drawsBefore 36 = .ok (.iload 4, 2) := by decide +kernel
theorem dX0_drawsBefore_38 : decode cX0_drawsBefore 38 = .ok (.if_icmp .ge 7, 3) := by decide +kernel
theorem dX0_drawsBefore_41 : decode cX0_drawsBefore 41 = .ok (.iconst 1, 1) := by decide +kernel
theorem dX0_drawsBefore_42 : decode cX0_drawsBefore 42 = .ok (.goto 18, 3) := by decide +kernel
theorem dX0_drawsBefore_45 : decode cX0_drawsBefore 45 = .ok (.iconst 0, 1) := by decide +kernel
theorem dX0_drawsBefore_46 : decode cX0_drawsBefore 46 = .ok (.goto 14, 3) := by decide +kernel
theorem dX0_drawsBefore_49 : decode cX0_drawsBefore 49 = .ok (.iload_n 3, 1) := by decide +kernel
theorem dX0_drawsBefore_50 : decode cX0_drawsBefore 50 = .ok (.iload 4, 2) := by decide +kernel
theorem dX0_drawsBefore_52 : decode cX0_drawsBefore 52 = .ok (.if_icmp .le 7, 3) := by decide +kernel
theorem dX0_drawsBefore_55 : decode cX0_drawsBefore 55 = .ok (.iconst 1, 1) := by decide +kernel
theorem dX0_drawsBefore_56 : decode cX0_drawsBefore 56 = .ok (.goto 4, 3) := by decide +kernel
theorem dX0_drawsBefore_59 : decode cX0_drawsBefore 59 = .ok (.iconst 0, 1) := by decide +kernel
theorem dX0_drawsBefore_60 : decode cX0_drawsBefore 60 = .ok (.ireturn, 1) := by decide +kernel
theorem dX0_passDays_0 : decode cX0_passDays 0 = .ok (.iload_n 1, 1) := by decide +kernel
theorem dX0_passDays_1 : decode cX0_passDays 1 = .ok (.istore_n 3, 1) := by decide +kernel
theorem dX0_passDays_2 : decode cX0_passDays 2 = .ok (.iload_n 3, 1) := by decide +kernel
theorem dX0_passDays_3 : decode cX0_passDays 3 = .ok (.iload_n 2, 1) := by decide +kernel
theorem dX0_passDays_4 : decode cX0_passDays 4 = .ok (.if_icmp .ge 23, 3) := by decide +kernel
theorem dX0_passDays_7 : decode cX0_passDays 7 = .ok (.aload_n 0, 1) := by decide +kernel
theorem dX0_passDays_8 : decode cX0_passDays 8 = .ok (.iload_n 3, 1) := by decide +kernel
theorem dX0_passDays_9 : decode cX0_passDays 9 = .ok (.aload_n 0, 1) := by decide +kernel
theorem dX0_passDays_10 : decode cX0_passDays 10 = .ok (.getfield 24, 3) := by decide +kernel
theorem dX0_passDays_13 : decode cX0_passDays 13 = .ok (.getfield 50, 3) := by decide +kernel
theorem dX0_passDays_16 : decode cX0_passDays 16 = .ok (.iload_n 3, 1) := by decide +kernel
theorem dX0_passDays_17 : decode cX0_passDays 17 = .ok (.iaload, 1) := by decide +kernel
theorem dX0_passDays_18 : decode cX0_passDays 18 = .ok (.invokevirtual 53, 3) := by decide +kernel
theorem dX0_passDays_21 : decode cX0_passDays 21 = .ok (.iinc 3 1, 3) := by decide +kernel
theorem dX0_passDays_24 : decode cX0_passDays 24 = .ok (.goto (-22), 3) := by decide +kernel
theorem dX0_passDays_27 : decode cX0_passDays 27 = .ok (.return_, 1) := by decide +kernel
theorem dX0_passDay_0 : decode cX0_passDay 0 = .ok (.aload_n 0, 1) := by decide +kernel
theorem dX0_passDay_1 : decode cX0_passDay 1 = .ok (.getfield 9, 3) := by decide +kernel
theorem dX0_passDay_4 : decode cX0_passDay 4 = .ok (.iload_n 1, 1) := by decide +kernel
theorem dX0_passDay_5 : decode cX0_passDay 5 = .ok (.iaload, 1) := by decide +kernel
theorem dX0_passDay_6 : decode cX0_passDay 6 = .ok (.iload_n 2, 1) := by decide +kernel
theorem dX0_passDay_7 : decode cX0_passDay 7 = .ok (.iadd, 1) := by decide +kernel
theorem dX0_passDay_8 : decode cX0_passDay 8 = .ok (.istore_n 3, 1) := by decide +kernel
theorem dX0_passDay_9 : decode cX0_passDay 9 = .ok (.aload_n 0, 1) := by decide +kernel
theorem dX0_passDay_10 : decode cX0_passDay 10 = .ok (.getfield 15, 3) := by decide +kernel
theorem dX0_passDay_13 : decode cX0_passDay 13 = .ok (.iload_n 1, 1) := by decide +kernel
theorem dX0_passDay_14 : decode cX0_passDay 14 = .ok (.iconst 0, 1) := by decide +kernel
theorem dX0_passDay_15 : decode cX0_passDay 15 = .ok (.iload_n 3, 1) := by decide +kernel
theorem dX0_passDay_16 : decode cX0_passDay 16 = .ok (.aload_n 0, 1) := by decide +kernel
theorem dX0_passDay_17 : decode cX0_passDay 17 = .ok (.getfield 24, 3) := by decide +kernel
theorem dX0_passDay_20 : decode cX0_passDay 20 = .ok (.getfield 57, 3) := by decide +kernel
theorem dX0_passDay_23 : decode cX0_passDay 23 = .ok (.isub, 1) := by decide +kernel
theorem dX0_passDay_24 : decode cX0_passDay 24 = .ok (.invokestatic 60, 3) := by decide +kernel
theorem dX0_passDay_27 : decode cX0_passDay 27 = .ok (.iastore, 1) := by decide +kernel
theorem dX0_passDay_28 : decode cX0_passDay 28 = .ok (.iload_n 3, 1) := by decide +kernel
theorem dX0_passDay_29 : decode cX0_passDay 29 = .ok (.aload_n 0, 1) := by decide +kernel
theorem dX0_passDay_30 : decode cX0_passDay 30 = .ok (.getfield 15, 3) := by decide +kernel
theorem dX0_passDay_33 : decode cX0_passDay 33 = .ok (.iload_n 1, 1) := by decide +kernel
theorem dX0_passDay_34 : decode cX0_passDay 34 = .ok (.iaload, 1) := by decide +kernel
theorem dX0_passDay_35 : decode cX0_passDay 35 = .ok (.isub, 1) := by decide +kernel
theorem dX0_passDay_36 : decode cX0_passDay 36 = .ok (.istore_n 3, 1) := by decide +kernel
theorem dX0_passDay_37 : decode cX0_passDay 37 = .ok (.iconst 0, 1) := by decide +kernel
theorem dX0_passDay_38 : decode cX0_passDay 38 = .ok (.istore 4, 2) := by decide +kernel
theorem dX0_passDay_40 : decode cX0_passDay 40 = .ok (.iload 4, 2) := by decide +kernel
theorem dX0_passDay_42 : decode cX0_passDay 42 = .ok (.aload_n 0, 1) := by decide +kernel
theorem dX0_passDay_43 : decode cX0_passDay 43 = .ok (.getfield 24, 3) := by decide +kernel
theorem dX0_passDay_46 : decode cX0_passDay 46 = .ok (.getfield 32, 3) := by decide +kernel
theorem dX0_passDay_49 : decode cX0_passDay 49 = .ok (.if_icmp .ge 22, 3) := by decide +kernel
theorem dX0_passDay_52 : decode cX0_passDay 52 = .ok (.aload_n 0, 1) := by decide +kernel
theorem dX0_passDay_53 : decode cX0_passDay 53 = .ok (.getfield 18, 3) := by decide +kernel
theorem dX0_passDay_56 : decode cX0_passDay 56 = .ok (.iload_n 1, 1) := by decide +kernel
theorem dX0_passDay_57 : decode cX0_passDay 57 = .ok (.bipush 6, 2) := by decide +kernel
theorem dX0_passDay_59 : decode cX0_passDay 59 = .ok (.imul, 1) := by decide +kernel
theorem dX0_passDay_60 : decode cX0_passDay 60 = .ok (.iload 4, 2) := by decide +kernel
theorem dX0_passDay_62 : decode cX0_passDay 62 = .ok (.iadd, 1) := by decide +kernel
theorem dX0_passDay_63 : decode cX0_passDay 63 = .ok (.iconst 0, 1) := by decide +kernel
theorem dX0_passDay_64 : decode cX0_passDay 64 = .ok (.iastore, 1) := by decide +kernel
theorem dX0_passDay_65 : decode cX0_passDay 65 = .ok (.iinc 4 1, 3) := by decide +kernel
theorem dX0_passDay_68 : decode cX0_passDay 68 = .ok (.goto (-28), 3) := by decide +kernel
theorem dX0_passDay_71 : decode cX0_passDay 71 = .ok (.iload_n 3, 1) := by decide +kernel
theorem dX0_passDay_72 : decode cX0_passDay 72 = .ok (.aload_n 0, 1) := by decide +kernel
theorem dX0_passDay_73 : decode cX0_passDay 73 = .ok (.getfield 28, 3) := by decide +kernel
theorem dX0_passDay_76 : decode cX0_passDay 76 = .ok (.iconst 2, 1) := by decide +kernel
theorem dX0_passDay_77 : decode cX0_passDay 77 = .ok (.if_icmp .ne 12, 3) := by decide +kernel
theorem dX0_passDay_80 : decode cX0_passDay 80 = .ok (.aload_n 0, 1) := by decide +kernel
theorem dX0_passDay_81 : decode cX0_passDay 81 = .ok (.iload_n 1, 1) := by decide +kernel
theorem dX0_passDay_82 : decode cX0_passDay 82 = .ok (.iload_n 3, 1) := by decide +kernel
theorem dX0_passDay_83 : decode cX0_passDay 83 = .ok (.invokevirtual 66, 3) := by decide +kernel
theorem dX0_passDay_86 : decode cX0_passDay 86 = .ok (.goto 9, 3) := by decide +kernel
theorem dX0_passDay_89 : decode cX0_passDay 89 = .ok (.aload_n 0, 1) := by decide +kernel
theorem dX0_passDay_90 : decode cX0_passDay 90 = .ok (.iload_n 1, 1) := by decide +kernel
theorem dX0_passDay_91 : decode cX0_passDay 91 = .ok (.iload_n 3, 1) := by decide +kernel
theorem dX0_passDay_92 : decode cX0_passDay 92 = .ok (.invokevirtual 69, 3) := by decide +kernel
theorem dX0_passDay_95 : decode cX0_passDay 95 = .ok (.isub, 1) := by decide +kernel
theorem dX0_passDay_96 : decode cX0_passDay 96 = .ok (.istore_n 3, 1) := by decide +kernel
theorem dX0_passDay_97 : decode cX0_passDay 97 = .ok (.aload_n 0, 1) := by decide +kernel
theorem dX0_passDay_98 : decode cX0_passDay 98 = .ok (.getfield 9, 3) := by decide +kernel
theorem dX0_passDay_101 : decode cX0_passDay 101 = .ok (.iload_n 1, 1) := by decide +kernel
theorem dX0_passDay_102 : decode cX0_passDay 102 = .ok (.iconst 1, 1) := by decide +kernel
theorem dX0_passDay_103 : decode cX0_passDay 103 = .ok (.iadd, 1) := by decide +kernel
theorem dX0_passDay_104 : decode cX0_passDay 104 = .ok (.iload_n 3, 1) := by decide +kernel
theorem dX0_passDay_105 : decode cX0_passDay 105 = .ok (.aload_n 0, 1) := by decide +kernel
theorem dX0_passDay_106 : decode cX0_passDay 106 = .ok (.getfield 24, 3) := by decide +kernel
theorem dX0_passDay_109 : decode cX0_passDay 109 = .ok (.iload_n 3, 1) := by decide +kernel
theorem dX0_passDay_110 : decode cX0_passDay 110 = .ok (.invokevirtual 72, 3) := by decide +kernel
theorem dX0_passDay_113 : decode cX0_passDay 113 = .ok (.isub, 1) := by decide +kernel
theorem dX0_passDay_114 : decode cX0_passDay 114 = .ok (.iastore, 1) := by decide +kernel
theorem dX0_passDay_115 : decode cX0_passDay 115 = .ok (.return_, 1) := by decide +kernel
theorem dX0_drawInOrder_0 : decode cX0_drawInOrder 0 = .ok (.iconst 0, 1) := by decide +kernel
theorem dX0_drawInOrder_1 : decode cX0_drawInOrder 1 = .ok (.istore_n 3, 1) := by decide +kernel
theorem dX0_drawInOrder_2 : decode cX0_drawInOrder 2 = .ok (.iconst 0, 1) := by decide +kernel
theorem dX0_drawInOrder_3 : decode cX0_drawInOrder 3 = .ok (.istore 4, 2) := by decide +kernel
theorem dX0_drawInOrder_5 : decode cX0_drawInOrder 5 = .ok (.iload 4, 2) := by decide +kernel
theorem dX0_drawInOrder_7 : decode cX0_drawInOrder 7 = .ok (.aload_n 0, 1) := by decide +kernel
theorem dX0_drawInOrder_8 : decode cX0_drawInOrder 8 = .ok (.getfield 24, 3) := by decide +kernel
theorem dX0_drawInOrder_11 : decode cX0_drawInOrder 11 = .ok (.getfield 32, 3) := by decide +kernel
theorem dX0_drawInOrder_14 : decode cX0_drawInOrder 14 = .ok (.if_icmp .ge 69, 3) := by decide +kernel
theorem dX0_drawInOrder_17 : decode cX0_drawInOrder 17 = .ok (.aload_n 0, 1) := by decide +kernel
theorem dX0_drawInOrder_18 : decode cX0_drawInOrder 18 = .ok (.getfield 24, 3) := by decide +kernel
theorem dX0_drawInOrder_21 : decode cX0_drawInOrder 21 = .ok (.getfield 41, 3) := by decide +kernel
theorem dX0_drawInOrder_24 : decode cX0_drawInOrder 24 = .ok (.aload_n 0, 1) := by decide +kernel
theorem dX0_drawInOrder_25 : decode cX0_drawInOrder 25 = .ok (.getfield 21, 3) := by decide +kernel
theorem dX0_drawInOrder_28 : decode cX0_drawInOrder 28 = .ok (.iload 4, 2) := by decide +kernel
theorem dX0_drawInOrder_30 : decode cX0_drawInOrder 30 = .ok (.iaload, 1) := by decide +kernel
theorem dX0_drawInOrder_31 : decode cX0_drawInOrder 31 = .ok (.aaload, 1) := by decide +kernel
theorem dX0_drawInOrder_32 : decode cX0_drawInOrder 32 = .ok (.astore 5, 2) := by decide +kernel
theorem dX0_drawInOrder_34 : decode cX0_drawInOrder 34 = .ok (.aload_n 0, 1) := by decide +kernel
theorem dX0_drawInOrder_35 : decode cX0_drawInOrder 35 = .ok (.getfield 28, 3) := by decide +kernel
theorem dX0_drawInOrder_38 : decode cX0_drawInOrder 38 = .ok (.iconst 3, 1) := by decide +kernel
theorem dX0_drawInOrder_39 : decode cX0_drawInOrder 39 = .ok (.if_icmp .ne 11, 3) := by decide +kernel
theorem dX0_drawInOrder_42 : decode cX0_drawInOrder 42 = .ok (.aload 5, 2) := by decide +kernel
theorem dX0_drawInOrder_44 : decode cX0_drawInOrder 44 = .ok (.getfield 76, 3) := by decide +kernel
theorem dX0_drawInOrder_47 : decode cX0_drawInOrder 47 = .ok (.goto 8, 3) := by decide +kernel
theorem dX0_drawInOrder_50 : decode cX0_drawInOrder 50 = .ok (.aload 5, 2) := by decide +kernel
theorem dX0_drawInOrder_52 : decode cX0_drawInOrder 52 = .ok (.invokevirtual 79, 3) := by decide +kernel
theorem dX0_drawInOrder_55 : decode cX0_drawInOrder 55 = .ok (.istore 6, 2) := by decide +kernel
theorem dX0_drawInOrder_57 : decode cX0_drawInOrder 57 = .ok (.iload_n 3, 1) := by decide +kernel
theorem dX0_drawInOrder_58 : decode cX0_drawInOrder 58 = .ok (.aload_n 0, 1) := by decide +kernel
theorem dX0_drawInOrder_59 : decode cX0_drawInOrder 59 = .ok (.aload_n 0, 1) := by decide +kernel
theorem dX0_drawInOrder_60 : decode cX0_drawInOrder 60 = .ok (.getfield 21, 3) := by decide +kernel
theorem dX0_drawInOrder_63 : decode cX0_drawInOrder 63 = .ok (.iload 4, 2) := by decide +kernel
theorem dX0_drawInOrder_65 : decode cX0_drawInOrder 65 = .ok (.iaload, 1) := by decide +kernel
theorem dX0_drawInOrder_66 : decode cX0_drawInOrder 66 = .ok (.iload_n 1, 1) := by decide +kernel
theorem dX0_drawInOrder_67 : decode cX0_drawInOrder 67 = .ok (.iload 6, 2) := by decide +kernel
theorem dX0_drawInOrder_69 : decode cX0_drawInOrder 69 = .ok (.iload_n 2, 1) := by decide +kernel
theorem dX0_drawInOrder_70 : decode cX0_drawInOrder 70 = .ok (.iload_n 3, 1) := by decide +kernel
theorem dX0_drawInOrder_71 : decode cX0_drawInOrder 71 = .ok (.isub, 1) := by decide +kernel
theorem dX0_drawInOrder_72 : decode cX0_drawInOrder 72 = .ok (.invokevirtual 83, 3) := by decide +kernel
theorem dX0_drawInOrder_75 : decode cX0_drawInOrder 75 = .ok (.iadd, 1) := by decide +kernel
theorem dX0_drawInOrder_76 : decode cX0_drawInOrder 76 = .ok (.istore_n 3, 1) := by decide +kernel
theorem dX0_drawInOrder_77 : decode cX0_drawInOrder 77 = .ok (.iinc 4 1, 3) := by decide +kernel
theorem dX0_drawInOrder_80 : decode cX0_drawInOrder 80 = .ok (.goto (-75), 3) := by decide +kernel
theorem dX0_drawInOrder_83 : decode cX0_drawInOrder 83 = .ok (.iload_n 3, 1) := by decide +kernel
theorem dX0_drawInOrder_84 : decode cX0_drawInOrder 84 = .ok (.ireturn, 1) := by decide +kernel
theorem dX0_drawByTurns_0 : decode cX0_drawByTurns 0 = .ok (.iconst 0, 1) := by decide +kernel
theorem dX0_drawByTurns_1 : decode cX0_drawByTurns 1 = .ok (.istore_n 3, 1) := by decide +kernel
theorem dX0_drawByTurns_2 : decode cX0_drawByTurns 2 = .ok (.iconst 1, 1) := by decide +kernel
theorem dX0_drawByTurns_3 : decode cX0_drawByTurns 3 = .ok (.istore 4, 2) := by decide +kernel
theorem dX0_drawByTurns_5 : decode cX0_drawByTurns 5 = .ok (.iconst 0, 1) := by decide +kernel
theorem dX0_drawByTurns_6 : decode cX0_drawByTurns 6 = .ok (.istore 5, 2) := by decide +kernel
theorem dX0_drawByTurns_8 : decode cX0_drawByTurns 8 = .ok (.iload 5, 2) := by decide +kernel
theorem dX0_drawByTurns_10 : decode cX0_drawByTurns 10 = .ok (.bipush 99, 2) := by decide +kernel
theorem dX0_drawByTurns_12 : decode cX0_drawByTurns 12 = .ok (.if_icmp .gt 101, 3) := by decide +kernel
theorem dX0_drawByTurns_15 : decode cX0_drawByTurns 15 = .ok (.iload 4, 2) := by decide +kernel
theorem dX0_drawByTurns_17 : decode cX0_drawByTurns 17 = .ok (.ifCond .eq 96, 3) := by decide +kernel
theorem dX0_drawByTurns_20 : decode cX0_drawByTurns 20 = .ok (.iload_n 3, 1) := by decide +kernel
theorem dX0_drawByTurns_21 : decode cX0_drawByTurns 21 = .ok (.istore 6, 2) := by decide +kernel
theorem dX0_drawByTurns_23 : decode cX0_drawByTurns 23 = .ok (.iconst 0, 1) := by decide +kernel
theorem dX0_drawByTurns_24 : decode cX0_drawByTurns 24 = .ok (.istore 7, 2) := by decide +kernel
theorem dX0_drawByTurns_26 : decode cX0_drawByTurns 26 = .ok (.iload 7, 2) := by decide +kernel
theorem dX0_drawByTurns_28 : decode cX0_drawByTurns 28 = .ok (.aload_n 0, 1) := by decide +kernel
theorem dX0_drawByTurns_29 : decode cX0_drawByTurns 29 = .ok (.getfield 24, 3) := by decide +kernel
theorem dX0_drawByTurns_32 : decode cX0_drawByTurns 32 = .ok (.getfield 32, 3) := by decide +kernel
theorem dX0_drawByTurns_35 : decode cX0_drawByTurns 35 = .ok (.if_icmp .ge 59, 3) := by decide +kernel
theorem dX0_drawByTurns_38 : decode cX0_drawByTurns 38 = .ok (.aload_n 0, 1) := by decide +kernel
theorem dX0_drawByTurns_39 : decode cX0_drawByTurns 39 = .ok (.getfield 24, 3) := by decide +kernel
theorem dX0_drawByTurns_42 : decode cX0_drawByTurns 42 = .ok (.getfield 41, 3) := by decide +kernel
theorem dX0_drawByTurns_45 : decode cX0_drawByTurns 45 = .ok (.iload 7, 2) := by decide +kernel
theorem dX0_drawByTurns_47 : decode cX0_drawByTurns 47 = .ok (.aaload, 1) := by decide +kernel
theorem dX0_drawByTurns_48 : decode cX0_drawByTurns 48 = .ok (.astore 8, 2) := by decide +kernel
theorem dX0_drawByTurns_50 : decode cX0_drawByTurns 50 = .ok (.aload 8, 2) := by decide +kernel
theorem dX0_drawByTurns_52 : decode cX0_drawByTurns 52 = .ok (.getfield 87, 3) := by decide +kernel
theorem dX0_drawByTurns_55 : decode cX0_drawByTurns 55 = .ok (.aload 8, 2) := by decide +kernel
theorem dX0_drawByTurns_57 : decode cX0_drawByTurns 57 = .ok (.invokevirtual 79, 3) := by decide +kernel
theorem dX0_drawByTurns_60 : decode cX0_drawByTurns 60 = .ok (.aload_n 0, 1) := by decide +kernel
theorem dX0_drawByTurns_61 : decode cX0_drawByTurns 61 = .ok (.iload 7, 2) := by decide +kernel
theorem dX0_drawByTurns_63 : decode cX0_drawByTurns 63 = .ok (.iload_n 1, 1) := by decide +kernel
theorem dX0_drawByTurns_64 : decode cX0_drawByTurns 64 = .ok (.invokevirtual 90, 3) := by decide +kernel
theorem dX0_drawByTurns_67 : decode cX0_drawByTurns 67 = .ok (.isub, 1) := by decide +kernel
theorem dX0_drawByTurns_68 : decode cX0_drawByTurns 68 = .ok (.invokestatic 93, 3) := by decide +kernel
theorem dX0_drawByTurns_71 : decode cX0_drawByTurns 71 = .ok (.istore 9, 2) := by decide +kernel
theorem dX0_drawByTurns_73 : decode cX0_drawByTurns 73 = .ok (.iload_n 3, 1) := by decide +kernel
theorem dX0_drawByTurns_74 : decode cX0_drawByTurns 74 = .ok (.aload_n 0, 1) := by decide +kernel
theorem dX0_drawByTurns_75 : decode cX0_drawByTurns 75 = .ok (.iload 7, 2) := by decide +kernel
theorem dX0_drawByTurns_77 : decode cX0_drawByTurns 77 = .ok (.iload_n 1, 1) := by decide +kernel
theorem dX0_drawByTurns_78 : decode cX0_drawByTurns 78 = .ok (.iload 9, 2) := by decide +kernel
theorem dX0_drawByTurns_80 : decode cX0_drawByTurns 80 = .ok (.iload_n 2, 1) := by decide +kernel
theorem dX0_drawByTurns_81 : decode cX0_drawByTurns 81 = .ok (.iload_n 3, 1) := by decide +kernel
theorem dX0_drawByTurns_82 : decode cX0_drawByTurns 82 = .ok (.isub, 1) := by decide +kernel
theorem dX0_drawByTurns_83 : decode cX0_drawByTurns 83 = .ok (.invokevirtual 83, 3) := by decide +kernel
theorem dX0_drawByTurns_86 : decode cX0_drawByTurns 86 = .ok (.iadd, 1) := by decide +kernel
theorem dX0_drawByTurns_87 : decode cX0_drawByTurns 87 = .ok (.istore_n 3, 1) := by decide +kernel
theorem dX0_drawByTurns_88 : decode cX0_drawByTurns 88 = .ok (.iinc 7 1, 3) := by decide +kernel
theorem dX0_drawByTurns_91 : decode cX0_drawByTurns 91 = .ok (.goto (-65), 3) := by decide +kernel
theorem dX0_drawByTurns_94 : decode cX0_drawByTurns 94 = .ok (.iload_n 3, 1) := by decide +kernel
theorem dX0_drawByTurns_95 : decode cX0_drawByTurns 95 = .ok (.iload 6, 2) := by decide +kernel
theorem dX0_drawByTurns_97 : decode cX0_drawByTurns 97 = .ok (.if_icmp .le 7, 3) := by decide +kernel
theorem dX0_drawByTurns_100 : decode cX0_drawByTurns 100 = .ok (.iconst 1, 1) := by decide +kernel
theorem dX0_drawByTurns_101 : decode cX0_drawByTurns 101 = .ok (.goto 4, 3) := by decide +kernel
theorem dX0_drawByTurns_104 : decode cX0_drawByTurns 104 = .ok (.iconst 0, 1) := by decide +kernel
theorem dX0_drawByTurns_105 : decode cX0_drawByTurns 105 = .ok (.istore 4, 2) := by decide +kernel
theorem dX0_drawByTurns_107 : decode cX0_drawByTurns 107 = .ok (.iinc 5 1, 3) := by decide +kernel
theorem dX0_drawByTurns_110 : decode cX0_drawByTurns 110 = .ok (.goto (-102), 3) := by decide +kernel
theorem dX0_drawByTurns_113 : decode cX0_drawByTurns 113 = .ok (.iload_n 3, 1) := by decide +kernel
theorem dX0_drawByTurns_114 : decode cX0_drawByTurns 114 = .ok (.ireturn, 1) := by decide +kernel
theorem dX0_draw_0 : decode cX0_draw 0 = .ok (.iload_n 3, 1) := by decide +kernel
theorem dX0_draw_1 : decode cX0_draw 1 = .ok (.aload_n 0, 1) := by decide +kernel
theorem dX0_draw_2 : decode cX0_draw 2 = .ok (.getfield 24, 3) := by decide +kernel
theorem dX0_draw_5 : decode cX0_draw 5 = .ok (.iload_n 1, 1) := by decide +kernel
theorem dX0_draw_6 : decode cX0_draw 6 = .ok (.iload 4, 2) := by decide +kernel
theorem dX0_draw_8 : decode cX0_draw 8 = .ok (.invokevirtual 96, 3) := by decide +kernel
theorem dX0_draw_11 : decode cX0_draw 11 = .ok (.invokestatic 93, 3) := by decide +kernel
theorem dX0_draw_14 : decode cX0_draw 14 = .ok (.istore 5, 2) := by decide +kernel
theorem dX0_draw_16 : decode cX0_draw 16 = .ok (.aload_n 0, 1) := by decide +kernel
theorem dX0_draw_17 : decode cX0_draw 17 = .ok (.getfield 18, 3) := by decide +kernel
theorem dX0_draw_20 : decode cX0_draw 20 = .ok (.iload_n 2, 1) := by decide +kernel
theorem dX0_draw_21 : decode cX0_draw 21 = .ok (.bipush 6, 2) := by decide +kernel
theorem dX0_draw_23 : decode cX0_draw 23 = .ok (.imul, 1) := by decide +kernel
theorem dX0_draw_24 : decode cX0_draw 24 = .ok (.iload_n 1, 1) := by decide +kernel
theorem dX0_draw_25 : decode cX0_draw 25 = .ok (.iadd, 1) := by decide +kernel
theorem dX0_draw_26 : decode cX0_draw 26 = .ok (.dup2, 1) := by decide +kernel
theorem dX0_draw_27 : decode cX0_draw 27 = .ok (.iaload, 1) := by decide +kernel
theorem dX0_draw_28 : decode cX0_draw 28 = .ok (.iload 5, 2) := by decide +kernel
theorem dX0_draw_30 : decode cX0_draw 30 = .ok (.iadd, 1) := by decide +kernel
theorem dX0_draw_31 : decode cX0_draw 31 = .ok (.iastore, 1) := by decide +kernel
theorem dX0_draw_32 : decode cX0_draw 32 = .ok (.iload 5, 2) := by decide +kernel
theorem dX0_draw_34 : decode cX0_draw 34 = .ok (.ireturn, 1) := by decide +kernel
theorem dX0_drawnBy_0 : decode cX0_drawnBy 0 = .ok (.aload_n 0, 1) := by decide +kernel
theorem dX0_drawnBy_1 : decode cX0_drawnBy 1 = .ok (.getfield 18, 3) := by decide +kernel
theorem dX0_drawnBy_4 : decode cX0_drawnBy 4 = .ok (.iload_n 2, 1) := by decide +kernel
theorem dX0_drawnBy_5 : decode cX0_drawnBy 5 = .ok (.bipush 6, 2) := by decide +kernel
theorem dX0_drawnBy_7 : decode cX0_drawnBy 7 = .ok (.imul, 1) := by decide +kernel
theorem dX0_drawnBy_8 : decode cX0_drawnBy 8 = .ok (.iload_n 1, 1) := by decide +kernel
theorem dX0_drawnBy_9 : decode cX0_drawnBy 9 = .ok (.iadd, 1) := by decide +kernel
theorem dX0_drawnBy_10 : decode cX0_drawnBy 10 = .ok (.iaload, 1) := by decide +kernel
theorem dX0_drawnBy_11 : decode cX0_drawnBy 11 = .ok (.ireturn, 1) := by decide +kernel
theorem dX0_drawnInAll_0 : decode cX0_drawnInAll 0 = .ok (.iconst 0, 1) := by decide +kernel
theorem dX0_drawnInAll_1 : decode cX0_drawnInAll 1 = .ok (.istore_n 3, 1) := by decide +kernel
theorem dX0_drawnInAll_2 : decode cX0_drawnInAll 2 = .ok (.iconst 0, 1) := by decide +kernel
theorem dX0_drawnInAll_3 : decode cX0_drawnInAll 3 = .ok (.istore 4, 2) := by decide +kernel
theorem dX0_drawnInAll_5 : decode cX0_drawnInAll 5 = .ok (.iload 4, 2) := by decide +kernel
theorem dX0_drawnInAll_7 : decode cX0_drawnInAll 7 = .ok (.iload_n 2, 1) := by decide +kernel
theorem dX0_drawnInAll_8 : decode cX0_drawnInAll 8 = .ok (.if_icmp .ge 19, 3) := by decide +kernel
theorem dX0_drawnInAll_11 : decode cX0_drawnInAll 11 = .ok (.iload_n 3, 1) := by decide +kernel
theorem dX0_drawnInAll_12 : decode cX0_drawnInAll 12 = .ok (.aload_n 0, 1) := by decide +kernel
theorem dX0_drawnInAll_13 : decode cX0_drawnInAll 13 = .ok (.iload_n 1, 1) := by decide +kernel
theorem dX0_drawnInAll_14 : decode cX0_drawnInAll 14 = .ok (.iload 4, 2) := by decide +kernel
theorem dX0_drawnInAll_16 : decode cX0_drawnInAll 16 = .ok (.invokevirtual 90, 3) := by decide +kernel
theorem dX0_drawnInAll_19 : decode cX0_drawnInAll 19 = .ok (.iadd, 1) := by decide +kernel
theorem dX0_drawnInAll_20 : decode cX0_drawnInAll 20 = .ok (.istore_n 3, 1) := by decide +kernel
theorem dX0_drawnInAll_21 : decode cX0_drawnInAll 21 = .ok (.iinc 4 1, 3) := by decide +kernel
theorem dX0_drawnInAll_24 : decode cX0_drawnInAll 24 = .ok (.goto (-19), 3) := by decide +kernel
theorem dX0_drawnInAll_27 : decode cX0_drawnInAll 27 = .ok (.iload_n 3, 1) := by decide +kernel
theorem dX0_drawnInAll_28 : decode cX0_drawnInAll 28 = .ok (.ireturn, 1) := by decide +kernel
theorem dX0_isDry_0 : decode cX0_isDry 0 = .ok (.aload_n 0, 1) := by decide +kernel
theorem dX0_isDry_1 : decode cX0_isDry 1 = .ok (.iload_n 1, 1) := by decide +kernel
theorem dX0_isDry_2 : decode cX0_isDry 2 = .ok (.iload_n 2, 1) := by decide +kernel
theorem dX0_isDry_3 : decode cX0_isDry 3 = .ok (.invokevirtual 90, 3) := by decide +kernel
theorem dX0_isDry_6 : decode cX0_isDry 6 = .ok (.aload_n 0, 1) := by decide +kernel
theorem dX0_isDry_7 : decode cX0_isDry 7 = .ok (.getfield 24, 3) := by decide +kernel
theorem dX0_isDry_10 : decode cX0_isDry 10 = .ok (.getfield 41, 3) := by decide +kernel
theorem dX0_isDry_13 : decode cX0_isDry 13 = .ok (.iload_n 1, 1) := by decide +kernel
theorem dX0_isDry_14 : decode cX0_isDry 14 = .ok (.aaload, 1) := by decide +kernel
theorem dX0_isDry_15 : decode cX0_isDry 15 = .ok (.getfield 76, 3) := by decide +kernel
theorem dX0_isDry_18 : decode cX0_isDry 18 = .ok (.if_icmp .ge 7, 3) := by decide +kernel
theorem dX0_isDry_21 : decode cX0_isDry 21 = .ok (.iconst 1, 1) := by decide +kernel
theorem dX0_isDry_22 : decode cX0_isDry 22 = .ok (.goto 4, 3) := by decide +kernel
theorem dX0_isDry_25 : decode cX0_isDry 25 = .ok (.iconst 0, 1) := by decide +kernel
theorem dX0_isDry_26 : decode cX0_isDry 26 = .ok (.ireturn, 1) := by decide +kernel
theorem dX0_firstDry_0 : decode cX0_firstDry 0 = .ok (.iconst 0, 1) := by decide +kernel
theorem dX0_firstDry_1 : decode cX0_firstDry 1 = .ok (.istore_n 3, 1) := by decide +kernel
theorem dX0_firstDry_2 : decode cX0_firstDry 2 = .ok (.iload_n 3, 1) := by decide +kernel
theorem dX0_firstDry_3 : decode cX0_firstDry 3 = .ok (.iload_n 2, 1) := by decide +kernel
theorem dX0_firstDry_4 : decode cX0_firstDry 4 = .ok (.if_icmp .ge 20, 3) := by decide +kernel
theorem dX0_firstDry_7 : decode cX0_firstDry 7 = .ok (.aload_n 0, 1) := by decide +kernel
theorem dX0_firstDry_8 : decode cX0_firstDry 8 = .ok (.iload_n 1, 1) := by decide +kernel
theorem dX0_firstDry_9 : decode cX0_firstDry 9 = .ok (.iload_n 3, 1) := by decide +kernel
theorem dX0_firstDry_10 : decode cX0_firstDry 10 = .ok (.invokevirtual 99, 3) := by decide +kernel
theorem dX0_firstDry_13 : decode cX0_firstDry 13 = .ok (.ifCond .eq 5, 3) := by decide +kernel
theorem dX0_firstDry_16 : decode cX0_firstDry 16 = .ok (.iload_n 3, 1) := by decide +kernel
theorem dX0_firstDry_17 : decode cX0_firstDry 17 = .ok (.ireturn, 1) := by decide +kernel
theorem dX0_firstDry_18 : decode cX0_firstDry 18 = .ok (.iinc 3 1, 3) := by decide +kernel
theorem dX0_firstDry_21 : decode cX0_firstDry 21 = .ok (.goto (-19), 3) := by decide +kernel
theorem dX0_firstDry_24 : decode cX0_firstDry 24 = .ok (.bipush (-9), 2) := by decide +kernel
theorem dX0_firstDry_26 : decode cX0_firstDry 26 = .ok (.ireturn, 1) := by decide +kernel
theorem dX0_countNeverDry_0 : decode cX0_countNeverDry 0 = .ok (.iconst 0, 1) := by decide +kernel
theorem dX0_countNeverDry_1 : decode cX0_countNeverDry 1 = .ok (.istore_n 2, 1) := by decide +kernel
theorem dX0_countNeverDry_2 : decode cX0_countNeverDry 2 = .ok (.iconst 0, 1) := by decide +kernel
theorem dX0_countNeverDry_3 : decode cX0_countNeverDry 3 = .ok (.istore_n 3, 1) := by decide +kernel
theorem dX0_countNeverDry_4 : decode cX0_countNeverDry 4 = .ok (.iload_n 3, 1) := by decide +kernel
theorem dX0_countNeverDry_5 : decode cX0_countNeverDry 5 = .ok (.aload_n 0, 1) := by decide +kernel
theorem dX0_countNeverDry_6 : decode cX0_countNeverDry 6 = .ok (.getfield 24, 3) := by decide +kernel
theorem dX0_countNeverDry_9 : decode cX0_countNeverDry 9 = .ok (.getfield 32, 3) := by decide +kernel
theorem dX0_countNeverDry_12 : decode cX0_countNeverDry 12 = .ok (.if_icmp .ge 23, 3) := by decide +kernel
theorem dX0_countNeverDry_15 : decode cX0_countNeverDry 15 = .ok (.aload_n 0, 1) := by decide +kernel
theorem dX0_countNeverDry_16 : decode cX0_countNeverDry 16 = .ok (.iload_n 3, 1) := by decide +kernel
theorem dX0_countNeverDry_17 : decode cX0_countNeverDry 17 = .ok (.iload_n 1, 1) := by decide +kernel
theorem dX0_countNeverDry_18 : decode cX0_countNeverDry 18 = .ok (.invokevirtual 102, 3) := by decide +kernel
theorem dX0_countNeverDry_21 : decode cX0_countNeverDry 21 = .ok (.bipush (-9), 2) := by decide +kernel
theorem dX0_countNeverDry_23 : decode cX0_countNeverDry 23 = .ok (.if_icmp .ne 6, 3) := by decide +kernel
theorem dX0_countNeverDry_26 : decode cX0_countNeverDry 26 = .ok (.iinc 2 1, 3) := by decide +kernel
theorem dX0_countNeverDry_29 : decode cX0_countNeverDry 29 = .ok (.iinc 3 1, 3) := by decide +kernel
theorem dX0_countNeverDry_32 : decode cX0_countNeverDry 32 = .ok (.goto (-28), 3) := by decide +kernel
theorem dX0_countNeverDry_35 : decode cX0_countNeverDry 35 = .ok (.iload_n 2, 1) := by decide +kernel
theorem dX0_countNeverDry_36 : decode cX0_countNeverDry 36 = .ok (.ireturn, 1) := by decide +kernel
theorem dX0_allHaveNeeds_0 : decode cX0_allHaveNeeds 0 = .ok (.aload_n 0, 1) := by decide +kernel
theorem dX0_allHaveNeeds_1 : decode cX0_allHaveNeeds 1 = .ok (.iload_n 1, 1) := by decide +kernel
theorem dX0_allHaveNeeds_2 : decode cX0_allHaveNeeds 2 = .ok (.iconst 3, 1) := by decide +kernel
theorem dX0_allHaveNeeds_3 : decode cX0_allHaveNeeds 3 = .ok (.invokevirtual 105, 3) := by decide +kernel
theorem dX0_allHaveNeeds_6 : decode cX0_allHaveNeeds 6 = .ok (.iconst 0, 1) := by decide +kernel
theorem dX0_allHaveNeeds_7 : decode cX0_allHaveNeeds 7 = .ok (.istore_n 3, 1) := by decide +kernel
theorem dX0_allHaveNeeds_8 : decode cX0_allHaveNeeds 8 = .ok (.iload_n 3, 1) := by decide +kernel
theorem dX0_allHaveNeeds_9 : decode cX0_allHaveNeeds 9 = .ok (.iload_n 2, 1) := by decide +kernel
theorem dX0_allHaveNeeds_10 : decode cX0_allHaveNeeds 10 = .ok (.if_icmp .ge 56, 3) := by decide +kernel
theorem dX0_allHaveNeeds_13 : decode cX0_allHaveNeeds 13 = .ok (.aload_n 0, 1) := by decide +kernel
theorem dX0_allHaveNeeds_14 : decode cX0_allHaveNeeds 14 = .ok (.iload_n 3, 1) := by decide +kernel
theorem dX0_allHaveNeeds_15 : decode cX0_allHaveNeeds 15 = .ok (.aload_n 0, 1) := by decide +kernel
theorem dX0_allHaveNeeds_16 : decode cX0_allHaveNeeds 16 = .ok (.getfield 24, 3) := by decide +kernel
theorem dX0_allHaveNeeds_19 : decode cX0_allHaveNeeds 19 = .ok (.getfield 50, 3) := by decide +kernel
theorem dX0_allHaveNeeds_22 : decode cX0_allHaveNeeds 22 = .ok (.iload_n 3, 1) := by decide +kernel
theorem dX0_allHaveNeeds_23 : decode cX0_allHaveNeeds 23 = .ok (.iaload, 1) := by decide +kernel
theorem dX0_allHaveNeeds_24 : decode cX0_allHaveNeeds 24 = .ok (.invokevirtual 53, 3) := by decide +kernel
theorem dX0_allHaveNeeds_27 : decode cX0_allHaveNeeds 27 = .ok (.iconst 0, 1) := by decide +kernel
theorem dX0_allHaveNeeds_28 : decode cX0_allHaveNeeds 28 = .ok (.istore 4, 2) := by decide +kernel
theorem dX0_allHaveNeeds_30 : decode cX0_allHaveNeeds 30 = .ok (.iload 4, 2) := by decide +kernel
theorem dX0_allHaveNeeds_32 : decode cX0_allHaveNeeds 32 = .ok (.aload_n 0, 1) := by decide +kernel
theorem dX0_allHaveNeeds_33 : decode cX0_allHaveNeeds 33 = .ok (.getfield 24, 3) := by decide +kernel
theorem dX0_allHaveNeeds_36 : decode cX0_allHaveNeeds 36 = .ok (.getfield 32, 3) := by decide +kernel
theorem dX0_allHaveNeeds_39 : decode cX0_allHaveNeeds 39 = .ok (.if_icmp .ge 21, 3) := by decide +kernel
theorem dX0_allHaveNeeds_42 : decode cX0_allHaveNeeds 42 = .ok (.aload_n 0, 1) := by decide +kernel
theorem dX0_allHaveNeeds_43 : decode cX0_allHaveNeeds 43 = .ok (.iload 4, 2) := by decide +kernel
theorem dX0_allHaveNeeds_45 : decode cX0_allHaveNeeds 45 = .ok (.iload_n 3, 1) := by decide +kernel
theorem dX0_allHaveNeeds_46 : decode cX0_allHaveNeeds 46 = .ok (.invokevirtual 99, 3) := by decide +kernel
theorem dX0_allHaveNeeds_49 : decode cX0_allHaveNeeds 49 = .ok (.ifCond .eq 5, 3) := by decide +kernel
theorem dX0_allHaveNeeds_52 : decode cX0_allHaveNeeds 52 = .ok (.iconst 0, 1) := by decide +kernel
theorem dX0_allHaveNeeds_53 : decode cX0_allHaveNeeds 53 = .ok (.ireturn, 1) := by decide +kernel
theorem dX0_allHaveNeeds_54 : decode cX0_allHaveNeeds 54 = .ok (.iinc 4 1, 3) := by decide +kernel
theorem dX0_allHaveNeeds_57 : decode cX0_allHaveNeeds 57 = .ok (.goto (-27), 3) := by decide +kernel
theorem dX0_allHaveNeeds_60 : decode cX0_allHaveNeeds 60 = .ok (.iinc 3 1, 3) := by decide +kernel
theorem dX0_allHaveNeeds_63 : decode cX0_allHaveNeeds 63 = .ok (.goto (-55), 3) := by decide +kernel
theorem dX0_allHaveNeeds_66 : decode cX0_allHaveNeeds 66 = .ok (.iconst 1, 1) := by decide +kernel
theorem dX0_allHaveNeeds_67 : decode cX0_allHaveNeeds 67 = .ok (.ireturn, 1) := by decide +kernel
theorem dX1_init_0 : decode cX1_init 0 = .ok (.aload_n 0, 1) := by decide +kernel
theorem dX1_init_1 : decode cX1_init 1 = .ok (.invokespecial 3, 3) := by decide +kernel
theorem dX1_init_4 : decode cX1_init 4 = .ok (.aload_n 0, 1) := by decide +kernel
theorem dX1_init_5 : decode cX1_init 5 = .ok (.bipush 8, 2) := by decide +kernel
theorem dX1_init_7 : decode cX1_init 7 = .ok (.newarray .int, 2) := by decide +kernel
theorem dX1_init_9 : decode cX1_init 9 = .ok (.putfield 9, 3) := by decide +kernel
theorem dX1_init_12 : decode cX1_init 12 = .ok (.aload_n 0, 1) := by decide +kernel
theorem dX1_init_13 : decode cX1_init 13 = .ok (.bipush 8, 2) := by decide +kernel
theorem dX1_init_15 : decode cX1_init 15 = .ok (.newarray .int, 2) := by decide +kernel
theorem dX1_init_17 : decode cX1_init 17 = .ok (.putfield 15, 3) := by decide +kernel
theorem dX1_init_20 : decode cX1_init 20 = .ok (.return_, 1) := by decide +kernel
theorem dX1_addOne_0 : decode cX1_addOne 0 = .ok (.aload_n 0, 1) := by decide +kernel
theorem dX1_addOne_1 : decode cX1_addOne 1 = .ok (.getfield 18, 3) := by decide +kernel
theorem dX1_addOne_4 : decode cX1_addOne 4 = .ok (.istore_n 3, 1) := by decide +kernel
theorem dX1_addOne_5 : decode cX1_addOne 5 = .ok (.aload_n 0, 1) := by decide +kernel
theorem dX1_addOne_6 : decode cX1_addOne 6 = .ok (.getfield 9, 3) := by decide +kernel
theorem dX1_addOne_9 : decode cX1_addOne 9 = .ok (.iload_n 3, 1) := by decide +kernel
theorem dX1_addOne_10 : decode cX1_addOne 10 = .ok (.iload_n 1, 1) := by decide +kernel
theorem dX1_addOne_11 : decode cX1_addOne 11 = .ok (.iastore, 1) := by decide +kernel
theorem dX1_addOne_12 : decode cX1_addOne 12 = .ok (.aload_n 0, 1) := by decide +kernel
theorem dX1_addOne_13 : decode cX1_addOne 13 = .ok (.getfield 15, 3) := by decide +kernel
theorem dX1_addOne_16 : decode cX1_addOne 16 = .ok (.iload_n 3, 1) := by decide +kernel
theorem dX1_addOne_17 : decode cX1_addOne 17 = .ok (.iload_n 2, 1) := by decide +kernel
theorem dX1_addOne_18 : decode cX1_addOne 18 = .ok (.iastore, 1) := by decide +kernel
theorem dX1_addOne_19 : decode cX1_addOne 19 = .ok (.aload_n 0, 1) := by decide +kernel
theorem dX1_addOne_20 : decode cX1_addOne 20 = .ok (.dup, 1) := by decide +kernel
theorem dX1_addOne_21 : decode cX1_addOne 21 = .ok (.getfield 18, 3) := by decide +kernel
theorem dX1_addOne_24 : decode cX1_addOne 24 = .ok (.iconst 1, 1) := by decide +kernel
theorem dX1_addOne_25 : decode cX1_addOne 25 = .ok (.iadd, 1) := by decide +kernel
theorem dX1_addOne_26 : decode cX1_addOne 26 = .ok (.putfield 18, 3) := by decide +kernel
theorem dX1_addOne_29 : decode cX1_addOne 29 = .ok (.iload_n 3, 1) := by decide +kernel
theorem dX1_addOne_30 : decode cX1_addOne 30 = .ok (.ireturn, 1) := by decide +kernel
theorem dX1_lastDay_0 : decode cX1_lastDay 0 = .ok (.iconst 0, 1) := by decide +kernel
theorem dX1_lastDay_1 : decode cX1_lastDay 1 = .ok (.istore_n 1, 1) := by decide +kernel
theorem dX1_lastDay_2 : decode cX1_lastDay 2 = .ok (.iconst 0, 1) := by decide +kernel
theorem dX1_lastDay_3 : decode cX1_lastDay 3 = .ok (.istore_n 2, 1) := by decide +kernel
theorem dX1_lastDay_4 : decode cX1_lastDay 4 = .ok (.iload_n 2, 1) := by decide +kernel
theorem dX1_lastDay_5 : decode cX1_lastDay 5 = .ok (.aload_n 0, 1) := by decide +kernel
theorem dX1_lastDay_6 : decode cX1_lastDay 6 = .ok (.getfield 18, 3) := by decide +kernel
theorem dX1_lastDay_9 : decode cX1_lastDay 9 = .ok (.if_icmp .ge 20, 3) := by decide +kernel
theorem dX1_lastDay_12 : decode cX1_lastDay 12 = .ok (.iload_n 1, 1) := by decide +kernel
theorem dX1_lastDay_13 : decode cX1_lastDay 13 = .ok (.aload_n 0, 1) := by decide +kernel
theorem dX1_lastDay_14 : decode cX1_lastDay 14 = .ok (.getfield 9, 3) := by decide +kernel
theorem dX1_lastDay_17 : decode cX1_lastDay 17 = .ok (.iload_n 2, 1) := by decide +kernel
theorem dX1_lastDay_18 : decode cX1_lastDay 18 = .ok (.iaload, 1) := by decide +kernel
theorem dX1_lastDay_19 : decode cX1_lastDay 19 = .ok (.invokestatic 22, 3) := by decide +kernel
theorem dX1_lastDay_22 : decode cX1_lastDay 22 = .ok (.istore_n 1, 1) := by decide +kernel
theorem dX1_lastDay_23 : decode cX1_lastDay 23 = .ok (.iinc 2 1, 3) := by decide +kernel
theorem dX1_lastDay_26 : decode cX1_lastDay 26 = .ok (.goto (-22), 3) := by decide +kernel
theorem dX1_lastDay_29 : decode cX1_lastDay 29 = .ok (.iload_n 1, 1) := by decide +kernel
theorem dX1_lastDay_30 : decode cX1_lastDay 30 = .ok (.ireturn, 1) := by decide +kernel
theorem dX1_holdAhead_0 : decode cX1_holdAhead 0 = .ok (.iconst 0, 1) := by decide +kernel
theorem dX1_holdAhead_1 : decode cX1_holdAhead 1 = .ok (.istore_n 3, 1) := by decide +kernel
theorem dX1_holdAhead_2 : decode cX1_holdAhead 2 = .ok (.iload_n 3, 1) := by decide +kernel
theorem dX1_holdAhead_3 : decode cX1_holdAhead 3 = .ok (.aload_n 0, 1) := by decide +kernel
theorem dX1_holdAhead_4 : decode cX1_holdAhead 4 = .ok (.getfield 18, 3) := by decide +kernel
theorem dX1_holdAhead_7 : decode cX1_holdAhead 7 = .ok (.if_icmp .ge 31, 3) := by decide +kernel
theorem dX1_holdAhead_10 : decode cX1_holdAhead 10 = .ok (.aload_n 0, 1) := by decide +kernel
theorem dX1_holdAhead_11 : decode cX1_holdAhead 11 = .ok (.getfield 9, 3) := by decide +kernel
theorem dX1_holdAhead_14 : decode cX1_holdAhead 14 = .ok (.iload_n 3, 1) := by decide +kernel
theorem dX1_holdAhead_15 : decode cX1_holdAhead 15 = .ok (.iaload, 1) := by decide +kernel
theorem dX1_holdAhead_16 : decode cX1_holdAhead 16 = .ok (.iload_n 1, 1) := by decide +kernel
theorem dX1_holdAhead_17 : decode cX1_holdAhead 17 = .ok (.if_icmp .ne 15, 3) := by decide +kernel
theorem dX1_holdAhead_20 : decode cX1_holdAhead 20 = .ok (.aload_n 0, 1) := by decide +kernel
theorem dX1_holdAhead_21 : decode cX1_holdAhead 21 = .ok (.getfield 15, 3) := by decide +kernel
theorem dX1_holdAhead_24 : decode cX1_holdAhead 24 = .ok (.iload_n 3, 1) := by decide +kernel
theorem dX1_holdAhead_25 : decode cX1_holdAhead 25 = .ok (.iaload, 1) := by decide +kernel
theorem dX1_holdAhead_26 : decode cX1_holdAhead 26 = .ok (.iload_n 2, 1) := by decide +kernel
theorem dX1_holdAhead_27 : decode cX1_holdAhead 27 = .ok (.if_icmp .eq 5, 3) := by decide +kernel
theorem dX1_holdAhead_30 : decode cX1_holdAhead 30 = .ok (.iconst 0, 1) := by decide +kernel
theorem dX1_holdAhead_31 : decode cX1_holdAhead 31 = .ok (.ireturn, 1) := by decide +kernel
theorem dX1_holdAhead_32 : decode cX1_holdAhead 32 = .ok (.iinc 3 1, 3) := by decide +kernel
theorem dX1_holdAhead_35 : decode cX1_holdAhead 35 = .ok (.goto (-33), 3) := by decide +kernel
theorem dX1_holdAhead_38 : decode cX1_holdAhead 38 = .ok (.iconst 1, 1) := by decide +kernel
theorem dX1_holdAhead_39 : decode cX1_holdAhead 39 = .ok (.ireturn, 1) := by decide +kernel
theorem dX2_init_0 : decode cX2_init 0 = .ok (.aload_n 0, 1) := by decide +kernel
theorem dX2_init_1 : decode cX2_init 1 = .ok (.invokespecial 3, 3) := by decide +kernel
theorem dX2_init_4 : decode cX2_init 4 = .ok (.aload_n 0, 1) := by decide +kernel
theorem dX2_init_5 : decode cX2_init 5 = .ok (.bipush 60, 2) := by decide +kernel
theorem dX2_init_7 : decode cX2_init 7 = .ok (.newarray .int, 2) := by decide +kernel
theorem dX2_init_9 : decode cX2_init 9 = .ok (.putfield 9, 3) := by decide +kernel
theorem dX2_init_12 : decode cX2_init 12 = .ok (.aload_n 0, 1) := by decide +kernel
theorem dX2_init_13 : decode cX2_init 13 = .ok (.iconst (-1), 1) := by decide +kernel
theorem dX2_init_14 : decode cX2_init 14 = .ok (.putfield 15, 3) := by decide +kernel
theorem dX2_init_17 : decode cX2_init 17 = .ok (.return_, 1) := by decide +kernel
theorem dX2_makeRow_0 : decode cX2_makeRow 0 = .ok (.aload_n 0, 1) := by decide +kernel
theorem dX2_makeRow_1 : decode cX2_makeRow 1 = .ok (.iload_n 1, 1) := by decide +kernel
theorem dX2_makeRow_2 : decode cX2_makeRow 2 = .ok (.putfield 15, 3) := by decide +kernel
theorem dX2_makeRow_5 : decode cX2_makeRow 5 = .ok (.aload_n 0, 1) := by decide +kernel
theorem dX2_makeRow_6 : decode cX2_makeRow 6 = .ok (.iload_n 2, 1) := by decide +kernel
theorem dX2_makeRow_7 : decode cX2_makeRow 7 = .ok (.putfield 19, 3) := by decide +kernel
theorem dX2_makeRow_10 : decode cX2_makeRow 10 = .ok (.iconst 0, 1) := by decide +kernel
theorem dX2_makeRow_11 : decode cX2_makeRow 11 = .ok (.istore_n 3, 1) := by decide +kernel
theorem dX2_makeRow_12 : decode cX2_makeRow 12 = .ok (.iload_n 3, 1) := by decide +kernel
theorem dX2_makeRow_13 : decode cX2_makeRow 13 = .ok (.iload_n 2, 1) := by decide +kernel
theorem dX2_makeRow_14 : decode cX2_makeRow 14 = .ok (.if_icmp .ge 16, 3) := by decide +kernel
theorem dX2_makeRow_17 : decode cX2_makeRow 17 = .ok (.aload_n 0, 1) := by decide +kernel
theorem dX2_makeRow_18 : decode cX2_makeRow 18 = .ok (.getfield 9, 3) := by decide +kernel
theorem dX2_makeRow_21 : decode cX2_makeRow 21 = .ok (.iload_n 3, 1) := by decide +kernel
theorem dX2_makeRow_22 : decode cX2_makeRow 22 = .ok (.iconst 0, 1) := by decide +kernel
theorem dX2_makeRow_23 : decode cX2_makeRow 23 = .ok (.iastore, 1) := by decide +kernel
theorem dX2_makeRow_24 : decode cX2_makeRow 24 = .ok (.iinc 3 1, 3) := by decide +kernel
theorem dX2_makeRow_27 : decode cX2_makeRow 27 = .ok (.goto (-15), 3) := by decide +kernel
theorem dX2_makeRow_30 : decode cX2_makeRow 30 = .ok (.return_, 1) := by decide +kernel
theorem dX2_hasCells_0 : decode cX2_hasCells 0 = .ok (.iload_n 1, 1) := by decide +kernel
theorem dX2_hasCells_1 : decode cX2_hasCells 1 = .ok (.ifCond .lt 29, 3) := by decide +kernel
theorem dX2_hasCells_4 : decode cX2_hasCells 4 = .ok (.iload_n 1, 1) := by decide +kernel
theorem dX2_hasCells_5 : decode cX2_hasCells 5 = .ok (.aload_n 0, 1) := by decide +kernel
theorem dX2_hasCells_6 : decode cX2_hasCells 6 = .ok (.getfield 19, 3) := by decide +kernel
theorem dX2_hasCells_9 : decode cX2_hasCells 9 = .ok (.if_icmp .gt 21, 3) := by decide +kernel
theorem dX2_hasCells_12 : decode cX2_hasCells 12 = .ok (.iload_n 2, 1) := by decide +kernel
theorem dX2_hasCells_13 : decode cX2_hasCells 13 = .ok (.ifCond .lt 17, 3) := by decide +kernel
theorem dX2_hasCells_16 : decode cX2_hasCells 16 = .ok (.iload_n 2, 1) := by decide +kernel
theorem dX2_hasCells_17 : decode cX2_hasCells 17 = .ok (.aload_n 0, 1) := by decide +kernel
theorem dX2_hasCells_18 : decode cX2_hasCells 18 = .ok (.getfield 19, 3) := by decide +kernel
theorem dX2_hasCells_21 : decode cX2_hasCells 21 = .ok (.iload_n 1, 1) := by decide +kernel
theorem dX2_hasCells_22 : decode cX2_hasCells 22 = .ok (.isub, 1) := by decide +kernel
theorem dX2_hasCells_23 : decode cX2_hasCells 23 = .ok (.if_icmp .gt 7, 3) := by decide +kernel
theorem dX2_hasCells_26 : decode cX2_hasCells 26 = .ok (.iconst 1, 1) := by decide +kernel
theorem dX2_hasCells_27 : decode cX2_hasCells 27 = .ok (.goto 4, 3) := by decide +kernel
theorem dX2_hasCells_30 : decode cX2_hasCells 30 = .ok (.iconst 0, 1) := by decide +kernel
theorem dX2_hasCells_31 : decode cX2_hasCells 31 = .ok (.ireturn, 1) := by decide +kernel
theorem dX2_faultAsLane_0 : decode cX2_faultAsLane 0 = .ok (.aload_n 0, 1) := by decide +kernel
theorem dX2_faultAsLane_1 : decode cX2_faultAsLane 1 = .ok (.getfield 15, 3) := by decide +kernel
theorem dX2_faultAsLane_4 : decode cX2_faultAsLane 4 = .ok (.iconst (-1), 1) := by decide +kernel
theorem dX2_faultAsLane_5 : decode cX2_faultAsLane 5 = .ok (.if_icmp .ne 5, 3) := by decide +kernel
theorem dX2_faultAsLane_8 : decode cX2_faultAsLane 8 = .ok (.iconst 1, 1) := by decide +kernel
theorem dX2_faultAsLane_9 : decode cX2_faultAsLane 9 = .ok (.ireturn, 1) := by decide +kernel
theorem dX2_faultAsLane_10 : decode cX2_faultAsLane 10 = .ok (.aload_n 0, 1) := by decide +kernel
theorem dX2_faultAsLane_11 : decode cX2_faultAsLane 11 = .ok (.getfield 15, 3) := by decide +kernel
theorem dX2_faultAsLane_14 : decode cX2_faultAsLane 14 = .ok (.iload_n 1, 1) := by decide +kernel
theorem dX2_faultAsLane_15 : decode cX2_faultAsLane 15 = .ok (.if_icmp .ne 7, 3) := by decide +kernel
theorem dX2_faultAsLane_18 : decode cX2_faultAsLane 18 = .ok (.iconst 0, 1) := by decide +kernel
theorem dX2_faultAsLane_19 : decode cX2_faultAsLane 19 = .ok (.goto 4, 3) := by decide +kernel
theorem dX2_faultAsLane_22 : decode cX2_faultAsLane 22 = .ok (.iconst 2, 1) := by decide +kernel
theorem dX2_faultAsLane_23 : decode cX2_faultAsLane 23 = .ok (.ireturn, 1) := by decide +kernel
theorem dX2_cutToLane_0 : decode cX2_cutToLane 0 = .ok (.aload_n 0, 1) := by decide +kernel
theorem dX2_cutToLane_1 : decode cX2_cutToLane 1 = .ok (.getfield 15, 3) := by decide +kernel
theorem dX2_cutToLane_4 : decode cX2_cutToLane 4 = .ok (.ifCond .ne 6, 3) := by decide +kernel
theorem dX2_cutToLane_7 : decode cX2_cutToLane 7 = .ok (.iload_n 1, 1) := by decide +kernel
theorem dX2_cutToLane_8 : decode cX2_cutToLane 8 = .ok (.i2b, 1) := by decide +kernel
theorem dX2_cutToLane_9 : decode cX2_cutToLane 9 = .ok (.ireturn, 1) := by decide +kernel
theorem dX2_cutToLane_10 : decode cX2_cutToLane 10 = .ok (.aload_n 0, 1) := by decide +kernel
theorem dX2_cutToLane_11 : decode cX2_cutToLane 11 = .ok (.getfield 15, 3) := by decide +kernel
theorem dX2_cutToLane_14 : decode cX2_cutToLane 14 = .ok (.iconst 1, 1) := by decide +kernel
theorem dX2_cutToLane_15 : decode cX2_cutToLane 15 = .ok (.if_icmp .ne 8, 3) := by decide +kernel
theorem dX2_cutToLane_18 : decode cX2_cutToLane 18 = .ok (.iload_n 1, 1) := by decide +kernel
theorem dX2_cutToLane_19 : decode cX2_cutToLane 19 = .ok (.i2s, 1) := by decide +kernel
theorem dX2_cutToLane_20 : decode cX2_cutToLane 20 = .ok (.goto 4, 3) := by decide +kernel
theorem dX2_cutToLane_23 : decode cX2_cutToLane 23 = .ok (.iload_n 1, 1) := by decide +kernel
theorem dX2_cutToLane_24 : decode cX2_cutToLane 24 = .ok (.ireturn, 1) := by decide +kernel
theorem dX3_init_0 : decode cX3_init 0 = .ok (.aload_n 0, 1) := by decide +kernel
theorem dX3_init_1 : decode cX3_init 1 = .ok (.invokespecial 3, 3) := by decide +kernel
theorem dX3_init_4 : decode cX3_init 4 = .ok (.return_, 1) := by decide +kernel
theorem dX3_wants_0 : decode cX3_wants 0 = .ok (.aload_n 0, 1) := by decide +kernel
theorem dX3_wants_1 : decode cX3_wants 1 = .ok (.getfield 9, 3) := by decide +kernel
theorem dX3_wants_4 : decode cX3_wants 4 = .ok (.iconst 2, 1) := by decide +kernel
theorem dX3_wants_5 : decode cX3_wants 5 = .ok (.if_icmp .ne 17, 3) := by decide +kernel
theorem dX3_wants_8 : decode cX3_wants 8 = .ok (.aload_n 0, 1) := by decide +kernel
theorem dX3_wants_9 : decode cX3_wants 9 = .ok (.getfield 15, 3) := by decide +kernel
theorem dX3_wants_12 : decode cX3_wants 12 = .ok (.aload_n 0, 1) := by decide +kernel
theorem dX3_wants_13 : decode cX3_wants 13 = .ok (.getfield 15, 3) := by decide +kernel
theorem dX3_wants_16 : decode cX3_wants 16 = .ok (.iconst 2, 1) := by decide +kernel
theorem dX3_wants_17 : decode cX3_wants 17 = .ok (.idiv, 1) := by decide +kernel
theorem dX3_wants_18 : decode cX3_wants 18 = .ok (.iadd, 1) := by decide +kernel
theorem dX3_wants_19 : decode cX3_wants 19 = .ok (.iconst 1, 1) := by decide +kernel
theorem dX3_wants_20 : decode cX3_wants 20 = .ok (.iadd, 1) := by decide +kernel
theorem dX3_wants_21 : decode cX3_wants 21 = .ok (.ireturn, 1) := by decide +kernel
theorem dX3_wants_22 : decode cX3_wants 22 = .ok (.aload_n 0, 1) := by decide +kernel
theorem dX3_wants_23 : decode cX3_wants 23 = .ok (.getfield 9, 3) := by decide +kernel
theorem dX3_wants_26 : decode cX3_wants 26 = .ok (.iconst 1, 1) := by decide +kernel
theorem dX3_wants_27 : decode cX3_wants 27 = .ok (.if_icmp .ne 17, 3) := by decide +kernel
theorem dX3_wants_30 : decode cX3_wants 30 = .ok (.aload_n 0, 1) := by decide +kernel
theorem dX3_wants_31 : decode cX3_wants 31 = .ok (.getfield 15, 3) := by decide +kernel
theorem dX3_wants_34 : decode cX3_wants 34 = .ok (.aload_n 0, 1) := by decide +kernel
theorem dX3_wants_35 : decode cX3_wants 35 = .ok (.getfield 15, 3) := by decide +kernel
theorem dX3_wants_38 : decode cX3_wants 38 = .ok (.iconst 2, 1) := by decide +kernel
theorem dX3_wants_39 : decode cX3_wants 39 = .ok (.idiv, 1) := by decide +kernel
theorem dX3_wants_40 : decode cX3_wants 40 = .ok (.iadd, 1) := by decide +kernel
theorem dX3_wants_41 : decode cX3_wants 41 = .ok (.goto 7, 3) := by decide +kernel
theorem dX3_wants_44 : decode cX3_wants 44 = .ok (.aload_n 0, 1) := by decide +kernel
theorem dX3_wants_45 : decode cX3_wants 45 = .ok (.getfield 15, 3) := by decide +kernel
theorem dX3_wants_48 : decode cX3_wants 48 = .ok (.ireturn, 1) := by decide +kernel
theorem dX4_firstFault_0 : decode cX4_firstFault 0 = .ok (.iconst 0, 1) := by decide +kernel
theorem dX4_firstFault_1 : decode cX4_firstFault 1 = .ok (.istore_n 3, 1) := by decide +kernel
theorem dX4_firstFault_2 : decode cX4_firstFault 2 = .ok (.iload_n 3, 1) := by decide +kernel
theorem dX4_firstFault_3 : decode cX4_firstFault 3 = .ok (.iload_n 2, 1) := by decide +kernel
theorem dX4_firstFault_4 : decode cX4_firstFault 4 = .ok (.if_icmp .ge 57, 3) := by decide +kernel
theorem dX4_firstFault_7 : decode cX4_firstFault 7 = .ok (.aload_n 0, 1) := by decide +kernel
theorem dX4_firstFault_8 : decode cX4_firstFault 8 = .ok (.getfield 9, 3) := by decide +kernel
theorem dX4_firstFault_11 : decode cX4_firstFault 11 = .ok (.iload_n 1, 1) := by decide +kernel
theorem dX4_firstFault_12 : decode cX4_firstFault 12 = .ok (.iload_n 3, 1) := by decide +kernel
theorem dX4_firstFault_13 : decode cX4_firstFault 13 = .ok (.iadd, 1) := by decide +kernel
theorem dX4_firstFault_14 : decode cX4_firstFault 14 = .ok (.iaload, 1) := by decide +kernel
theorem dX4_firstFault_15 : decode cX4_firstFault 15 = .ok (.istore 4, 2) := by decide +kernel
theorem dX4_firstFault_17 : decode cX4_firstFault 17 = .ok (.iload_n 3, 1) := by decide +kernel
theorem dX4_firstFault_18 : decode cX4_firstFault 18 = .ok (.iload 4, 2) := by decide +kernel
theorem dX4_firstFault_20 : decode cX4_firstFault 20 = .ok (.invokestatic 15, 3) := by decide +kernel
theorem dX4_firstFault_23 : decode cX4_firstFault 23 = .ok (.ifCond .ne 5, 3) := by decide +kernel
theorem dX4_firstFault_26 : decode cX4_firstFault 26 = .ok (.iload_n 3, 1) := by decide +kernel
theorem dX4_firstFault_27 : decode cX4_firstFault 27 = .ok (.ireturn, 1) := by decide +kernel
theorem dX4_firstFault_28 : decode cX4_firstFault 28 = .ok (.iload_n 3, 1) := by decide +kernel
theorem dX4_firstFault_29 : decode cX4_firstFault 29 = .ok (.iconst 2, 1) := by decide +kernel
theorem dX4_firstFault_30 : decode cX4_firstFault 30 = .ok (.if_icmp .ne 25, 3) := by decide +kernel
theorem dX4_firstFault_33 : decode cX4_firstFault 33 = .ok (.iload 4, 2) := by decide +kernel
theorem dX4_firstFault_35 : decode cX4_firstFault 35 = .ok (.bipush 48, 2) := by decide +kernel
theorem dX4_firstFault_37 : decode cX4_firstFault 37 = .ok (.if_icmp .ne 18, 3) := by decide +kernel
theorem dX4_firstFault_40 : decode cX4_firstFault 40 = .ok (.aload_n 0, 1) := by decide +kernel
theorem dX4_firstFault_41 : decode cX4_firstFault 41 = .ok (.getfield 9, 3) := by decide +kernel
theorem dX4_firstFault_44 : decode cX4_firstFault 44 = .ok (.iload_n 1, 1) := by decide +kernel
theorem dX4_firstFault_45 : decode cX4_firstFault 45 = .ok (.iconst 1, 1) := by decide +kernel
theorem dX4_firstFault_46 : decode cX4_firstFault 46 = .ok (.iadd, 1) := by decide +kernel
theorem dX4_firstFault_47 : decode cX4_firstFault 47 = .ok (.iaload, 1) := by decide +kernel
theorem dX4_firstFault_48 : decode cX4_firstFault 48 = .ok (.bipush 48, 2) := by decide +kernel
theorem dX4_firstFault_50 : decode cX4_firstFault 50 = .ok (.if_icmp .ne 5, 3) := by decide +kernel
theorem dX4_firstFault_53 : decode cX4_firstFault 53 = .ok (.iconst 1, 1) := by decide +kernel
theorem dX4_firstFault_54 : decode cX4_firstFault 54 = .ok (.ireturn, 1) := by decide +kernel
theorem dX4_firstFault_55 : decode cX4_firstFault 55 = .ok (.iinc 3 1, 3) := by decide +kernel
theorem dX4_firstFault_58 : decode cX4_firstFault 58 = .ok (.goto (-56), 3) := by decide +kernel
theorem dX4_firstFault_61 : decode cX4_firstFault 61 = .ok (.iload_n 2, 1) := by decide +kernel
theorem dX4_firstFault_62 : decode cX4_firstFault 62 = .ok (.iconst 4, 1) := by decide +kernel
theorem dX4_firstFault_63 : decode cX4_firstFault 63 = .ok (.if_icmp .le 15, 3) := by decide +kernel
theorem dX4_firstFault_66 : decode cX4_firstFault 66 = .ok (.iload_n 2, 1) := by decide +kernel
theorem dX4_firstFault_67 : decode cX4_firstFault 67 = .ok (.iconst 4, 1) := by decide +kernel
theorem dX4_firstFault_68 : decode cX4_firstFault 68 = .ok (.isub, 1) := by decide +kernel
theorem dX4_firstFault_69 : decode cX4_firstFault 69 = .ok (.iconst 5, 1) := by decide +kernel
theorem dX4_firstFault_70 : decode cX4_firstFault 70 = .ok (.irem, 1) := by decide +kernel
theorem dX4_firstFault_71 : decode cX4_firstFault 71 = .ok (.ifCond .ne 7, 3) := by decide +kernel
theorem dX4_firstFault_74 : decode cX4_firstFault 74 = .ok (.iconst 1, 1) := by decide +kernel
theorem dX4_firstFault_75 : decode cX4_firstFault 75 = .ok (.goto 4, 3) := by decide +kernel
theorem dX4_firstFault_78 : decode cX4_firstFault 78 = .ok (.iconst 0, 1) := by decide +kernel
theorem dX4_firstFault_79 : decode cX4_firstFault 79 = .ok (.istore_n 3, 1) := by decide +kernel
theorem dX4_firstFault_80 : decode cX4_firstFault 80 = .ok (.iload_n 3, 1) := by decide +kernel
theorem dX4_firstFault_81 : decode cX4_firstFault 81 = .ok (.ifCond .eq 7, 3) := by decide +kernel
theorem dX4_firstFault_84 : decode cX4_firstFault 84 = .ok (.iconst (-1), 1) := by decide +kernel
theorem dX4_firstFault_85 : decode cX4_firstFault 85 = .ok (.goto 4, 3) := by decide +kernel
theorem dX4_firstFault_88 : decode cX4_firstFault 88 = .ok (.iload_n 2, 1) := by decide +kernel
theorem dX4_firstFault_89 : decode cX4_firstFault 89 = .ok (.ireturn, 1) := by decide +kernel
theorem dX4_goesOnWith_0 : decode cX4_goesOnWith 0 = .ok (.iload_n 0, 1) := by decide +kernel
theorem dX4_goesOnWith_1 : decode cX4_goesOnWith 1 = .ok (.iconst 4, 1) := by decide +kernel
theorem dX4_goesOnWith_2 : decode cX4_goesOnWith 2 = .ok (.if_icmp .lt 27, 3) := by decide +kernel
theorem dX4_goesOnWith_5 : decode cX4_goesOnWith 5 = .ok (.iload_n 0, 1) := by decide +kernel
theorem dX4_goesOnWith_6 : decode cX4_goesOnWith 6 = .ok (.bipush 34, 2) := by decide +kernel
theorem dX4_goesOnWith_8 : decode cX4_goesOnWith 8 = .ok (.if_icmp .ge 19, 3) := by decide +kernel
theorem dX4_goesOnWith_11 : decode cX4_goesOnWith 11 = .ok (.iload_n 0, 1) := by decide +kernel
theorem dX4_goesOnWith_12 : decode cX4_goesOnWith 12 = .ok (.iconst 4, 1) := by decide +kernel
theorem dX4_goesOnWith_13 : decode cX4_goesOnWith 13 = .ok (.isub, 1) := by decide +kernel
theorem dX4_goesOnWith_14 : decode cX4_goesOnWith 14 = .ok (.iconst 5, 1) := by decide +kernel
theorem dX4_goesOnWith_15 : decode cX4_goesOnWith 15 = .ok (.irem, 1) := by decide +kernel
theorem dX4_goesOnWith_16 : decode cX4_goesOnWith 16 = .ok (.iload_n 1, 1) := by decide +kernel
theorem dX4_goesOnWith_17 : decode cX4_goesOnWith 17 = .ok (.invokestatic 21, 3) := by decide +kernel
theorem dX4_goesOnWith_20 : decode cX4_goesOnWith 20 = .ok (.ifCond .eq 7, 3) := by decide +kernel
theorem dX4_goesOnWith_23 : decode cX4_goesOnWith 23 = .ok (.iconst 1, 1) := by decide +kernel
theorem dX4_goesOnWith_24 : decode cX4_goesOnWith 24 = .ok (.goto 4, 3) := by decide +kernel
theorem dX4_goesOnWith_27 : decode cX4_goesOnWith 27 = .ok (.iconst 0, 1) := by decide +kernel
theorem dX4_goesOnWith_28 : decode cX4_goesOnWith 28 = .ok (.ireturn, 1) := by decide +kernel
theorem dX4_goesOnWith_29 : decode cX4_goesOnWith 29 = .ok (.iload_n 0, 1) := by decide +kernel
theorem dX4_goesOnWith_30 : decode cX4_goesOnWith 30 = .ok (.lookupswitch 57 #[(0, 26), (3, 38)], 26) := by decide +kernel
theorem dX4_goesOnWith_56 : decode cX4_goesOnWith 56 = .ok (.iload_n 1, 1) := by decide +kernel
theorem dX4_goesOnWith_57 : decode cX4_goesOnWith 57 = .ok (.bipush 121, 2) := by decide +kernel
theorem dX4_goesOnWith_59 : decode cX4_goesOnWith 59 = .ok (.if_icmp .ne 7, 3) := by decide +kernel
theorem dX4_goesOnWith_62 : decode cX4_goesOnWith 62 = .ok (.iconst 1, 1) := by decide +kernel
theorem dX4_goesOnWith_63 : decode cX4_goesOnWith 63 = .ok (.goto 4, 3) := by decide +kernel
theorem dX4_goesOnWith_66 : decode cX4_goesOnWith 66 = .ok (.iconst 0, 1) := by decide +kernel
theorem dX4_goesOnWith_67 : decode cX4_goesOnWith 67 = .ok (.ireturn, 1) := by decide +kernel
theorem dX4_goesOnWith_68 : decode cX4_goesOnWith 68 = .ok (.iload_n 1, 1) := by decide +kernel
theorem dX4_goesOnWith_69 : decode cX4_goesOnWith 69 = .ok (.invokestatic 24, 3) := by decide +kernel
theorem dX4_goesOnWith_72 : decode cX4_goesOnWith 72 = .ok (.ifCond .eq 13, 3) := by decide +kernel
theorem dX4_goesOnWith_75 : decode cX4_goesOnWith 75 = .ok (.iload_n 1, 1) := by decide +kernel
theorem dX4_goesOnWith_76 : decode cX4_goesOnWith 76 = .ok (.bipush 48, 2) := by decide +kernel
theorem dX4_goesOnWith_78 : decode cX4_goesOnWith 78 = .ok (.if_icmp .eq 7, 3) := by decide +kernel
theorem dX4_goesOnWith_81 : decode cX4_goesOnWith 81 = .ok (.iconst 1, 1) := by decide +kernel
theorem dX4_goesOnWith_82 : decode cX4_goesOnWith 82 = .ok (.goto 4, 3) := by decide +kernel
theorem dX4_goesOnWith_85 : decode cX4_goesOnWith 85 = .ok (.iconst 0, 1) := by decide +kernel
theorem dX4_goesOnWith_86 : decode cX4_goesOnWith 86 = .ok (.ireturn, 1) := by decide +kernel
theorem dX4_goesOnWith_87 : decode cX4_goesOnWith 87 = .ok (.iload_n 1, 1) := by decide +kernel
theorem dX4_goesOnWith_88 : decode cX4_goesOnWith 88 = .ok (.invokestatic 24, 3) := by decide +kernel
theorem dX4_goesOnWith_91 : decode cX4_goesOnWith 91 = .ok (.ireturn, 1) := by decide +kernel
theorem dX4_tapGoesOnWith_0 : decode cX4_tapGoesOnWith 0 = .ok (.iload_n 0, 1) := by decide +kernel
theorem dX4_tapGoesOnWith_1 : decode cX4_tapGoesOnWith 1 = .ok (.tableswitch 68 0 2 #[27, 39, 63], 27) := by decide +kernel
theorem dX4_tapGoesOnWith_28 : decode cX4_tapGoesOnWith 28 = .ok (.iload_n 1, 1) := by decide +kernel
theorem dX4_tapGoesOnWith_29 : decode cX4_tapGoesOnWith 29 = .ok (.bipush 59, 2) := by decide +kernel
theorem dX4_tapGoesOnWith_31 : decode cX4_tapGoesOnWith 31 = .ok (.if_icmp .ne 7, 3) := by decide +kernel
theorem dX4_tapGoesOnWith_34 : decode cX4_tapGoesOnWith 34 = .ok (.iconst 1, 1) := by decide +kernel
theorem dX4_tapGoesOnWith_35 : decode cX4_tapGoesOnWith 35 = .ok (.goto 4, 3) := by decide +kernel
theorem dX4_tapGoesOnWith_38 : decode cX4_tapGoesOnWith 38 = .ok (.iconst 0, 1) := by decide +kernel
theorem dX4_tapGoesOnWith_39 : decode cX4_tapGoesOnWith 39 = .ok (.ireturn, 1) := by decide +kernel
theorem dX4_tapGoesOnWith_40 : decode cX4_tapGoesOnWith 40 = .ok (.iload_n 1, 1) := by decide +kernel
theorem dX4_tapGoesOnWith_41 : decode cX4_tapGoesOnWith 41 = .ok (.bipush 102, 2) := by decide +kernel
theorem dX4_tapGoesOnWith_43 : decode cX4_tapGoesOnWith 43 = .ok (.if_icmp .eq 15, 3) := by decide +kernel
theorem dX4_tapGoesOnWith_46 : decode cX4_tapGoesOnWith 46 = .ok (.iload_n 1, 1) := by decide +kernel
theorem dX4_tapGoesOnWith_47 : decode cX4_tapGoesOnWith 47 = .ok (.bipush 103, 2) := by decide +kernel
theorem dX4_tapGoesOnWith_49 : decode cX4_tapGoesOnWith 49 = .ok (.if_icmp .eq 9, 3) := by decide +kernel
theorem dX4_tapGoesOnWith_52 : decode cX4_tapGoesOnWith 52 = .ok (.iload_n 1, 1) := by decide +kernel
theorem dX4_tapGoesOnWith_53 : decode cX4_tapGoesOnWith 53 = .ok (.bipush 111, 2) := by decide +kernel
theorem dX4_tapGoesOnWith_55 : decode cX4_tapGoesOnWith 55 = .ok (.if_icmp .ne 7, 3) := by decide +kernel
theorem dX4_tapGoesOnWith_58 : decode cX4_tapGoesOnWith 58 = .ok (.iconst 1, 1) := by decide +kernel
theorem dX4_tapGoesOnWith_59 : decode cX4_tapGoesOnWith 59 = .ok (.goto 4, 3) := by decide +kernel
theorem dX4_tapGoesOnWith_62 : decode cX4_tapGoesOnWith 62 = .ok (.iconst 0, 1) := by decide +kernel
theorem dX4_tapGoesOnWith_63 : decode cX4_tapGoesOnWith 63 = .ok (.ireturn, 1) := by decide +kernel
theorem dX4_tapGoesOnWith_64 : decode cX4_tapGoesOnWith 64 = .ok (.iload_n 1, 1) := by decide +kernel
theorem dX4_tapGoesOnWith_65 : decode cX4_tapGoesOnWith 65 = .ok (.invokestatic 24, 3) := by decide +kernel
theorem dX4_tapGoesOnWith_68 : decode cX4_tapGoesOnWith 68 = .ok (.ireturn, 1) := by decide +kernel
theorem dX4_tapGoesOnWith_69 : decode cX4_tapGoesOnWith 69 = .ok (.iload_n 1, 1) := by decide +kernel
theorem dX4_tapGoesOnWith_70 : decode cX4_tapGoesOnWith 70 = .ok (.invokestatic 24, 3) := by decide +kernel
theorem dX4_tapGoesOnWith_73 : decode cX4_tapGoesOnWith 73 = .ok (.ifCond .eq 13, 3) := by decide +kernel
theorem dX4_tapGoesOnWith_76 : decode cX4_tapGoesOnWith 76 = .ok (.iload_n 1, 1) := by decide +kernel
theorem dX4_tapGoesOnWith_77 : decode cX4_tapGoesOnWith 77 = .ok (.bipush 48, 2) := by decide +kernel
theorem dX4_tapGoesOnWith_79 : decode cX4_tapGoesOnWith 79 = .ok (.if_icmp .eq 7, 3) := by decide +kernel
theorem dX4_tapGoesOnWith_82 : decode cX4_tapGoesOnWith 82 = .ok (.iconst 1, 1) := by decide +kernel
theorem dX4_tapGoesOnWith_83 : decode cX4_tapGoesOnWith 83 = .ok (.goto 4, 3) := by decide +kernel
theorem dX4_tapGoesOnWith_86 : decode cX4_tapGoesOnWith 86 = .ok (.iconst 0, 1) := by decide +kernel
theorem dX4_tapGoesOnWith_87 : decode cX4_tapGoesOnWith 87 = .ok (.ireturn, 1) := by decide +kernel
theorem dX4_isDigit_0 : decode cX4_isDigit 0 = .ok (.iload_n 0, 1) := by decide +kernel
theorem dX4_isDigit_1 : decode cX4_isDigit 1 = .ok (.bipush 48, 2) := by decide +kernel
theorem dX4_isDigit_3 : decode cX4_isDigit 3 = .ok (.if_icmp .lt 13, 3) := by decide +kernel
theorem dX4_isDigit_6 : decode cX4_isDigit 6 = .ok (.iload_n 0, 1) := by decide +kernel
theorem dX4_isDigit_7 : decode cX4_isDigit 7 = .ok (.bipush 57, 2) := by decide +kernel
theorem dX4_isDigit_9 : decode cX4_isDigit 9 = .ok (.if_icmp .gt 7, 3) := by decide +kernel
theorem dX4_isDigit_12 : decode cX4_isDigit 12 = .ok (.iconst 1, 1) := by decide +kernel
theorem dX4_isDigit_13 : decode cX4_isDigit 13 = .ok (.goto 4, 3) := by decide +kernel
theorem dX4_isDigit_16 : decode cX4_isDigit 16 = .ok (.iconst 0, 1) := by decide +kernel
theorem dX4_isDigit_17 : decode cX4_isDigit 17 = .ok (.ireturn, 1) := by decide +kernel
theorem dX4_digitAt_0 : decode cX4_digitAt 0 = .ok (.aload_n 0, 1) := by decide +kernel
theorem dX4_digitAt_1 : decode cX4_digitAt 1 = .ok (.getfield 9, 3) := by decide +kernel
theorem dX4_digitAt_4 : decode cX4_digitAt 4 = .ok (.iload_n 1, 1) := by decide +kernel
theorem dX4_digitAt_5 : decode cX4_digitAt 5 = .ok (.iaload, 1) := by decide +kernel
theorem dX4_digitAt_6 : decode cX4_digitAt 6 = .ok (.bipush 48, 2) := by decide +kernel
theorem dX4_digitAt_8 : decode cX4_digitAt 8 = .ok (.isub, 1) := by decide +kernel
theorem dX4_digitAt_9 : decode cX4_digitAt 9 = .ok (.ireturn, 1) := by decide +kernel
theorem dX4_kindOf_0 : decode cX4_kindOf 0 = .ok (.iload_n 0, 1) := by decide +kernel
theorem dX4_kindOf_1 : decode cX4_kindOf 1 = .ok (.bipush 111, 2) := by decide +kernel
theorem dX4_kindOf_3 : decode cX4_kindOf 3 = .ok (.if_icmp .ne 5, 3) := by decide +kernel
theorem dX4_kindOf_6 : decode cX4_kindOf 6 = .ok (.iconst 2, 1) := by decide +kernel
theorem dX4_kindOf_7 : decode cX4_kindOf 7 = .ok (.ireturn, 1) := by decide +kernel
theorem dX4_kindOf_8 : decode cX4_kindOf 8 = .ok (.iload_n 0, 1) := by decide +kernel
theorem dX4_kindOf_9 : decode cX4_kindOf 9 = .ok (.bipush 103, 2) := by decide +kernel
theorem dX4_kindOf_11 : decode cX4_kindOf 11 = .ok (.if_icmp .ne 7, 3) := by decide +kernel
theorem dX4_kindOf_14 : decode cX4_kindOf 14 = .ok (.iconst 1, 1) := by decide +kernel
theorem dX4_kindOf_15 : decode cX4_kindOf 15 = .ok (.goto 4, 3) := by decide +kernel
theorem dX4_kindOf_18 : decode cX4_kindOf 18 = .ok (.iconst 0, 1) := by decide +kernel
theorem dX4_kindOf_19 : decode cX4_kindOf 19 = .ok (.ireturn, 1) := by decide +kernel
theorem dX5_init_0 : decode cX5_init 0 = .ok (.aload_n 0, 1) := by decide +kernel
theorem dX5_init_1 : decode cX5_init 1 = .ok (.invokespecial 3, 3) := by decide +kernel
theorem dX5_init_4 : decode cX5_init 4 = .ok (.aload_n 0, 1) := by decide +kernel
theorem dX5_init_5 : decode cX5_init 5 = .ok (.bipush 6, 2) := by decide +kernel
theorem dX5_init_7 : decode cX5_init 7 = .ok (.anewarray 9, 3) := by decide +kernel
theorem dX5_init_10 : decode cX5_init 10 = .ok (.putfield 11, 3) := by decide +kernel
theorem dX5_init_13 : decode cX5_init 13 = .ok (.aload_n 0, 1) := by decide +kernel
theorem dX5_init_14 : decode cX5_init 14 = .ok (.bipush 10, 2) := by decide +kernel
theorem dX5_init_16 : decode cX5_init 16 = .ok (.newarray .int, 2) := by decide +kernel
theorem dX5_init_18 : decode cX5_init 18 = .ok (.putfield 17, 3) := by decide +kernel
theorem dX5_init_21 : decode cX5_init 21 = .ok (.iconst 0, 1) := by decide +kernel
theorem dX5_init_22 : decode cX5_init 22 = .ok (.istore_n 1, 1) := by decide +kernel
theorem dX5_init_23 : decode cX5_init 23 = .ok (.iload_n 1, 1) := by decide +kernel
theorem dX5_init_24 : decode cX5_init 24 = .ok (.bipush 6, 2) := by decide +kernel
theorem dX5_init_26 : decode cX5_init 26 = .ok (.if_icmp .ge 22, 3) := by decide +kernel
theorem dX5_init_29 : decode cX5_init 29 = .ok (.aload_n 0, 1) := by decide +kernel
theorem dX5_init_30 : decode cX5_init 30 = .ok (.getfield 11, 3) := by decide +kernel
theorem dX5_init_33 : decode cX5_init 33 = .ok (.iload_n 1, 1) := by decide +kernel
theorem dX5_init_34 : decode cX5_init 34 = .ok (.new 9, 3) := by decide +kernel
theorem dX5_init_37 : decode cX5_init 37 = .ok (.dup, 1) := by decide +kernel
theorem dX5_init_38 : decode cX5_init 38 = .ok (.invokespecial 21, 3) := by decide +kernel
theorem dX5_init_41 : decode cX5_init 41 = .ok (.aastore, 1) := by decide +kernel
theorem dX5_init_42 : decode cX5_init 42 = .ok (.iinc 1 1, 3) := by decide +kernel
theorem dX5_init_45 : decode cX5_init 45 = .ok (.goto (-22), 3) := by decide +kernel
theorem dX5_init_48 : decode cX5_init 48 = .ok (.return_, 1) := by decide +kernel
theorem dX5_readFrom_0 : decode cX5_readFrom 0 = .ok (.aload_n 0, 1) := by decide +kernel
theorem dX5_readFrom_1 : decode cX5_readFrom 1 = .ok (.bipush 10, 2) := by decide +kernel
theorem dX5_readFrom_3 : decode cX5_readFrom 3 = .ok (.aload_n 1, 1) := by decide +kernel
theorem dX5_readFrom_4 : decode cX5_readFrom 4 = .ok (.iload_n 2, 1) := by decide +kernel
theorem dX5_readFrom_5 : decode cX5_readFrom 5 = .ok (.iconst 1, 1) := by decide +kernel
theorem dX5_readFrom_6 : decode cX5_readFrom 6 = .ok (.iadd, 1) := by decide +kernel
theorem dX5_readFrom_7 : decode cX5_readFrom 7 = .ok (.invokestatic 22, 3) := by decide +kernel
theorem dX5_readFrom_10 : decode cX5_readFrom 10 = .ok (.imul, 1) := by decide +kernel
theorem dX5_readFrom_11 : decode cX5_readFrom 11 = .ok (.aload_n 1, 1) := by decide +kernel
theorem dX5_readFrom_12 : decode cX5_readFrom 12 = .ok (.iload_n 2, 1) := by decide +kernel
theorem dX5_readFrom_13 : decode cX5_readFrom 13 = .ok (.iconst 2, 1) := by decide +kernel
theorem dX5_readFrom_14 : decode cX5_readFrom 14 = .ok (.iadd, 1) := by decide +kernel
theorem dX5_readFrom_15 : decode cX5_readFrom 15 = .ok (.invokestatic 22, 3) := by decide +kernel
theorem dX5_readFrom_18 : decode cX5_readFrom 18 = .ok (.iadd, 1) := by decide +kernel
theorem dX5_readFrom_19 : decode cX5_readFrom 19 = .ok (.putfield 28, 3) := by decide +kernel
theorem dX5_readFrom_22 : decode cX5_readFrom 22 = .ok (.aload_n 0, 1) := by decide +kernel
theorem dX5_readFrom_23 : decode cX5_readFrom 23 = .ok (.aload_n 1, 1) := by decide +kernel
theorem dX5_readFrom_24 : decode cX5_readFrom 24 = .ok (.iload_n 2, 1) := by decide +kernel
theorem dX5_readFrom_25 : decode cX5_readFrom 25 = .ok (.iconst 3, 1) := by decide +kernel
theorem dX5_readFrom_26 : decode cX5_readFrom 26 = .ok (.iadd, 1) := by decide +kernel
theorem dX5_readFrom_27 : decode cX5_readFrom 27 = .ok (.invokestatic 22, 3) := by decide +kernel
theorem dX5_readFrom_30 : decode cX5_readFrom 30 = .ok (.putfield 32, 3) := by decide +kernel
theorem dX5_readFrom_33 : decode cX5_readFrom 33 = .ok (.aload_n 0, 1) := by decide +kernel
theorem dX5_readFrom_34 : decode cX5_readFrom 34 = .ok (.iload_n 3, 1) := by decide +kernel
theorem dX5_readFrom_35 : decode cX5_readFrom 35 = .ok (.iconst 4, 1) := by decide +kernel
theorem dX5_readFrom_36 : decode cX5_readFrom 36 = .ok (.isub, 1) := by decide +kernel
theorem dX5_readFrom_37 : decode cX5_readFrom 37 = .ok (.iconst 5, 1) := by decide +kernel
theorem dX5_readFrom_38 : decode cX5_readFrom 38 = .ok (.idiv, 1) := by decide +kernel
theorem dX5_readFrom_39 : decode cX5_readFrom 39 = .ok (.bipush 6, 2) := by decide +kernel
theorem dX5_readFrom_41 : decode cX5_readFrom 41 = .ok (.invokestatic 35, 3) := by decide +kernel
theorem dX5_readFrom_44 : decode cX5_readFrom 44 = .ok (.putfield 41, 3) := by decide +kernel
theorem dX5_readFrom_47 : decode cX5_readFrom 47 = .ok (.iconst 0, 1) := by decide +kernel
theorem dX5_readFrom_48 : decode cX5_readFrom 48 = .ok (.istore 4, 2) := by decide +kernel
theorem dX5_readFrom_50 : decode cX5_readFrom 50 = .ok (.iload 4, 2) := by decide +kernel
theorem dX5_readFrom_52 : decode cX5_readFrom 52 = .ok (.aload_n 0, 1) := by decide +kernel
theorem dX5_readFrom_53 : decode cX5_readFrom 53 = .ok (.getfield 41, 3) := by decide +kernel
theorem dX5_readFrom_56 : decode cX5_readFrom 56 = .ok (.if_icmp .ge 95, 3) := by decide +kernel
theorem dX5_readFrom_59 : decode cX5_readFrom 59 = .ok (.iload_n 2, 1) := by decide +kernel
theorem dX5_readFrom_60 : decode cX5_readFrom 60 = .ok (.iconst 4, 1) := by decide +kernel
theorem dX5_readFrom_61 : decode cX5_readFrom 61 = .ok (.iadd, 1) := by decide +kernel
theorem dX5_readFrom_62 : decode cX5_readFrom 62 = .ok (.iload 4, 2) := by decide +kernel
theorem dX5_readFrom_64 : decode cX5_readFrom 64 = .ok (.iconst 5, 1) := by decide +kernel
theorem dX5_readFrom_65 : decode cX5_readFrom 65 = .ok (.imul, 1) := by decide +kernel
theorem dX5_readFrom_66 : decode cX5_readFrom 66 = .ok (.iadd, 1) := by decide +kernel
theorem dX5_readFrom_67 : decode cX5_readFrom 67 = .ok (.istore 5, 2) := by decide +kernel
theorem dX5_readFrom_69 : decode cX5_readFrom 69 = .ok (.aload_n 0, 1) := by decide +kernel
theorem dX5_readFrom_70 : decode cX5_readFrom 70 = .ok (.getfield 11, 3) := by decide +kernel
theorem dX5_readFrom_73 : decode cX5_readFrom 73 = .ok (.iload 4, 2) := by decide +kernel
theorem dX5_readFrom_75 : decode cX5_readFrom 75 = .ok (.aaload, 1) := by decide +kernel
theorem dX5_readFrom_76 : decode cX5_readFrom 76 = .ok (.aload_n 1, 1) := by decide +kernel
theorem dX5_readFrom_77 : decode cX5_readFrom 77 = .ok (.getfield 44, 3) := by decide +kernel
theorem dX5_readFrom_80 : decode cX5_readFrom 80 = .ok (.iload 5, 2) := by decide +kernel
theorem dX5_readFrom_82 : decode cX5_readFrom 82 = .ok (.iconst 1, 1) := by decide +kernel
theorem dX5_readFrom_83 : decode cX5_readFrom 83 = .ok (.iadd, 1) := by decide +kernel
theorem dX5_readFrom_84 : decode cX5_readFrom 84 = .ok (.iaload, 1) := by decide +kernel
theorem dX5_readFrom_85 : decode cX5_readFrom 85 = .ok (.invokestatic 49, 3) := by decide +kernel
theorem dX5_readFrom_88 : decode cX5_readFrom 88 = .ok (.putfield 53, 3) := by decide +kernel
theorem dX5_readFrom_91 : decode cX5_readFrom 91 = .ok (.aload_n 0, 1) := by decide +kernel
theorem dX5_readFrom_92 : decode cX5_readFrom 92 = .ok (.getfield 11, 3) := by decide +kernel
theorem dX5_readFrom_95 : decode cX5_readFrom 95 = .ok (.iload 4, 2) := by decide +kernel
theorem dX5_readFrom_97 : decode cX5_readFrom 97 = .ok (.aaload, 1) := by decide +kernel
theorem dX5_readFrom_98 : decode cX5_readFrom 98 = .ok (.aload_n 1, 1) := by decide +kernel
theorem dX5_readFrom_99 : decode cX5_readFrom 99 = .ok (.iload 5, 2) := by decide +kernel
theorem dX5_readFrom_101 : decode cX5_readFrom 101 = .ok (.iconst 2, 1) := by decide +kernel
theorem dX5_readFrom_102 : decode cX5_readFrom 102 = .ok (.iadd, 1) := by decide +kernel
theorem dX5_readFrom_103 : decode cX5_readFrom 103 = .ok (.invokestatic 22, 3) := by decide +kernel
theorem dX5_readFrom_106 : decode cX5_readFrom 106 = .ok (.putfield 56, 3) := by decide +kernel
theorem dX5_readFrom_109 : decode cX5_readFrom 109 = .ok (.aload_n 0, 1) := by decide +kernel
theorem dX5_readFrom_110 : decode cX5_readFrom 110 = .ok (.getfield 11, 3) := by decide +kernel
theorem dX5_readFrom_113 : decode cX5_readFrom 113 = .ok (.iload 4, 2) := by decide +kernel
theorem dX5_readFrom_115 : decode cX5_readFrom 115 = .ok (.aaload, 1) := by decide +kernel
theorem dX5_readFrom_116 : decode cX5_readFrom 116 = .ok (.aload_n 1, 1) := by decide +kernel
theorem dX5_readFrom_117 : decode cX5_readFrom 117 = .ok (.iload 5, 2) := by decide +kernel
theorem dX5_readFrom_119 : decode cX5_readFrom 119 = .ok (.iconst 3, 1) := by decide +kernel
theorem dX5_readFrom_120 : decode cX5_readFrom 120 = .ok (.iadd, 1) := by decide +kernel
theorem dX5_readFrom_121 : decode cX5_readFrom 121 = .ok (.invokestatic 22, 3) := by decide +kernel
theorem dX5_readFrom_124 : decode cX5_readFrom 124 = .ok (.putfield 59, 3) := by decide +kernel
theorem dX5_readFrom_127 : decode cX5_readFrom 127 = .ok (.aload_n 0, 1) := by decide +kernel
theorem dX5_readFrom_128 : decode cX5_readFrom 128 = .ok (.getfield 11, 3) := by decide +kernel
theorem dX5_readFrom_131 : decode cX5_readFrom 131 = .ok (.iload 4, 2) := by decide +kernel
theorem dX5_readFrom_133 : decode cX5_readFrom 133 = .ok (.aaload, 1) := by decide +kernel
theorem dX5_readFrom_134 : decode cX5_readFrom 134 = .ok (.aload_n 1, 1) := by decide +kernel
theorem dX5_readFrom_135 : decode cX5_readFrom 135 = .ok (.iload 5, 2) := by decide +kernel
theorem dX5_readFrom_137 : decode cX5_readFrom 137 = .ok (.iconst 4, 1) := by decide +kernel
theorem dX5_readFrom_138 : decode cX5_readFrom 138 = .ok (.iadd, 1) := by decide +kernel
theorem dX5_readFrom_139 : decode cX5_readFrom 139 = .ok (.invokestatic 22, 3) := by decide +kernel
theorem dX5_readFrom_142 : decode cX5_readFrom 142 = .ok (.putfield 62, 3) := by decide +kernel
theorem dX5_readFrom_145 : decode cX5_readFrom 145 = .ok (.iinc 4 1, 3) := by decide +kernel
theorem dX5_readFrom_148 : decode cX5_readFrom 148 = .ok (.goto (-98), 3) := by decide +kernel
theorem dX5_readFrom_151 : decode cX5_readFrom 151 = .ok (.aload_n 0, 1) := by decide +kernel
theorem dX5_readFrom_152 : decode cX5_readFrom 152 = .ok (.iconst 0, 1) := by decide +kernel
theorem dX5_readFrom_153 : decode cX5_readFrom 153 = .ok (.putfield 65, 3) := by decide +kernel
theorem dX5_readFrom_156 : decode cX5_readFrom 156 = .ok (.aload_n 0, 1) := by decide +kernel
theorem dX5_readFrom_157 : decode cX5_readFrom 157 = .ok (.iconst 0, 1) := by decide +kernel
theorem dX5_readFrom_158 : decode cX5_readFrom 158 = .ok (.putfield 68, 3) := by decide +kernel
theorem dX5_readFrom_161 : decode cX5_readFrom 161 = .ok (.aload_n 0, 1) := by decide +kernel
theorem dX5_readFrom_162 : decode cX5_readFrom 162 = .ok (.iconst 0, 1) := by decide +kernel
theorem dX5_readFrom_163 : decode cX5_readFrom 163 = .ok (.putfield 71, 3) := by decide +kernel
theorem dX5_readFrom_166 : decode cX5_readFrom 166 = .ok (.aload_n 0, 1) := by decide +kernel
theorem dX5_readFrom_167 : decode cX5_readFrom 167 = .ok (.iconst 0, 1) := by decide +kernel
theorem dX5_readFrom_168 : decode cX5_readFrom 168 = .ok (.putfield 74, 3) := by decide +kernel
theorem dX5_readFrom_171 : decode cX5_readFrom 171 = .ok (.iconst 0, 1) := by decide +kernel
theorem dX5_readFrom_172 : decode cX5_readFrom 172 = .ok (.istore 4, 2) := by decide +kernel
theorem dX5_readFrom_174 : decode cX5_readFrom 174 = .ok (.iload 4, 2) := by decide +kernel
theorem dX5_readFrom_176 : decode cX5_readFrom 176 = .ok (.bipush 10, 2) := by decide +kernel
theorem dX5_readFrom_178 : decode cX5_readFrom 178 = .ok (.if_icmp .ge 17, 3) := by decide +kernel
theorem dX5_readFrom_181 : decode cX5_readFrom 181 = .ok (.aload_n 0, 1) := by decide +kernel
theorem dX5_readFrom_182 : decode cX5_readFrom 182 = .ok (.getfield 17, 3) := by decide +kernel
theorem dX5_readFrom_185 : decode cX5_readFrom 185 = .ok (.iload 4, 2) := by decide +kernel
theorem dX5_readFrom_187 : decode cX5_readFrom 187 = .ok (.iconst 0, 1) := by decide +kernel
theorem dX5_readFrom_188 : decode cX5_readFrom 188 = .ok (.iastore, 1) := by decide +kernel
theorem dX5_readFrom_189 : decode cX5_readFrom 189 = .ok (.iinc 4 1, 3) := by decide +kernel
theorem dX5_readFrom_192 : decode cX5_readFrom 192 = .ok (.goto (-18), 3) := by decide +kernel
theorem dX5_readFrom_195 : decode cX5_readFrom 195 = .ok (.return_, 1) := by decide +kernel
theorem dX5_givesAt_0 : decode cX5_givesAt 0 = .ok (.iload_n 2, 1) := by decide +kernel
theorem dX5_givesAt_1 : decode cX5_givesAt 1 = .ok (.aload_n 0, 1) := by decide +kernel
theorem dX5_givesAt_2 : decode cX5_givesAt 2 = .ok (.getfield 11, 3) := by decide +kernel
theorem dX5_givesAt_5 : decode cX5_givesAt 5 = .ok (.iload_n 1, 1) := by decide +kernel
theorem dX5_givesAt_6 : decode cX5_givesAt 6 = .ok (.aaload, 1) := by decide +kernel
theorem dX5_givesAt_7 : decode cX5_givesAt 7 = .ok (.getfield 56, 3) := by decide +kernel
theorem dX5_givesAt_10 : decode cX5_givesAt 10 = .ok (.aload_n 0, 1) := by decide +kernel
theorem dX5_givesAt_11 : decode cX5_givesAt 11 = .ok (.getfield 32, 3) := by decide +kernel
theorem dX5_givesAt_14 : decode cX5_givesAt 14 = .ok (.imul, 1) := by decide +kernel
theorem dX5_givesAt_15 : decode cX5_givesAt 15 = .ok (.isub, 1) := by decide +kernel
theorem dX5_givesAt_16 : decode cX5_givesAt 16 = .ok (.istore_n 3, 1) := by decide +kernel
theorem dX5_givesAt_17 : decode cX5_givesAt 17 = .ok (.iload_n 3, 1) := by decide +kernel
theorem dX5_givesAt_18 : decode cX5_givesAt 18 = .ok (.ifCond .le 7, 3) := by decide +kernel
theorem dX5_givesAt_21 : decode cX5_givesAt 21 = .ok (.iload_n 3, 1) := by decide +kernel
theorem dX5_givesAt_22 : decode cX5_givesAt 22 = .ok (.goto 4, 3) := by decide +kernel
theorem dX5_givesAt_25 : decode cX5_givesAt 25 = .ok (.iconst 0, 1) := by decide +kernel
theorem dX5_givesAt_26 : decode cX5_givesAt 26 = .ok (.ireturn, 1) := by decide +kernel
theorem dX5_leaksOut_0 : decode cX5_leaksOut 0 = .ok (.aload_n 0, 1) := by decide +kernel
theorem dX5_leaksOut_1 : decode cX5_leaksOut 1 = .ok (.getfield 74, 3) := by decide +kernel
theorem dX5_leaksOut_4 : decode cX5_leaksOut 4 = .ok (.iconst 0, 1) := by decide +kernel
theorem dX5_leaksOut_5 : decode cX5_leaksOut 5 = .ok (.iload_n 1, 1) := by decide +kernel
theorem dX5_leaksOut_6 : decode cX5_leaksOut 6 = .ok (.aload_n 0, 1) := by decide +kernel
theorem dX5_leaksOut_7 : decode cX5_leaksOut 7 = .ok (.getfield 71, 3) := by decide +kernel
theorem dX5_leaksOut_10 : decode cX5_leaksOut 10 = .ok (.aload_n 0, 1) := by decide +kernel
theorem dX5_leaksOut_11 : decode cX5_leaksOut 11 = .ok (.getfield 32, 3) := by decide +kernel
theorem dX5_leaksOut_14 : decode cX5_leaksOut 14 = .ok (.imul, 1) := by decide +kernel
theorem dX5_leaksOut_15 : decode cX5_leaksOut 15 = .ok (.isub, 1) := by decide +kernel
theorem dX5_leaksOut_16 : decode cX5_leaksOut 16 = .ok (.invokestatic 77, 3) := by decide +kernel
theorem dX5_leaksOut_19 : decode cX5_leaksOut 19 = .ok (.invokestatic 35, 3) := by decide +kernel
theorem dX5_leaksOut_22 : decode cX5_leaksOut 22 = .ok (.ireturn, 1) := by decide +kernel
theorem dX5_beneathAllTaps_0 : decode cX5_beneathAllTaps 0 = .ok (.iconst 0, 1) := by decide +kernel
theorem dX5_beneathAllTaps_1 : decode cX5_beneathAllTaps 1 = .ok (.istore_n 2, 1) := by decide +kernel
theorem dX5_beneathAllTaps_2 : decode cX5_beneathAllTaps 2 = .ok (.iconst 0, 1) := by decide +kernel
theorem dX5_beneathAllTaps_3 : decode cX5_beneathAllTaps 3 = .ok (.istore_n 3, 1) := by decide +kernel
theorem dX5_beneathAllTaps_4 : decode cX5_beneathAllTaps 4 = .ok (.iload_n 3, 1) := by decide +kernel
theorem dX5_beneathAllTaps_5 : decode cX5_beneathAllTaps 5 = .ok (.aload_n 0, 1) := by decide +kernel
theorem dX5_beneathAllTaps_6 : decode cX5_beneathAllTaps 6 = .ok (.getfield 41, 3) := by decide +kernel
theorem dX5_beneathAllTaps_9 : decode cX5_beneathAllTaps 9 = .ok (.if_icmp .ge 20, 3) := by decide +kernel
theorem dX5_beneathAllTaps_12 : decode cX5_beneathAllTaps 12 = .ok (.iload_n 2, 1) := by decide +kernel
theorem dX5_beneathAllTaps_13 : decode cX5_beneathAllTaps 13 = .ok (.aload_n 0, 1) := by decide +kernel
theorem dX5_beneathAllTaps_14 : decode cX5_beneathAllTaps 14 = .ok (.iload_n 3, 1) := by decide +kernel
theorem dX5_beneathAllTaps_15 : decode cX5_beneathAllTaps 15 = .ok (.iload_n 1, 1) := by decide +kernel
theorem dX5_beneathAllTaps_16 : decode cX5_beneathAllTaps 16 = .ok (.invokevirtual 80, 3) := by decide +kernel
theorem dX5_beneathAllTaps_19 : decode cX5_beneathAllTaps 19 = .ok (.invokestatic 77, 3) := by decide +kernel
theorem dX5_beneathAllTaps_22 : decode cX5_beneathAllTaps 22 = .ok (.istore_n 2, 1) := by decide +kernel
theorem dX5_beneathAllTaps_23 : decode cX5_beneathAllTaps 23 = .ok (.iinc 3 1, 3) := by decide +kernel
theorem dX5_beneathAllTaps_26 : decode cX5_beneathAllTaps 26 = .ok (.goto (-22), 3) := by decide +kernel
theorem dX5_beneathAllTaps_29 : decode cX5_beneathAllTaps 29 = .ok (.iload_n 1, 1) := by decide +kernel
theorem dX5_beneathAllTaps_30 : decode cX5_beneathAllTaps 30 = .ok (.iload_n 2, 1) := by decide +kernel
theorem dX5_beneathAllTaps_31 : decode cX5_beneathAllTaps 31 = .ok (.isub, 1) := by decide +kernel
theorem dX5_beneathAllTaps_32 : decode cX5_beneathAllTaps 32 = .ok (.ireturn, 1) := by decide +kernel
theorem dX6_init_0 : decode cX6_init 0 = .ok (.aload_n 0, 1) := by decide +kernel
theorem dX6_init_1 : decode cX6_init 1 = .ok (.invokespecial 3, 3) := by decide +kernel
theorem dX6_init_4 : decode cX6_init 4 = .ok (.aload_n 0, 1) := by decide +kernel
theorem dX6_init_5 : decode cX6_init 5 = .ok (.new 9, 3) := by decide +kernel
theorem dX6_init_8 : decode cX6_init 8 = .ok (.dup, 1) := by decide +kernel
theorem dX6_init_9 : decode cX6_init 9 = .ok (.invokespecial 11, 3) := by decide +kernel
theorem dX6_init_12 : decode cX6_init 12 = .ok (.putfield 12, 3) := by decide +kernel
theorem dX6_init_15 : decode cX6_init 15 = .ok (.aload_n 0, 1) := by decide +kernel
theorem dX6_init_16 : decode cX6_init 16 = .ok (.new 18, 3) := by decide +kernel
theorem dX6_init_19 : decode cX6_init 19 = .ok (.dup, 1) := by decide +kernel
theorem dX6_init_20 : decode cX6_init 20 = .ok (.aload_n 0, 1) := by decide +kernel
theorem dX6_init_21 : decode cX6_init 21 = .ok (.getfield 12, 3) := by decide +kernel
theorem dX6_init_24 : decode cX6_init 24 = .ok (.invokespecial 20, 3) := by decide +kernel
theorem dX6_init_27 : decode cX6_init 27 = .ok (.putfield 23, 3) := by decide +kernel
theorem dX6_init_30 : decode cX6_init 30 = .ok (.aload_n 0, 1) := by decide +kernel
theorem dX6_init_31 : decode cX6_init 31 = .ok (.new 27, 3) := by decide +kernel
theorem dX6_init_34 : decode cX6_init 34 = .ok (.dup, 1) := by decide +kernel
theorem dX6_init_35 : decode cX6_init 35 = .ok (.invokespecial 29, 3) := by decide +kernel
theorem dX6_init_38 : decode cX6_init 38 = .ok (.putfield 30, 3) := by decide +kernel
theorem dX6_init_41 : decode cX6_init 41 = .ok (.aload_n 0, 1) := by decide +kernel
theorem dX6_init_42 : decode cX6_init 42 = .ok (.iconst 4, 1) := by decide +kernel
theorem dX6_init_43 : decode cX6_init 43 = .ok (.anewarray 34, 3) := by decide +kernel
theorem dX6_init_46 : decode cX6_init 46 = .ok (.putfield 36, 3) := by decide +kernel
theorem dX6_init_49 : decode cX6_init 49 = .ok (.iconst 0, 1) := by decide +kernel
theorem dX6_init_50 : decode cX6_init 50 = .ok (.istore_n 1, 1) := by decide +kernel
theorem dX6_init_51 : decode cX6_init 51 = .ok (.iload_n 1, 1) := by decide +kernel
theorem dX6_init_52 : decode cX6_init 52 = .ok (.iconst 4, 1) := by decide +kernel
theorem dX6_init_53 : decode cX6_init 53 = .ok (.if_icmp .ge 22, 3) := by decide +kernel
theorem dX6_init_56 : decode cX6_init 56 = .ok (.aload_n 0, 1) := by decide +kernel
theorem dX6_init_57 : decode cX6_init 57 = .ok (.getfield 36, 3) := by decide +kernel
theorem dX6_init_60 : decode cX6_init 60 = .ok (.iload_n 1, 1) := by decide +kernel
theorem dX6_init_61 : decode cX6_init 61 = .ok (.new 34, 3) := by decide +kernel
theorem dX6_init_64 : decode cX6_init 64 = .ok (.dup, 1) := by decide +kernel
theorem dX6_init_65 : decode cX6_init 65 = .ok (.invokespecial 40, 3) := by decide +kernel
theorem dX6_init_68 : decode cX6_init 68 = .ok (.aastore, 1) := by decide +kernel
theorem dX6_init_69 : decode cX6_init 69 = .ok (.iinc 1 1, 3) := by decide +kernel
theorem dX6_init_72 : decode cX6_init 72 = .ok (.goto (-21), 3) := by decide +kernel
theorem dX6_init_75 : decode cX6_init 75 = .ok (.return_, 1) := by decide +kernel
theorem dX6_yard_0 : decode cX6_yard 0 = .ok (.aload_n 0, 1) := by decide +kernel
theorem dX6_yard_1 : decode cX6_yard 1 = .ok (.iconst 0, 1) := by decide +kernel
theorem dX6_yard_2 : decode cX6_yard 2 = .ok (.putfield 41, 3) := by decide +kernel
theorem dX6_yard_5 : decode cX6_yard 5 = .ok (.iload_n 1, 1) := by decide +kernel
theorem dX6_yard_6 : decode cX6_yard 6 = .ok (.invokestatic 45, 3) := by decide +kernel
theorem dX6_yard_9 : decode cX6_yard 9 = .ok (.ifCond .eq 5, 3) := by decide +kernel
theorem dX6_yard_12 : decode cX6_yard 12 = .ok (.iconst (-1), 1) := by decide +kernel
theorem dX6_yard_13 : decode cX6_yard 13 = .ok (.ireturn, 1) := by decide +kernel
theorem dX6_yard_14 : decode cX6_yard 14 = .ok (.iload_n 2, 1) := by decide +kernel
theorem dX6_yard_15 : decode cX6_yard 15 = .ok (.invokestatic 49, 3) := by decide +kernel
theorem dX6_yard_18 : decode cX6_yard 18 = .ok (.ifCond .eq 6, 3) := by decide +kernel
theorem dX6_yard_21 : decode cX6_yard 21 = .ok (.bipush (-2), 2) := by decide +kernel
theorem dX6_yard_23 : decode cX6_yard 23 = .ok (.ireturn, 1) := by decide +kernel
theorem dX6_yard_24 : decode cX6_yard 24 = .ok (.aload_n 0, 1) := by decide +kernel
theorem dX6_yard_25 : decode cX6_yard 25 = .ok (.getfield 36, 3) := by decide +kernel
theorem dX6_yard_28 : decode cX6_yard 28 = .ok (.iload_n 1, 1) := by decide +kernel
theorem dX6_yard_29 : decode cX6_yard 29 = .ok (.aaload, 1) := by decide +kernel
theorem dX6_yard_30 : decode cX6_yard 30 = .ok (.astore 5, 2) := by decide +kernel
theorem dX6_yard_32 : decode cX6_yard 32 = .ok (.aload 5, 2) := by decide +kernel
theorem dX6_yard_34 : decode cX6_yard 34 = .ok (.iload_n 2, 1) := by decide +kernel
theorem dX6_yard_35 : decode cX6_yard 35 = .ok (.invokevirtual 52, 3) := by decide +kernel
theorem dX6_yard_38 : decode cX6_yard 38 = .ok (.istore 6, 2) := by decide +kernel
theorem dX6_yard_40 : decode cX6_yard 40 = .ok (.iload 6, 2) := by decide +kernel
theorem dX6_yard_42 : decode cX6_yard 42 = .ok (.ifCond .ne 11, 3) := by decide +kernel
theorem dX6_yard_45 : decode cX6_yard 45 = .ok (.iload 4, 2) := by decide +kernel
theorem dX6_yard_47 : decode cX6_yard 47 = .ok (.ifCond .ge 6, 3) := by decide +kernel
theorem dX6_yard_50 : decode cX6_yard 50 = .ok (.iconst 4, 1) := by decide +kernel
theorem dX6_yard_51 : decode cX6_yard 51 = .ok (.istore 6, 2) := by decide +kernel
theorem dX6_yard_53 : decode cX6_yard 53 = .ok (.iload 6, 2) := by decide +kernel
theorem dX6_yard_55 : decode cX6_yard 55 = .ok (.ifCond .ne 17, 3) := by decide +kernel
theorem dX6_yard_58 : decode cX6_yard 58 = .ok (.aload 5, 2) := by decide +kernel
theorem dX6_yard_60 : decode cX6_yard 60 = .ok (.iload_n 3, 1) := by decide +kernel
theorem dX6_yard_61 : decode cX6_yard 61 = .ok (.iload 4, 2) := by decide +kernel
theorem dX6_yard_63 : decode cX6_yard 63 = .ok (.invokevirtual 56, 3) := by decide +kernel
theorem dX6_yard_66 : decode cX6_yard 66 = .ok (.ifCond .ne 6, 3) := by decide +kernel
theorem dX6_yard_69 : decode cX6_yard 69 = .ok (.iconst 3, 1) := by decide +kernel
theorem dX6_yard_70 : decode cX6_yard 70 = .ok (.istore 6, 2) := by decide +kernel
theorem dX6_yard_72 : decode cX6_yard 72 = .ok (.iload 6, 2) := by decide +kernel
theorem dX6_yard_74 : decode cX6_yard 74 = .ok (.ifCond .eq 10, 3) := by decide +kernel
theorem dX6_yard_77 : decode cX6_yard 77 = .ok (.aload_n 0, 1) := by decide +kernel
theorem dX6_yard_78 : decode cX6_yard 78 = .ok (.iload 6, 2) := by decide +kernel
theorem dX6_yard_80 : decode cX6_yard 80 = .ok (.invokevirtual 60, 3) := by decide +kernel
theorem dX6_yard_83 : decode cX6_yard 83 = .ok (.ireturn, 1) := by decide +kernel
theorem dX6_yard_84 : decode cX6_yard 84 = .ok (.aload 5, 2) := by decide +kernel
theorem dX6_yard_86 : decode cX6_yard 86 = .ok (.iload_n 3, 1) := by decide +kernel
theorem dX6_yard_87 : decode cX6_yard 87 = .ok (.iload 4, 2) := by decide +kernel
theorem dX6_yard_89 : decode cX6_yard 89 = .ok (.invokestatic 63, 3) := by decide +kernel
theorem dX6_yard_92 : decode cX6_yard 92 = .ok (.istore 7, 2) := by decide +kernel
theorem dX6_yard_94 : decode cX6_yard 94 = .ok (.iload 7, 2) := by decide +kernel
theorem dX6_yard_96 : decode cX6_yard 96 = .ok (.ifCond .lt 9, 3) := by decide +kernel
theorem dX6_yard_99 : decode cX6_yard 99 = .ok (.bipush (-100), 2) := by decide +kernel
theorem dX6_yard_101 : decode cX6_yard 101 = .ok (.iload 7, 2) := by decide +kernel
theorem dX6_yard_103 : decode cX6_yard 103 = .ok (.isub, 1) := by decide +kernel
theorem dX6_yard_104 : decode cX6_yard 104 = .ok (.ireturn, 1) := by decide +kernel
theorem dX6_yard_105 : decode cX6_yard 105 = .ok (.aload_n 0, 1) := by decide +kernel
theorem dX6_yard_106 : decode cX6_yard 106 = .ok (.getfield 12, 3) := by decide +kernel
theorem dX6_yard_109 : decode cX6_yard 109 = .ok (.aload 5, 2) := by decide +kernel
theorem dX6_yard_111 : decode cX6_yard 111 = .ok (.iload_n 3, 1) := by decide +kernel
theorem dX6_yard_112 : decode cX6_yard 112 = .ok (.iload 4, 2) := by decide +kernel
theorem dX6_yard_114 : decode cX6_yard 114 = .ok (.invokevirtual 69, 3) := by decide +kernel
theorem dX6_yard_117 : decode cX6_yard 117 = .ok (.aload_n 0, 1) := by decide +kernel
theorem dX6_yard_118 : decode cX6_yard 118 = .ok (.getfield 30, 3) := by decide +kernel
theorem dX6_yard_121 : decode cX6_yard 121 = .ok (.iconst 0, 1) := by decide +kernel
theorem dX6_yard_122 : decode cX6_yard 122 = .ok (.putfield 73, 3) := by decide +kernel
theorem dX6_yard_125 : decode cX6_yard 125 = .ok (.aload_n 0, 1) := by decide +kernel
theorem dX6_yard_126 : decode cX6_yard 126 = .ok (.getfield 12, 3) := by decide +kernel
theorem dX6_yard_129 : decode cX6_yard 129 = .ok (.getfield 76, 3) := by decide +kernel
theorem dX6_yard_132 : decode cX6_yard 132 = .ok (.ireturn, 1) := by decide +kernel
theorem dX6_ofTap_0 : decode cX6_ofTap 0 = .ok (.aload_n 0, 1) := by decide +kernel
theorem dX6_ofTap_1 : decode cX6_ofTap 1 = .ok (.iload_n 1, 1) := by decide +kernel
theorem dX6_ofTap_2 : decode cX6_ofTap 2 = .ok (.invokevirtual 79, 3) := by decide +kernel
theorem dX6_ofTap_5 : decode cX6_ofTap 5 = .ok (.ifCond .eq 5, 3) := by decide +kernel
theorem dX6_ofTap_8 : decode cX6_ofTap 8 = .ok (.iconst (-1), 1) := by decide +kernel
theorem dX6_ofTap_9 : decode cX6_ofTap 9 = .ok (.ireturn, 1) := by decide +kernel
theorem dX6_ofTap_10 : decode cX6_ofTap 10 = .ok (.aload_n 0, 1) := by decide +kernel
theorem dX6_ofTap_11 : decode cX6_ofTap 11 = .ok (.getfield 12, 3) := by decide +kernel
theorem dX6_ofTap_14 : decode cX6_ofTap 14 = .ok (.getfield 82, 3) := by decide +kernel
theorem dX6_ofTap_17 : decode cX6_ofTap 17 = .ok (.iload_n 1, 1) := by decide +kernel
theorem dX6_ofTap_18 : decode cX6_ofTap 18 = .ok (.aaload, 1) := by decide +kernel
theorem dX6_ofTap_19 : decode cX6_ofTap 19 = .ok (.astore_n 3, 1) := by decide +kernel
theorem dX6_ofTap_20 : decode cX6_ofTap 20 = .ok (.iload_n 2, 1) := by decide +kernel
theorem dX6_ofTap_21 : decode cX6_ofTap 21 = .ok (.tableswitch 60 0 4 #[35, 40, 45, 50, 55], 35) := by decide +kernel
theorem dX6_ofTap_56 : decode cX6_ofTap 56 = .ok (.aload_n 3, 1) := by decide +kernel
theorem dX6_ofTap_57 : decode cX6_ofTap 57 = .ok (.getfield 86, 3) := by decide +kernel
theorem dX6_ofTap_60 : decode cX6_ofTap 60 = .ok (.ireturn, 1) := by decide +kernel
theorem dX6_ofTap_61 : decode cX6_ofTap 61 = .ok (.aload_n 3, 1) := by decide +kernel
theorem dX6_ofTap_62 : decode cX6_ofTap 62 = .ok (.getfield 91, 3) := by decide +kernel
theorem dX6_ofTap_65 : decode cX6_ofTap 65 = .ok (.ireturn, 1) := by decide +kernel
theorem dX6_ofTap_66 : decode cX6_ofTap 66 = .ok (.aload_n 3, 1) := by decide +kernel
theorem dX6_ofTap_67 : decode cX6_ofTap 67 = .ok (.getfield 94, 3) := by decide +kernel
theorem dX6_ofTap_70 : decode cX6_ofTap 70 = .ok (.ireturn, 1) := by decide +kernel
theorem dX6_ofTap_71 : decode cX6_ofTap 71 = .ok (.aload_n 3, 1) := by decide +kernel
theorem dX6_ofTap_72 : decode cX6_ofTap 72 = .ok (.getfield 97, 3) := by decide +kernel
theorem dX6_ofTap_75 : decode cX6_ofTap 75 = .ok (.ireturn, 1) := by decide +kernel
theorem dX6_ofTap_76 : decode cX6_ofTap 76 = .ok (.aload_n 3, 1) := by decide +kernel
theorem dX6_ofTap_77 : decode cX6_ofTap 77 = .ok (.invokevirtual 100, 3) := by decide +kernel
theorem dX6_ofTap_80 : decode cX6_ofTap 80 = .ok (.ireturn, 1) := by decide +kernel
theorem dX6_ofTap_81 : decode cX6_ofTap 81 = .ok (.bipush (-2), 2) := by decide +kernel
theorem dX6_ofTap_83 : decode cX6_ofTap 83 = .ok (.ireturn, 1) := by decide +kernel
theorem dX6_bore_0 : decode cX6_bore 0 = .ok (.aload_n 0, 1) := by decide +kernel
theorem dX6_bore_1 : decode cX6_bore 1 = .ok (.iload_n 1, 1) := by decide +kernel
theorem dX6_bore_2 : decode cX6_bore 2 = .ok (.invokevirtual 79, 3) := by decide +kernel
theorem dX6_bore_5 : decode cX6_bore 5 = .ok (.ifCond .eq 5, 3) := by decide +kernel
theorem dX6_bore_8 : decode cX6_bore 8 = .ok (.iconst (-1), 1) := by decide +kernel
theorem dX6_bore_9 : decode cX6_bore 9 = .ok (.ireturn, 1) := by decide +kernel
theorem dX6_bore_10 : decode cX6_bore 10 = .ok (.iconst 0, 1) := by decide +kernel
theorem dX6_bore_11 : decode cX6_bore 11 = .ok (.iload_n 2, 1) := by decide +kernel
theorem dX6_bore_12 : decode cX6_bore 12 = .ok (.bipush 9, 2) := by decide +kernel
theorem dX6_bore_14 : decode cX6_bore 14 = .ok (.invokestatic 104, 3) := by decide +kernel
theorem dX6_bore_17 : decode cX6_bore 17 = .ok (.ifCond .eq 6, 3) := by decide +kernel
theorem dX6_bore_20 : decode cX6_bore 20 = .ok (.bipush (-2), 2) := by decide +kernel
theorem dX6_bore_22 : decode cX6_bore 22 = .ok (.ireturn, 1) := by decide +kernel
theorem dX6_bore_23 : decode cX6_bore 23 = .ok (.aload_n 0, 1) := by decide +kernel
theorem dX6_bore_24 : decode cX6_bore 24 = .ok (.getfield 12, 3) := by decide +kernel
theorem dX6_bore_27 : decode cX6_bore 27 = .ok (.getfield 82, 3) := by decide +kernel
theorem dX6_bore_30 : decode cX6_bore 30 = .ok (.iload_n 1, 1) := by decide +kernel
theorem dX6_bore_31 : decode cX6_bore 31 = .ok (.aaload, 1) := by decide +kernel
theorem dX6_bore_32 : decode cX6_bore 32 = .ok (.getfield 91, 3) := by decide +kernel
theorem dX6_bore_35 : decode cX6_bore 35 = .ok (.istore_n 3, 1) := by decide +kernel
theorem dX6_bore_36 : decode cX6_bore 36 = .ok (.aload_n 0, 1) := by decide +kernel
theorem dX6_bore_37 : decode cX6_bore 37 = .ok (.getfield 12, 3) := by decide +kernel
theorem dX6_bore_40 : decode cX6_bore 40 = .ok (.getfield 82, 3) := by decide +kernel
theorem dX6_bore_43 : decode cX6_bore 43 = .ok (.iload_n 1, 1) := by decide +kernel
theorem dX6_bore_44 : decode cX6_bore 44 = .ok (.aaload, 1) := by decide +kernel
theorem dX6_bore_45 : decode cX6_bore 45 = .ok (.iload_n 2, 1) := by decide +kernel
theorem dX6_bore_46 : decode cX6_bore 46 = .ok (.putfield 91, 3) := by decide +kernel
theorem dX6_bore_49 : decode cX6_bore 49 = .ok (.iload_n 3, 1) := by decide +kernel
theorem dX6_bore_50 : decode cX6_bore 50 = .ok (.ireturn, 1) := by decide +kernel
theorem dX6_begin_0 : decode cX6_begin 0 = .ok (.aload_n 0, 1) := by decide +kernel
theorem dX6_begin_1 : decode cX6_begin 1 = .ok (.invokevirtual 108, 3) := by decide +kernel
theorem dX6_begin_4 : decode cX6_begin 4 = .ok (.ifCond .eq 6, 3) := by decide +kernel
theorem dX6_begin_7 : decode cX6_begin 7 = .ok (.bipush (-3), 2) := by decide +kernel
theorem dX6_begin_9 : decode cX6_begin 9 = .ok (.ireturn, 1) := by decide +kernel
theorem dX6_begin_10 : decode cX6_begin 10 = .ok (.iconst 0, 1) := by decide +kernel
theorem dX6_begin_11 : decode cX6_begin 11 = .ok (.iload_n 1, 1) := by decide +kernel
theorem dX6_begin_12 : decode cX6_begin 12 = .ok (.aload_n 0, 1) := by decide +kernel
theorem dX6_begin_13 : decode cX6_begin 13 = .ok (.getfield 12, 3) := by decide +kernel
theorem dX6_begin_16 : decode cX6_begin 16 = .ok (.getfield 112, 3) := by decide +kernel
theorem dX6_begin_19 : decode cX6_begin 19 = .ok (.invokestatic 104, 3) := by decide +kernel
theorem dX6_begin_22 : decode cX6_begin 22 = .ok (.ifCond .eq 6, 3) := by decide +kernel
theorem dX6_begin_25 : decode cX6_begin 25 = .ok (.bipush (-2), 2) := by decide +kernel
theorem dX6_begin_27 : decode cX6_begin 27 = .ok (.ireturn, 1) := by decide +kernel
theorem dX6_begin_28 : decode cX6_begin 28 = .ok (.aload_n 0, 1) := by decide +kernel
theorem dX6_begin_29 : decode cX6_begin 29 = .ok (.getfield 12, 3) := by decide +kernel
theorem dX6_begin_32 : decode cX6_begin 32 = .ok (.getfield 115, 3) := by decide +kernel
theorem dX6_begin_35 : decode cX6_begin 35 = .ok (.istore_n 2, 1) := by decide +kernel
theorem dX6_begin_36 : decode cX6_begin 36 = .ok (.aload_n 0, 1) := by decide +kernel
theorem dX6_begin_37 : decode cX6_begin 37 = .ok (.getfield 12, 3) := by decide +kernel
theorem dX6_begin_40 : decode cX6_begin 40 = .ok (.iload_n 1, 1) := by decide +kernel
theorem dX6_begin_41 : decode cX6_begin 41 = .ok (.putfield 115, 3) := by decide +kernel
theorem dX6_begin_44 : decode cX6_begin 44 = .ok (.iload_n 2, 1) := by decide +kernel
theorem dX6_begin_45 : decode cX6_begin 45 = .ok (.ireturn, 1) := by decide +kernel
theorem dX6_rain_0 : decode cX6_rain 0 = .ok (.iload_n 1, 1) := by decide +kernel
theorem dX6_rain_1 : decode cX6_rain 1 = .ok (.invokestatic 118, 3) := by decide +kernel
theorem dX6_rain_4 : decode cX6_rain 4 = .ok (.ifCond .eq 5, 3) := by decide +kernel
theorem dX6_rain_7 : decode cX6_rain 7 = .ok (.iconst (-1), 1) := by decide +kernel
theorem dX6_rain_8 : decode cX6_rain 8 = .ok (.ireturn, 1) := by decide +kernel
theorem dX6_rain_9 : decode cX6_rain 9 = .ok (.iconst 0, 1) := by decide +kernel
theorem dX6_rain_10 : decode cX6_rain 10 = .ok (.iload_n 2, 1) := by decide +kernel
theorem dX6_rain_11 : decode cX6_rain 11 = .ok (.bipush 99, 2) := by decide +kernel
theorem dX6_rain_13 : decode cX6_rain 13 = .ok (.invokestatic 104, 3) := by decide +kernel
theorem dX6_rain_16 : decode cX6_rain 16 = .ok (.ifCond .eq 6, 3) := by decide +kernel
theorem dX6_rain_19 : decode cX6_rain 19 = .ok (.bipush (-2), 2) := by decide +kernel
theorem dX6_rain_21 : decode cX6_rain 21 = .ok (.ireturn, 1) := by decide +kernel
theorem dX6_rain_22 : decode cX6_rain 22 = .ok (.aload_n 0, 1) := by decide +kernel
theorem dX6_rain_23 : decode cX6_rain 23 = .ok (.invokevirtual 108, 3) := by decide +kernel
theorem dX6_rain_26 : decode cX6_rain 26 = .ok (.ifCond .eq 6, 3) := by decide +kernel
theorem dX6_rain_29 : decode cX6_rain 29 = .ok (.bipush (-3), 2) := by decide +kernel
theorem dX6_rain_31 : decode cX6_rain 31 = .ok (.ireturn, 1) := by decide +kernel
theorem dX6_rain_32 : decode cX6_rain 32 = .ok (.aload_n 0, 1) := by decide +kernel
theorem dX6_rain_33 : decode cX6_rain 33 = .ok (.getfield 12, 3) := by decide +kernel
theorem dX6_rain_36 : decode cX6_rain 36 = .ok (.getfield 121, 3) := by decide +kernel
theorem dX6_rain_39 : decode cX6_rain 39 = .ok (.iload_n 1, 1) := by decide +kernel
theorem dX6_rain_40 : decode cX6_rain 40 = .ok (.iaload, 1) := by decide +kernel
theorem dX6_rain_41 : decode cX6_rain 41 = .ok (.istore_n 3, 1) := by decide +kernel
theorem dX6_rain_42 : decode cX6_rain 42 = .ok (.aload_n 0, 1) := by decide +kernel
theorem dX6_rain_43 : decode cX6_rain 43 = .ok (.getfield 12, 3) := by decide +kernel
theorem dX6_rain_46 : decode cX6_rain 46 = .ok (.getfield 121, 3) := by decide +kernel
theorem dX6_rain_49 : decode cX6_rain 49 = .ok (.iload_n 1, 1) := by decide +kernel
theorem dX6_rain_50 : decode cX6_rain 50 = .ok (.iload_n 2, 1) := by decide +kernel
theorem dX6_rain_51 : decode cX6_rain 51 = .ok (.iastore, 1) := by decide +kernel
theorem dX6_rain_52 : decode cX6_rain 52 = .ok (.iload_n 3, 1) := by decide +kernel
theorem dX6_rain_53 : decode cX6_rain 53 = .ok (.ireturn, 1) := by decide +kernel
theorem dX6_law_0 : decode cX6_law 0 = .ok (.iconst 0, 1) := by decide +kernel
theorem dX6_law_1 : decode cX6_law 1 = .ok (.iload_n 1, 1) := by decide +kernel
theorem dX6_law_2 : decode cX6_law 2 = .ok (.iconst 2, 1) := by decide +kernel
theorem dX6_law_3 : decode cX6_law 3 = .ok (.invokestatic 104, 3) := by decide +kernel
theorem dX6_law_6 : decode cX6_law 6 = .ok (.ifCond .eq 6, 3) := by decide +kernel
theorem dX6_law_9 : decode cX6_law 9 = .ok (.bipush (-2), 2) := by decide +kernel
theorem dX6_law_11 : decode cX6_law 11 = .ok (.ireturn, 1) := by decide +kernel
theorem dX6_law_12 : decode cX6_law 12 = .ok (.aload_n 0, 1) := by decide +kernel
theorem dX6_law_13 : decode cX6_law 13 = .ok (.invokevirtual 108, 3) := by decide +kernel
theorem dX6_law_16 : decode cX6_law 16 = .ok (.ifCond .eq 6, 3) := by decide +kernel
theorem dX6_law_19 : decode cX6_law 19 = .ok (.bipush (-3), 2) := by decide +kernel
theorem dX6_law_21 : decode cX6_law 21 = .ok (.ireturn, 1) := by decide +kernel
theorem dX6_law_22 : decode cX6_law 22 = .ok (.aload_n 0, 1) := by decide +kernel
theorem dX6_law_23 : decode cX6_law 23 = .ok (.getfield 12, 3) := by decide +kernel
theorem dX6_law_26 : decode cX6_law 26 = .ok (.getfield 125, 3) := by decide +kernel
theorem dX6_law_29 : decode cX6_law 29 = .ok (.istore_n 2, 1) := by decide +kernel
theorem dX6_law_30 : decode cX6_law 30 = .ok (.aload_n 0, 1) := by decide +kernel
theorem dX6_law_31 : decode cX6_law 31 = .ok (.getfield 12, 3) := by decide +kernel
theorem dX6_law_34 : decode cX6_law 34 = .ok (.iload_n 1, 1) := by decide +kernel
theorem dX6_law_35 : decode cX6_law 35 = .ok (.putfield 125, 3) := by decide +kernel
theorem dX6_law_38 : decode cX6_law 38 = .ok (.iload_n 2, 1) := by decide +kernel
theorem dX6_law_39 : decode cX6_law 39 = .ok (.ireturn, 1) := by decide +kernel
theorem dX6_leak_0 : decode cX6_leak 0 = .ok (.iconst 0, 1) := by decide +kernel
theorem dX6_leak_1 : decode cX6_leak 1 = .ok (.iload_n 1, 1) := by decide +kernel
theorem dX6_leak_2 : decode cX6_leak 2 = .ok (.bipush 9, 2) := by decide +kernel
theorem dX6_leak_4 : decode cX6_leak 4 = .ok (.invokestatic 104, 3) := by decide +kernel
theorem dX6_leak_7 : decode cX6_leak 7 = .ok (.ifCond .ne 13, 3) := by decide +kernel
theorem dX6_leak_10 : decode cX6_leak 10 = .ok (.iconst 0, 1) := by decide +kernel
theorem dX6_leak_11 : decode cX6_leak 11 = .ok (.iload_n 2, 1) := by decide +kernel
theorem dX6_leak_12 : decode cX6_leak 12 = .ok (.bipush 9, 2) := by decide +kernel
theorem dX6_leak_14 : decode cX6_leak 14 = .ok (.invokestatic 104, 3) := by decide +kernel
theorem dX6_leak_17 : decode cX6_leak 17 = .ok (.ifCond .eq 6, 3) := by decide +kernel
theorem dX6_leak_20 : decode cX6_leak 20 = .ok (.bipush (-2), 2) := by decide +kernel
theorem dX6_leak_22 : decode cX6_leak 22 = .ok (.ireturn, 1) := by decide +kernel
theorem dX6_leak_23 : decode cX6_leak 23 = .ok (.aload_n 0, 1) := by decide +kernel
theorem dX6_leak_24 : decode cX6_leak 24 = .ok (.invokevirtual 108, 3) := by decide +kernel
theorem dX6_leak_27 : decode cX6_leak 27 = .ok (.ifCond .eq 6, 3) := by decide +kernel
theorem dX6_leak_30 : decode cX6_leak 30 = .ok (.bipush (-3), 2) := by decide +kernel
theorem dX6_leak_32 : decode cX6_leak 32 = .ok (.ireturn, 1) := by decide +kernel
theorem dX6_leak_33 : decode cX6_leak 33 = .ok (.bipush 10, 2) := by decide +kernel
theorem dX6_leak_35 : decode cX6_leak 35 = .ok (.aload_n 0, 1) := by decide +kernel
theorem dX6_leak_36 : decode cX6_leak 36 = .ok (.getfield 12, 3) := by decide +kernel
theorem dX6_leak_39 : decode cX6_leak 39 = .ok (.getfield 128, 3) := by decide +kernel
theorem dX6_leak_42 : decode cX6_leak 42 = .ok (.imul, 1) := by decide +kernel
theorem dX6_leak_43 : decode cX6_leak 43 = .ok (.aload_n 0, 1) := by decide +kernel
theorem dX6_leak_44 : decode cX6_leak 44 = .ok (.getfield 12, 3) := by decide +kernel
theorem dX6_leak_47 : decode cX6_leak 47 = .ok (.getfield 131, 3) := by decide +kernel
theorem dX6_leak_50 : decode cX6_leak 50 = .ok (.iadd, 1) := by decide +kernel
theorem dX6_leak_51 : decode cX6_leak 51 = .ok (.istore_n 3, 1) := by decide +kernel
theorem dX6_leak_52 : decode cX6_leak 52 = .ok (.aload_n 0, 1) := by decide +kernel
theorem dX6_leak_53 : decode cX6_leak 53 = .ok (.getfield 12, 3) := by decide +kernel
theorem dX6_leak_56 : decode cX6_leak 56 = .ok (.iload_n 1, 1) := by decide +kernel
theorem dX6_leak_57 : decode cX6_leak 57 = .ok (.putfield 128, 3) := by decide +kernel
theorem dX6_leak_60 : decode cX6_leak 60 = .ok (.aload_n 0, 1) := by decide +kernel
theorem dX6_leak_61 : decode cX6_leak 61 = .ok (.getfield 12, 3) := by decide +kernel
theorem dX6_leak_64 : decode cX6_leak 64 = .ok (.iload_n 2, 1) := by decide +kernel
theorem dX6_leak_65 : decode cX6_leak 65 = .ok (.putfield 131, 3) := by decide +kernel
theorem dX6_leak_68 : decode cX6_leak 68 = .ok (.iload_n 3, 1) := by decide +kernel
theorem dX6_leak_69 : decode cX6_leak 69 = .ok (.ireturn, 1) := by decide +kernel
theorem dX6_got_0 : decode cX6_got 0 = .ok (.aload_n 0, 1) := by decide +kernel
theorem dX6_got_1 : decode cX6_got 1 = .ok (.iload_n 1, 1) := by decide +kernel
theorem dX6_got_2 : decode cX6_got 2 = .ok (.invokevirtual 79, 3) := by decide +kernel
theorem dX6_got_5 : decode cX6_got 5 = .ok (.ifCond .ne 10, 3) := by decide +kernel
theorem dX6_got_8 : decode cX6_got 8 = .ok (.iload_n 2, 1) := by decide +kernel
theorem dX6_got_9 : decode cX6_got 9 = .ok (.invokestatic 118, 3) := by decide +kernel
theorem dX6_got_12 : decode cX6_got 12 = .ok (.ifCond .eq 5, 3) := by decide +kernel
theorem dX6_got_15 : decode cX6_got 15 = .ok (.iconst (-1), 1) := by decide +kernel
theorem dX6_got_16 : decode cX6_got 16 = .ok (.ireturn, 1) := by decide +kernel
theorem dX6_got_17 : decode cX6_got 17 = .ok (.aload_n 0, 1) := by decide +kernel
theorem dX6_got_18 : decode cX6_got 18 = .ok (.iload_n 2, 1) := by decide +kernel
theorem dX6_got_19 : decode cX6_got 19 = .ok (.iconst 1, 1) := by decide +kernel
theorem dX6_got_20 : decode cX6_got 20 = .ok (.iadd, 1) := by decide +kernel
theorem dX6_got_21 : decode cX6_got 21 = .ok (.invokevirtual 134, 3) := by decide +kernel
theorem dX6_got_24 : decode cX6_got 24 = .ok (.aload_n 0, 1) := by decide +kernel
theorem dX6_got_25 : decode cX6_got 25 = .ok (.getfield 23, 3) := by decide +kernel
theorem dX6_got_28 : decode cX6_got 28 = .ok (.iload_n 1, 1) := by decide +kernel
theorem dX6_got_29 : decode cX6_got 29 = .ok (.iload_n 2, 1) := by decide +kernel
theorem dX6_got_30 : decode cX6_got 30 = .ok (.invokevirtual 138, 3) := by decide +kernel
theorem dX6_got_33 : decode cX6_got 33 = .ok (.ireturn, 1) := by decide +kernel
theorem dX6_level_0 : decode cX6_level 0 = .ok (.iconst 0, 1) := by decide +kernel
theorem dX6_level_1 : decode cX6_level 1 = .ok (.iload_n 1, 1) := by decide +kernel
theorem dX6_level_2 : decode cX6_level 2 = .ok (.bipush 10, 2) := by decide +kernel
theorem dX6_level_4 : decode cX6_level 4 = .ok (.invokestatic 104, 3) := by decide +kernel
theorem dX6_level_7 : decode cX6_level 7 = .ok (.ifCond .eq 5, 3) := by decide +kernel
theorem dX6_level_10 : decode cX6_level 10 = .ok (.iconst (-1), 1) := by decide +kernel
theorem dX6_level_11 : decode cX6_level 11 = .ok (.ireturn, 1) := by decide +kernel
theorem dX6_level_12 : decode cX6_level 12 = .ok (.aload_n 0, 1) := by decide +kernel
theorem dX6_level_13 : decode cX6_level 13 = .ok (.invokevirtual 108, 3) := by decide +kernel
theorem dX6_level_16 : decode cX6_level 16 = .ok (.ifCond .eq 6, 3) := by decide +kernel
theorem dX6_level_19 : decode cX6_level 19 = .ok (.bipush (-3), 2) := by decide +kernel
theorem dX6_level_21 : decode cX6_level 21 = .ok (.ireturn, 1) := by decide +kernel
theorem dX6_level_22 : decode cX6_level 22 = .ok (.aload_n 0, 1) := by decide +kernel
theorem dX6_level_23 : decode cX6_level 23 = .ok (.iload_n 1, 1) := by decide +kernel
theorem dX6_level_24 : decode cX6_level 24 = .ok (.invokevirtual 134, 3) := by decide +kernel
theorem dX6_level_27 : decode cX6_level 27 = .ok (.aload_n 0, 1) := by decide +kernel
theorem dX6_level_28 : decode cX6_level 28 = .ok (.getfield 23, 3) := by decide +kernel
theorem dX6_level_31 : decode cX6_level 31 = .ok (.getfield 142, 3) := by decide +kernel
theorem dX6_level_34 : decode cX6_level 34 = .ok (.iload_n 1, 1) := by decide +kernel
theorem dX6_level_35 : decode cX6_level 35 = .ok (.iaload, 1) := by decide +kernel
theorem dX6_level_36 : decode cX6_level 36 = .ok (.ireturn, 1) := by decide +kernel
theorem dX6_over_0 : decode cX6_over 0 = .ok (.iload_n 1, 1) := by decide +kernel
theorem dX6_over_1 : decode cX6_over 1 = .ok (.invokestatic 118, 3) := by decide +kernel
theorem dX6_over_4 : decode cX6_over 4 = .ok (.ifCond .eq 5, 3) := by decide +kernel
theorem dX6_over_7 : decode cX6_over 7 = .ok (.iconst (-1), 1) := by decide +kernel
theorem dX6_over_8 : decode cX6_over 8 = .ok (.ireturn, 1) := by decide +kernel
theorem dX6_over_9 : decode cX6_over 9 = .ok (.aload_n 0, 1) := by decide +kernel
theorem dX6_over_10 : decode cX6_over 10 = .ok (.invokevirtual 108, 3) := by decide +kernel
theorem dX6_over_13 : decode cX6_over 13 = .ok (.ifCond .eq 6, 3) := by decide +kernel
theorem dX6_over_16 : decode cX6_over 16 = .ok (.bipush (-3), 2) := by decide +kernel
theorem dX6_over_18 : decode cX6_over 18 = .ok (.ireturn, 1) := by decide +kernel
theorem dX6_over_19 : decode cX6_over 19 = .ok (.aload_n 0, 1) := by decide +kernel
theorem dX6_over_20 : decode cX6_over 20 = .ok (.iload_n 1, 1) := by decide +kernel
theorem dX6_over_21 : decode cX6_over 21 = .ok (.iconst 1, 1) := by decide +kernel
theorem dX6_over_22 : decode cX6_over 22 = .ok (.iadd, 1) := by decide +kernel
theorem dX6_over_23 : decode cX6_over 23 = .ok (.invokevirtual 134, 3) := by decide +kernel
theorem dX6_over_26 : decode cX6_over 26 = .ok (.aload_n 0, 1) := by decide +kernel
theorem dX6_over_27 : decode cX6_over 27 = .ok (.getfield 23, 3) := by decide +kernel
theorem dX6_over_30 : decode cX6_over 30 = .ok (.getfield 145, 3) := by decide +kernel
theorem dX6_over_33 : decode cX6_over 33 = .ok (.iload_n 1, 1) := by decide +kernel
theorem dX6_over_34 : decode cX6_over 34 = .ok (.iaload, 1) := by decide +kernel
theorem dX6_over_35 : decode cX6_over 35 = .ok (.ireturn, 1) := by decide +kernel
theorem dX6_nobody_0 : decode cX6_nobody 0 = .ok (.iconst 0, 1) := by decide +kernel
theorem dX6_nobody_1 : decode cX6_nobody 1 = .ok (.iload_n 1, 1) := by decide +kernel
theorem dX6_nobody_2 : decode cX6_nobody 2 = .ok (.bipush 10, 2) := by decide +kernel
theorem dX6_nobody_4 : decode cX6_nobody 4 = .ok (.invokestatic 104, 3) := by decide +kernel
theorem dX6_nobody_7 : decode cX6_nobody 7 = .ok (.ifCond .eq 5, 3) := by decide +kernel
theorem dX6_nobody_10 : decode cX6_nobody 10 = .ok (.iconst (-1), 1) := by decide +kernel
theorem dX6_nobody_11 : decode cX6_nobody 11 = .ok (.ireturn, 1) := by decide +kernel
theorem dX6_nobody_12 : decode cX6_nobody 12 = .ok (.aload_n 0, 1) := by decide +kernel
theorem dX6_nobody_13 : decode cX6_nobody 13 = .ok (.invokevirtual 108, 3) := by decide +kernel
theorem dX6_nobody_16 : decode cX6_nobody 16 = .ok (.ifCond .eq 6, 3) := by decide +kernel
theorem dX6_nobody_19 : decode cX6_nobody 19 = .ok (.bipush (-3), 2) := by decide +kernel
theorem dX6_nobody_21 : decode cX6_nobody 21 = .ok (.ireturn, 1) := by decide +kernel
theorem dX6_nobody_22 : decode cX6_nobody 22 = .ok (.aload_n 0, 1) := by decide +kernel
theorem dX6_nobody_23 : decode cX6_nobody 23 = .ok (.iload_n 1, 1) := by decide +kernel
theorem dX6_nobody_24 : decode cX6_nobody 24 = .ok (.invokevirtual 134, 3) := by decide +kernel
theorem dX6_nobody_27 : decode cX6_nobody 27 = .ok (.aload_n 0, 1) := by decide +kernel
theorem dX6_nobody_28 : decode cX6_nobody 28 = .ok (.getfield 12, 3) := by decide +kernel
theorem dX6_nobody_31 : decode cX6_nobody 31 = .ok (.aload_n 0, 1) := by decide +kernel
theorem dX6_nobody_32 : decode cX6_nobody 32 = .ok (.getfield 23, 3) := by decide +kernel
theorem dX6_nobody_35 : decode cX6_nobody 35 = .ok (.getfield 142, 3) := by decide +kernel
theorem dX6_nobody_38 : decode cX6_nobody 38 = .ok (.iload_n 1, 1) := by decide +kernel
theorem dX6_nobody_39 : decode cX6_nobody 39 = .ok (.iaload, 1) := by decide +kernel
theorem dX6_nobody_40 : decode cX6_nobody 40 = .ok (.invokevirtual 148, 3) := by decide +kernel
theorem dX6_nobody_43 : decode cX6_nobody 43 = .ok (.ireturn, 1) := by decide +kernel
theorem dX6_dry_0 : decode cX6_dry 0 = .ok (.aload_n 0, 1) := by decide +kernel
theorem dX6_dry_1 : decode cX6_dry 1 = .ok (.iload_n 1, 1) := by decide +kernel
theorem dX6_dry_2 : decode cX6_dry 2 = .ok (.invokevirtual 79, 3) := by decide +kernel
theorem dX6_dry_5 : decode cX6_dry 5 = .ok (.ifCond .eq 5, 3) := by decide +kernel
theorem dX6_dry_8 : decode cX6_dry 8 = .ok (.iconst (-1), 1) := by decide +kernel
theorem dX6_dry_9 : decode cX6_dry 9 = .ok (.ireturn, 1) := by decide +kernel
theorem dX6_dry_10 : decode cX6_dry 10 = .ok (.aload_n 0, 1) := by decide +kernel
theorem dX6_dry_11 : decode cX6_dry 11 = .ok (.bipush 10, 2) := by decide +kernel
theorem dX6_dry_13 : decode cX6_dry 13 = .ok (.invokevirtual 134, 3) := by decide +kernel
theorem dX6_dry_16 : decode cX6_dry 16 = .ok (.aload_n 0, 1) := by decide +kernel
theorem dX6_dry_17 : decode cX6_dry 17 = .ok (.getfield 23, 3) := by decide +kernel
theorem dX6_dry_20 : decode cX6_dry 20 = .ok (.iload_n 1, 1) := by decide +kernel
theorem dX6_dry_21 : decode cX6_dry 21 = .ok (.bipush 10, 2) := by decide +kernel
theorem dX6_dry_23 : decode cX6_dry 23 = .ok (.invokevirtual 151, 3) := by decide +kernel
theorem dX6_dry_26 : decode cX6_dry 26 = .ok (.ireturn, 1) := by decide +kernel
theorem dX6_can_0 : decode cX6_can 0 = .ok (.iconst 0, 1) := by decide +kernel
theorem dX6_can_1 : decode cX6_can 1 = .ok (.iload_n 1, 1) := by decide +kernel
theorem dX6_can_2 : decode cX6_can 2 = .ok (.bipush 10, 2) := by decide +kernel
theorem dX6_can_4 : decode cX6_can 4 = .ok (.invokestatic 104, 3) := by decide +kernel
theorem dX6_can_7 : decode cX6_can 7 = .ok (.ifCond .eq 6, 3) := by decide +kernel
theorem dX6_can_10 : decode cX6_can 10 = .ok (.bipush (-2), 2) := by decide +kernel
theorem dX6_can_12 : decode cX6_can 12 = .ok (.ireturn, 1) := by decide +kernel
theorem dX6_can_13 : decode cX6_can 13 = .ok (.aload_n 0, 1) := by decide +kernel
theorem dX6_can_14 : decode cX6_can 14 = .ok (.invokevirtual 108, 3) := by decide +kernel
theorem dX6_can_17 : decode cX6_can 17 = .ok (.ifCond .eq 6, 3) := by decide +kernel
theorem dX6_can_20 : decode cX6_can 20 = .ok (.bipush (-3), 2) := by decide +kernel
theorem dX6_can_22 : decode cX6_can 22 = .ok (.ireturn, 1) := by decide +kernel
theorem dX6_can_23 : decode cX6_can 23 = .ok (.aload_n 0, 1) := by decide +kernel
theorem dX6_can_24 : decode cX6_can 24 = .ok (.getfield 23, 3) := by decide +kernel
theorem dX6_can_27 : decode cX6_can 27 = .ok (.aload_n 0, 1) := by decide +kernel
theorem dX6_can_28 : decode cX6_can 28 = .ok (.getfield 12, 3) := by decide +kernel
theorem dX6_can_31 : decode cX6_can 31 = .ok (.getfield 115, 3) := by decide +kernel
theorem dX6_can_34 : decode cX6_can 34 = .ok (.iload_n 1, 1) := by decide +kernel
theorem dX6_can_35 : decode cX6_can 35 = .ok (.invokevirtual 154, 3) := by decide +kernel
theorem dX6_can_38 : decode cX6_can 38 = .ok (.ifCond .eq 7, 3) := by decide +kernel
theorem dX6_can_41 : decode cX6_can 41 = .ok (.iconst 1, 1) := by decide +kernel
theorem dX6_can_42 : decode cX6_can 42 = .ok (.goto 4, 3) := by decide +kernel
theorem dX6_can_45 : decode cX6_can 45 = .ok (.iconst 0, 1) := by decide +kernel
theorem dX6_can_46 : decode cX6_can 46 = .ok (.ireturn, 1) := by decide +kernel
theorem dX6_start_0 : decode cX6_start 0 = .ok (.iconst 0, 1) := by decide +kernel
theorem dX6_start_1 : decode cX6_start 1 = .ok (.iload_n 1, 1) := by decide +kernel
theorem dX6_start_2 : decode cX6_start 2 = .ok (.bipush 10, 2) := by decide +kernel
theorem dX6_start_4 : decode cX6_start 4 = .ok (.invokestatic 104, 3) := by decide +kernel
theorem dX6_start_7 : decode cX6_start 7 = .ok (.ifCond .eq 6, 3) := by decide +kernel
theorem dX6_start_10 : decode cX6_start 10 = .ok (.bipush (-2), 2) := by decide +kernel
theorem dX6_start_12 : decode cX6_start 12 = .ok (.ireturn, 1) := by decide +kernel
theorem dX6_start_13 : decode cX6_start 13 = .ok (.aload_n 0, 1) := by decide +kernel
theorem dX6_start_14 : decode cX6_start 14 = .ok (.invokevirtual 108, 3) := by decide +kernel
theorem dX6_start_17 : decode cX6_start 17 = .ok (.ifCond .eq 6, 3) := by decide +kernel
theorem dX6_start_20 : decode cX6_start 20 = .ok (.bipush (-3), 2) := by decide +kernel
theorem dX6_start_22 : decode cX6_start 22 = .ok (.ireturn, 1) := by decide +kernel
theorem dX6_start_23 : decode cX6_start 23 = .ok (.iconst 0, 1) := by decide +kernel
theorem dX6_start_24 : decode cX6_start 24 = .ok (.istore_n 2, 1) := by decide +kernel
theorem dX6_start_25 : decode cX6_start 25 = .ok (.iload_n 2, 1) := by decide +kernel
theorem dX6_start_26 : decode cX6_start 26 = .ok (.aload_n 0, 1) := by decide +kernel
theorem dX6_start_27 : decode cX6_start 27 = .ok (.getfield 12, 3) := by decide +kernel
theorem dX6_start_30 : decode cX6_start 30 = .ok (.getfield 112, 3) := by decide +kernel
theorem dX6_start_33 : decode cX6_start 33 = .ok (.if_icmp .gt 23, 3) := by decide +kernel
theorem dX6_start_36 : decode cX6_start 36 = .ok (.aload_n 0, 1) := by decide +kernel
theorem dX6_start_37 : decode cX6_start 37 = .ok (.getfield 23, 3) := by decide +kernel
theorem dX6_start_40 : decode cX6_start 40 = .ok (.iload_n 2, 1) := by decide +kernel
theorem dX6_start_41 : decode cX6_start 41 = .ok (.iload_n 1, 1) := by decide +kernel
theorem dX6_start_42 : decode cX6_start 42 = .ok (.invokevirtual 154, 3) := by decide +kernel
theorem dX6_start_45 : decode cX6_start 45 = .ok (.ifCond .eq 5, 3) := by decide +kernel
theorem dX6_start_48 : decode cX6_start 48 = .ok (.iload_n 2, 1) := by decide +kernel
theorem dX6_start_49 : decode cX6_start 49 = .ok (.ireturn, 1) := by decide +kernel
theorem dX6_start_50 : decode cX6_start 50 = .ok (.iinc 2 1, 3) := by decide +kernel
theorem dX6_start_53 : decode cX6_start 53 = .ok (.goto (-28), 3) := by decide +kernel
theorem dX6_start_56 : decode cX6_start 56 = .ok (.bipush (-9), 2) := by decide +kernel
theorem dX6_start_58 : decode cX6_start 58 = .ok (.ireturn, 1) := by decide +kernel
theorem dX6_best_0 : decode cX6_best 0 = .ok (.iconst 0, 1) := by decide +kernel
theorem dX6_best_1 : decode cX6_best 1 = .ok (.iload_n 1, 1) := by decide +kernel
theorem dX6_best_2 : decode cX6_best 2 = .ok (.bipush 10, 2) := by decide +kernel
theorem dX6_best_4 : decode cX6_best 4 = .ok (.invokestatic 104, 3) := by decide +kernel
theorem dX6_best_7 : decode cX6_best 7 = .ok (.ifCond .ne 12, 3) := by decide +kernel
theorem dX6_best_10 : decode cX6_best 10 = .ok (.iconst 0, 1) := by decide +kernel
theorem dX6_best_11 : decode cX6_best 11 = .ok (.iload_n 2, 1) := by decide +kernel
theorem dX6_best_12 : decode cX6_best 12 = .ok (.iconst 1, 1) := by decide +kernel
theorem dX6_best_13 : decode cX6_best 13 = .ok (.invokestatic 104, 3) := by decide +kernel
theorem dX6_best_16 : decode cX6_best 16 = .ok (.ifCond .eq 6, 3) := by decide +kernel
theorem dX6_best_19 : decode cX6_best 19 = .ok (.bipush (-2), 2) := by decide +kernel
theorem dX6_best_21 : decode cX6_best 21 = .ok (.ireturn, 1) := by decide +kernel
theorem dX6_best_22 : decode cX6_best 22 = .ok (.aload_n 0, 1) := by decide +kernel
theorem dX6_best_23 : decode cX6_best 23 = .ok (.invokevirtual 108, 3) := by decide +kernel
theorem dX6_best_26 : decode cX6_best 26 = .ok (.ifCond .eq 6, 3) := by decide +kernel
theorem dX6_best_29 : decode cX6_best 29 = .ok (.bipush (-3), 2) := by decide +kernel
theorem dX6_best_31 : decode cX6_best 31 = .ok (.ireturn, 1) := by decide +kernel
theorem dX6_best_32 : decode cX6_best 32 = .ok (.iconst 0, 1) := by decide +kernel
theorem dX6_best_33 : decode cX6_best 33 = .ok (.istore_n 3, 1) := by decide +kernel
theorem dX6_best_34 : decode cX6_best 34 = .ok (.iconst (-1), 1) := by decide +kernel
theorem dX6_best_35 : decode cX6_best 35 = .ok (.istore 4, 2) := by decide +kernel
theorem dX6_best_37 : decode cX6_best 37 = .ok (.iconst 0, 1) := by decide +kernel
theorem dX6_best_38 : decode cX6_best 38 = .ok (.istore 5, 2) := by decide +kernel
theorem dX6_best_40 : decode cX6_best 40 = .ok (.iload 5, 2) := by decide +kernel
theorem dX6_best_42 : decode cX6_best 42 = .ok (.iconst 2, 1) := by decide +kernel
theorem dX6_best_43 : decode cX6_best 43 = .ok (.if_icmp .gt 58, 3) := by decide +kernel
theorem dX6_best_46 : decode cX6_best 46 = .ok (.aload_n 0, 1) := by decide +kernel
theorem dX6_best_47 : decode cX6_best 47 = .ok (.getfield 23, 3) := by decide +kernel
theorem dX6_best_50 : decode cX6_best 50 = .ok (.aload_n 0, 1) := by decide +kernel
theorem dX6_best_51 : decode cX6_best 51 = .ok (.getfield 12, 3) := by decide +kernel
theorem dX6_best_54 : decode cX6_best 54 = .ok (.getfield 115, 3) := by decide +kernel
theorem dX6_best_57 : decode cX6_best 57 = .ok (.iload 5, 2) := by decide +kernel
theorem dX6_best_59 : decode cX6_best 59 = .ok (.invokevirtual 157, 3) := by decide +kernel
theorem dX6_best_62 : decode cX6_best 62 = .ok (.aload_n 0, 1) := by decide +kernel
theorem dX6_best_63 : decode cX6_best 63 = .ok (.getfield 23, 3) := by decide +kernel
theorem dX6_best_66 : decode cX6_best 66 = .ok (.iconst 0, 1) := by decide +kernel
theorem dX6_best_67 : decode cX6_best 67 = .ok (.iload_n 1, 1) := by decide +kernel
theorem dX6_best_68 : decode cX6_best 68 = .ok (.invokevirtual 161, 3) := by decide +kernel
theorem dX6_best_71 : decode cX6_best 71 = .ok (.aload_n 0, 1) := by decide +kernel
theorem dX6_best_72 : decode cX6_best 72 = .ok (.getfield 23, 3) := by decide +kernel
theorem dX6_best_75 : decode cX6_best 75 = .ok (.iload_n 1, 1) := by decide +kernel
theorem dX6_best_76 : decode cX6_best 76 = .ok (.invokevirtual 164, 3) := by decide +kernel
theorem dX6_best_79 : decode cX6_best 79 = .ok (.istore 6, 2) := by decide +kernel
theorem dX6_best_81 : decode cX6_best 81 = .ok (.iload 6, 2) := by decide +kernel
theorem dX6_best_83 : decode cX6_best 83 = .ok (.iload 4, 2) := by decide +kernel
theorem dX6_best_85 : decode cX6_best 85 = .ok (.if_icmp .le 10, 3) := by decide +kernel
theorem dX6_best_88 : decode cX6_best 88 = .ok (.iload 6, 2) := by decide +kernel
theorem dX6_best_90 : decode cX6_best 90 = .ok (.istore 4, 2) := by decide +kernel
theorem dX6_best_92 : decode cX6_best 92 = .ok (.iload 5, 2) := by decide +kernel
theorem dX6_best_94 : decode cX6_best 94 = .ok (.istore_n 3, 1) := by decide +kernel
theorem dX6_best_95 : decode cX6_best 95 = .ok (.iinc 5 1, 3) := by decide +kernel
theorem dX6_best_98 : decode cX6_best 98 = .ok (.goto (-58), 3) := by decide +kernel
theorem dX6_best_101 : decode cX6_best 101 = .ok (.iload_n 2, 1) := by decide +kernel
theorem dX6_best_102 : decode cX6_best 102 = .ok (.ifCond .ne 7, 3) := by decide +kernel
theorem dX6_best_105 : decode cX6_best 105 = .ok (.iload_n 3, 1) := by decide +kernel
theorem dX6_best_106 : decode cX6_best 106 = .ok (.goto 5, 3) := by decide +kernel
theorem dX6_best_109 : decode cX6_best 109 = .ok (.iload 4, 2) := by decide +kernel
theorem dX6_best_111 : decode cX6_best 111 = .ok (.ireturn, 1) := by decide +kernel
theorem dX6_highest_0 : decode cX6_highest 0 = .ok (.aload_n 0, 1) := by decide +kernel
theorem dX6_highest_1 : decode cX6_highest 1 = .ok (.iload_n 1, 1) := by decide +kernel
theorem dX6_highest_2 : decode cX6_highest 2 = .ok (.invokevirtual 79, 3) := by decide +kernel
theorem dX6_highest_5 : decode cX6_highest 5 = .ok (.ifCond .eq 5, 3) := by decide +kernel
theorem dX6_highest_8 : decode cX6_highest 8 = .ok (.iconst (-1), 1) := by decide +kernel
theorem dX6_highest_9 : decode cX6_highest 9 = .ok (.ireturn, 1) := by decide +kernel
theorem dX6_highest_10 : decode cX6_highest 10 = .ok (.iconst 0, 1) := by decide +kernel
theorem dX6_highest_11 : decode cX6_highest 11 = .ok (.iload_n 2, 1) := by decide +kernel
theorem dX6_highest_12 : decode cX6_highest 12 = .ok (.bipush 10, 2) := by decide +kernel
theorem dX6_highest_14 : decode cX6_highest 14 = .ok (.invokestatic 104, 3) := by decide +kernel
theorem dX6_highest_17 : decode cX6_highest 17 = .ok (.ifCond .eq 6, 3) := by decide +kernel
theorem dX6_highest_20 : decode cX6_highest 20 = .ok (.bipush (-2), 2) := by decide +kernel
theorem dX6_highest_22 : decode cX6_highest 22 = .ok (.ireturn, 1) := by decide +kernel
theorem dX6_highest_23 : decode cX6_highest 23 = .ok (.aload_n 0, 1) := by decide +kernel
theorem dX6_highest_24 : decode cX6_highest 24 = .ok (.getfield 12, 3) := by decide +kernel
theorem dX6_highest_27 : decode cX6_highest 27 = .ok (.getfield 82, 3) := by decide +kernel
theorem dX6_highest_30 : decode cX6_highest 30 = .ok (.iload_n 1, 1) := by decide +kernel
theorem dX6_highest_31 : decode cX6_highest 31 = .ok (.aaload, 1) := by decide +kernel
theorem dX6_highest_32 : decode cX6_highest 32 = .ok (.astore_n 3, 1) := by decide +kernel
theorem dX6_highest_33 : decode cX6_highest 33 = .ok (.aload_n 3, 1) := by decide +kernel
theorem dX6_highest_34 : decode cX6_highest 34 = .ok (.getfield 91, 3) := by decide +kernel
theorem dX6_highest_37 : decode cX6_highest 37 = .ok (.istore 4, 2) := by decide +kernel
theorem dX6_highest_39 : decode cX6_highest 39 = .ok (.bipush (-9), 2) := by decide +kernel
theorem dX6_highest_41 : decode cX6_highest 41 = .ok (.istore 5, 2) := by decide +kernel
theorem dX6_highest_43 : decode cX6_highest 43 = .ok (.bipush 9, 2) := by decide +kernel
theorem dX6_highest_45 : decode cX6_highest 45 = .ok (.istore 6, 2) := by decide +kernel
theorem dX6_highest_47 : decode cX6_highest 47 = .ok (.iload 6, 2) := by decide +kernel
theorem dX6_highest_49 : decode cX6_highest 49 = .ok (.ifCond .lt 45, 3) := by decide +kernel
theorem dX6_highest_52 : decode cX6_highest 52 = .ok (.iload 5, 2) := by decide +kernel
theorem dX6_highest_54 : decode cX6_highest 54 = .ok (.bipush (-9), 2) := by decide +kernel
theorem dX6_highest_56 : decode cX6_highest 56 = .ok (.if_icmp .ne 38, 3) := by decide +kernel
theorem dX6_highest_59 : decode cX6_highest 59 = .ok (.aload_n 3, 1) := by decide +kernel
theorem dX6_highest_60 : decode cX6_highest 60 = .ok (.iload 6, 2) := by decide +kernel
theorem dX6_highest_62 : decode cX6_highest 62 = .ok (.putfield 91, 3) := by decide +kernel
theorem dX6_highest_65 : decode cX6_highest 65 = .ok (.aload_n 0, 1) := by decide +kernel
theorem dX6_highest_66 : decode cX6_highest 66 = .ok (.iload_n 2, 1) := by decide +kernel
theorem dX6_highest_67 : decode cX6_highest 67 = .ok (.invokevirtual 134, 3) := by decide +kernel
theorem dX6_highest_70 : decode cX6_highest 70 = .ok (.aload_n 0, 1) := by decide +kernel
theorem dX6_highest_71 : decode cX6_highest 71 = .ok (.getfield 23, 3) := by decide +kernel
theorem dX6_highest_74 : decode cX6_highest 74 = .ok (.iload_n 1, 1) := by decide +kernel
theorem dX6_highest_75 : decode cX6_highest 75 = .ok (.iload_n 2, 1) := by decide +kernel
theorem dX6_highest_76 : decode cX6_highest 76 = .ok (.invokevirtual 151, 3) := by decide +kernel
theorem dX6_highest_79 : decode cX6_highest 79 = .ok (.bipush (-9), 2) := by decide +kernel
theorem dX6_highest_81 : decode cX6_highest 81 = .ok (.if_icmp .ne 7, 3) := by decide +kernel
theorem dX6_highest_84 : decode cX6_highest 84 = .ok (.iload 6, 2) := by decide +kernel
theorem dX6_highest_86 : decode cX6_highest 86 = .ok (.istore 5, 2) := by decide +kernel
theorem dX6_highest_88 : decode cX6_highest 88 = .ok (.iinc 6 (-1), 3) := by decide +kernel
theorem dX6_highest_91 : decode cX6_highest 91 = .ok (.goto (-44), 3) := by decide +kernel
theorem dX6_highest_94 : decode cX6_highest 94 = .ok (.aload_n 3, 1) := by decide +kernel
theorem dX6_highest_95 : decode cX6_highest 95 = .ok (.iload 4, 2) := by decide +kernel
theorem dX6_highest_97 : decode cX6_highest 97 = .ok (.putfield 91, 3) := by decide +kernel
theorem dX6_highest_100 : decode cX6_highest 100 = .ok (.iload 5, 2) := by decide +kernel
theorem dX6_highest_102 : decode cX6_highest 102 = .ok (.ireturn, 1) := by decide +kernel
theorem dX6_worst_0 : decode cX6_worst 0 = .ok (.iconst 1, 1) := by decide +kernel
theorem dX6_worst_1 : decode cX6_worst 1 = .ok (.iload_n 1, 1) := by decide +kernel
theorem dX6_worst_2 : decode cX6_worst 2 = .ok (.bipush 10, 2) := by decide +kernel
theorem dX6_worst_4 : decode cX6_worst 4 = .ok (.invokestatic 104, 3) := by decide +kernel
theorem dX6_worst_7 : decode cX6_worst 7 = .ok (.ifCond .ne 19, 3) := by decide +kernel
theorem dX6_worst_10 : decode cX6_worst 10 = .ok (.iconst 0, 1) := by decide +kernel
theorem dX6_worst_11 : decode cX6_worst 11 = .ok (.iload_n 2, 1) := by decide +kernel
theorem dX6_worst_12 : decode cX6_worst 12 = .ok (.iconst 1, 1) := by decide +kernel
theorem dX6_worst_13 : decode cX6_worst 13 = .ok (.invokestatic 104, 3) := by decide +kernel
theorem dX6_worst_16 : decode cX6_worst 16 = .ok (.ifCond .ne 10, 3) := by decide +kernel
theorem dX6_worst_19 : decode cX6_worst 19 = .ok (.aload_n 0, 1) := by decide +kernel
theorem dX6_worst_20 : decode cX6_worst 20 = .ok (.invokevirtual 108, 3) := by decide +kernel
theorem dX6_worst_23 : decode cX6_worst 23 = .ok (.ifCond .eq 7, 3) := by decide +kernel
theorem dX6_worst_26 : decode cX6_worst 26 = .ok (.ldc2_w 167, 3) := by decide +kernel
theorem dX6_worst_29 : decode cX6_worst 29 = .ok (.lreturn, 1) := by decide +kernel
theorem dX6_worst_30 : decode cX6_worst 30 = .ok (.aload_n 0, 1) := by decide +kernel
theorem dX6_worst_31 : decode cX6_worst 31 = .ok (.iload_n 1, 1) := by decide +kernel
theorem dX6_worst_32 : decode cX6_worst 32 = .ok (.invokevirtual 134, 3) := by decide +kernel
theorem dX6_worst_35 : decode cX6_worst 35 = .ok (.aload_n 0, 1) := by decide +kernel
theorem dX6_worst_36 : decode cX6_worst 36 = .ok (.getfield 23, 3) := by decide +kernel
theorem dX6_worst_39 : decode cX6_worst 39 = .ok (.iconst 0, 1) := by decide +kernel
theorem dX6_worst_40 : decode cX6_worst 40 = .ok (.iload_n 1, 1) := by decide +kernel
theorem dX6_worst_41 : decode cX6_worst 41 = .ok (.invokevirtual 169, 3) := by decide +kernel
theorem dX6_worst_44 : decode cX6_worst 44 = .ok (.istore_n 3, 1) := by decide +kernel
theorem dX6_worst_45 : decode cX6_worst 45 = .ok (.aload_n 0, 1) := by decide +kernel
theorem dX6_worst_46 : decode cX6_worst 46 = .ok (.getfield 12, 3) := by decide +kernel
theorem dX6_worst_49 : decode cX6_worst 49 = .ok (.getfield 82, 3) := by decide +kernel
theorem dX6_worst_52 : decode cX6_worst 52 = .ok (.iconst 0, 1) := by decide +kernel
theorem dX6_worst_53 : decode cX6_worst 53 = .ok (.aaload, 1) := by decide +kernel
theorem dX6_worst_54 : decode cX6_worst 54 = .ok (.getfield 94, 3) := by decide +kernel
theorem dX6_worst_57 : decode cX6_worst 57 = .ok (.iload_n 1, 1) := by decide +kernel
theorem dX6_worst_58 : decode cX6_worst 58 = .ok (.imul, 1) := by decide +kernel
theorem dX6_worst_59 : decode cX6_worst 59 = .ok (.istore 4, 2) := by decide +kernel
theorem dX6_worst_61 : decode cX6_worst 61 = .ok (.iconst 1, 1) := by decide +kernel
theorem dX6_worst_62 : decode cX6_worst 62 = .ok (.istore 5, 2) := by decide +kernel
theorem dX6_worst_64 : decode cX6_worst 64 = .ok (.iload 5, 2) := by decide +kernel
theorem dX6_worst_66 : decode cX6_worst 66 = .ok (.aload_n 0, 1) := by decide +kernel
theorem dX6_worst_67 : decode cX6_worst 67 = .ok (.getfield 12, 3) := by decide +kernel
theorem dX6_worst_70 : decode cX6_worst 70 = .ok (.getfield 76, 3) := by decide +kernel
theorem dX6_worst_73 : decode cX6_worst 73 = .ok (.if_icmp .ge 57, 3) := by decide +kernel
theorem dX6_worst_76 : decode cX6_worst 76 = .ok (.aload_n 0, 1) := by decide +kernel
theorem dX6_worst_77 : decode cX6_worst 77 = .ok (.getfield 23, 3) := by decide +kernel
theorem dX6_worst_80 : decode cX6_worst 80 = .ok (.iload 5, 2) := by decide +kernel
theorem dX6_worst_82 : decode cX6_worst 82 = .ok (.iload_n 1, 1) := by decide +kernel
theorem dX6_worst_83 : decode cX6_worst 83 = .ok (.invokevirtual 169, 3) := by decide +kernel
theorem dX6_worst_86 : decode cX6_worst 86 = .ok (.istore 6, 2) := by decide +kernel
theorem dX6_worst_88 : decode cX6_worst 88 = .ok (.aload_n 0, 1) := by decide +kernel
theorem dX6_worst_89 : decode cX6_worst 89 = .ok (.getfield 12, 3) := by decide +kernel
theorem dX6_worst_92 : decode cX6_worst 92 = .ok (.getfield 82, 3) := by decide +kernel
theorem dX6_worst_95 : decode cX6_worst 95 = .ok (.iload 5, 2) := by decide +kernel
theorem dX6_worst_97 : decode cX6_worst 97 = .ok (.aaload, 1) := by decide +kernel
theorem dX6_worst_98 : decode cX6_worst 98 = .ok (.getfield 94, 3) := by decide +kernel
theorem dX6_worst_101 : decode cX6_worst 101 = .ok (.iload_n 1, 1) := by decide +kernel
theorem dX6_worst_102 : decode cX6_worst 102 = .ok (.imul, 1) := by decide +kernel
theorem dX6_worst_103 : decode cX6_worst 103 = .ok (.istore 7, 2) := by decide +kernel
theorem dX6_worst_105 : decode cX6_worst 105 = .ok (.iload 6, 2) := by decide +kernel
theorem dX6_worst_107 : decode cX6_worst 107 = .ok (.iload 4, 2) := by decide +kernel
theorem dX6_worst_109 : decode cX6_worst 109 = .ok (.imul, 1) := by decide +kernel
theorem dX6_worst_110 : decode cX6_worst 110 = .ok (.iload_n 3, 1) := by decide +kernel
theorem dX6_worst_111 : decode cX6_worst 111 = .ok (.iload 7, 2) := by decide +kernel
theorem dX6_worst_113 : decode cX6_worst 113 = .ok (.imul, 1) := by decide +kernel
theorem dX6_worst_114 : decode cX6_worst 114 = .ok (.if_icmp .ge 10, 3) := by decide +kernel
theorem dX6_worst_117 : decode cX6_worst 117 = .ok (.iload 6, 2) := by decide +kernel
theorem dX6_worst_119 : decode cX6_worst 119 = .ok (.istore_n 3, 1) := by decide +kernel
theorem dX6_worst_120 : decode cX6_worst 120 = .ok (.iload 7, 2) := by decide +kernel
theorem dX6_worst_122 : decode cX6_worst 122 = .ok (.istore 4, 2) := by decide +kernel
theorem dX6_worst_124 : decode cX6_worst 124 = .ok (.iinc 5 1, 3) := by decide +kernel
theorem dX6_worst_127 : decode cX6_worst 127 = .ok (.goto (-63), 3) := by decide +kernel
theorem dX6_worst_130 : decode cX6_worst 130 = .ok (.iload_n 3, 1) := by decide +kernel
theorem dX6_worst_131 : decode cX6_worst 131 = .ok (.iload 4, 2) := by decide +kernel
theorem dX6_worst_133 : decode cX6_worst 133 = .ok (.iload_n 2, 1) := by decide +kernel
theorem dX6_worst_134 : decode cX6_worst 134 = .ok (.invokestatic 172, 3) := by decide +kernel
theorem dX6_worst_137 : decode cX6_worst 137 = .ok (.lreturn, 1) := by decide +kernel
theorem dX6_risk_0 : decode cX6_risk 0 = .ok (.aload_n 0, 1) := by decide +kernel
theorem dX6_risk_1 : decode cX6_risk 1 = .ok (.iload_n 1, 1) := by decide +kernel
theorem dX6_risk_2 : decode cX6_risk 2 = .ok (.invokevirtual 79, 3) := by decide +kernel
theorem dX6_risk_5 : decode cX6_risk 5 = .ok (.ifCond .ne 23, 3) := by decide +kernel
theorem dX6_risk_8 : decode cX6_risk 8 = .ok (.iconst 0, 1) := by decide +kernel
theorem dX6_risk_9 : decode cX6_risk 9 = .ok (.iload_n 2, 1) := by decide +kernel
theorem dX6_risk_10 : decode cX6_risk 10 = .ok (.bipush 6, 2) := by decide +kernel
theorem dX6_risk_12 : decode cX6_risk 12 = .ok (.invokestatic 104, 3) := by decide +kernel
theorem dX6_risk_15 : decode cX6_risk 15 = .ok (.ifCond .ne 13, 3) := by decide +kernel
theorem dX6_risk_18 : decode cX6_risk 18 = .ok (.iconst 0, 1) := by decide +kernel
theorem dX6_risk_19 : decode cX6_risk 19 = .ok (.iload 5, 2) := by decide +kernel
theorem dX6_risk_21 : decode cX6_risk 21 = .ok (.iconst 1, 1) := by decide +kernel
theorem dX6_risk_22 : decode cX6_risk 22 = .ok (.invokestatic 104, 3) := by decide +kernel
theorem dX6_risk_25 : decode cX6_risk 25 = .ok (.ifCond .eq 7, 3) := by decide +kernel
theorem dX6_risk_28 : decode cX6_risk 28 = .ok (.ldc2_w 167, 3) := by decide +kernel
theorem dX6_risk_31 : decode cX6_risk 31 = .ok (.lreturn, 1) := by decide +kernel
theorem dX6_risk_32 : decode cX6_risk 32 = .ok (.iconst 0, 1) := by decide +kernel
theorem dX6_risk_33 : decode cX6_risk 33 = .ok (.iload_n 3, 1) := by decide +kernel
theorem dX6_risk_34 : decode cX6_risk 34 = .ok (.bipush 99, 2) := by decide +kernel
theorem dX6_risk_36 : decode cX6_risk 36 = .ok (.invokestatic 104, 3) := by decide +kernel
theorem dX6_risk_39 : decode cX6_risk 39 = .ok (.ifCond .ne 14, 3) := by decide +kernel
theorem dX6_risk_42 : decode cX6_risk 42 = .ok (.iconst 0, 1) := by decide +kernel
theorem dX6_risk_43 : decode cX6_risk 43 = .ok (.iload 4, 2) := by decide +kernel
theorem dX6_risk_45 : decode cX6_risk 45 = .ok (.bipush 99, 2) := by decide +kernel
theorem dX6_risk_47 : decode cX6_risk 47 = .ok (.invokestatic 104, 3) := by decide +kernel
theorem dX6_risk_50 : decode cX6_risk 50 = .ok (.ifCond .eq 7, 3) := by decide +kernel
theorem dX6_risk_53 : decode cX6_risk 53 = .ok (.ldc2_w 167, 3) := by decide +kernel
theorem dX6_risk_56 : decode cX6_risk 56 = .ok (.lreturn, 1) := by decide +kernel
theorem dX6_risk_57 : decode cX6_risk 57 = .ok (.aload_n 0, 1) := by decide +kernel
theorem dX6_risk_58 : decode cX6_risk 58 = .ok (.getfield 23, 3) := by decide +kernel
theorem dX6_risk_61 : decode cX6_risk 61 = .ok (.aload_n 0, 1) := by decide +kernel
theorem dX6_risk_62 : decode cX6_risk 62 = .ok (.getfield 12, 3) := by decide +kernel
theorem dX6_risk_65 : decode cX6_risk 65 = .ok (.getfield 115, 3) := by decide +kernel
theorem dX6_risk_68 : decode cX6_risk 68 = .ok (.aload_n 0, 1) := by decide +kernel
theorem dX6_risk_69 : decode cX6_risk 69 = .ok (.getfield 12, 3) := by decide +kernel
theorem dX6_risk_72 : decode cX6_risk 72 = .ok (.getfield 125, 3) := by decide +kernel
theorem dX6_risk_75 : decode cX6_risk 75 = .ok (.invokevirtual 157, 3) := by decide +kernel
theorem dX6_risk_78 : decode cX6_risk 78 = .ok (.aload_n 0, 1) := by decide +kernel
theorem dX6_risk_79 : decode cX6_risk 79 = .ok (.getfield 23, 3) := by decide +kernel
theorem dX6_risk_82 : decode cX6_risk 82 = .ok (.iload_n 1, 1) := by decide +kernel
theorem dX6_risk_83 : decode cX6_risk 83 = .ok (.iload_n 2, 1) := by decide +kernel
theorem dX6_risk_84 : decode cX6_risk 84 = .ok (.iload_n 3, 1) := by decide +kernel
theorem dX6_risk_85 : decode cX6_risk 85 = .ok (.iload 4, 2) := by decide +kernel
theorem dX6_risk_87 : decode cX6_risk 87 = .ok (.iconst 0, 1) := by decide +kernel
theorem dX6_risk_88 : decode cX6_risk 88 = .ok (.invokestatic 176, 3) := by decide +kernel
theorem dX6_risk_91 : decode cX6_risk 91 = .ok (.iconst 1, 1) := by decide +kernel
theorem dX6_risk_92 : decode cX6_risk 92 = .ok (.iload_n 2, 1) := by decide +kernel
theorem dX6_risk_93 : decode cX6_risk 93 = .ok (.ishl, 1) := by decide +kernel
theorem dX6_risk_94 : decode cX6_risk 94 = .ok (.iload 5, 2) := by decide +kernel
theorem dX6_risk_96 : decode cX6_risk 96 = .ok (.invokestatic 172, 3) := by decide +kernel
theorem dX6_risk_99 : decode cX6_risk 99 = .ok (.lreturn, 1) := by decide +kernel
theorem dX6_mark_0 : decode cX6_mark 0 = .ok (.iconst 0, 1) := by decide +kernel
theorem dX6_mark_1 : decode cX6_mark 1 = .ok (.iload_n 1, 1) := by decide +kernel
theorem dX6_mark_2 : decode cX6_mark 2 = .ok (.bipush 10, 2) := by decide +kernel
theorem dX6_mark_4 : decode cX6_mark 4 = .ok (.invokestatic 104, 3) := by decide +kernel
theorem dX6_mark_7 : decode cX6_mark 7 = .ok (.ifCond .eq 5, 3) := by decide +kernel
theorem dX6_mark_10 : decode cX6_mark 10 = .ok (.iconst (-1), 1) := by decide +kernel
theorem dX6_mark_11 : decode cX6_mark 11 = .ok (.ireturn, 1) := by decide +kernel
theorem dX6_mark_12 : decode cX6_mark 12 = .ok (.iconst 0, 1) := by decide +kernel
theorem dX6_mark_13 : decode cX6_mark 13 = .ok (.iload_n 2, 1) := by decide +kernel
theorem dX6_mark_14 : decode cX6_mark 14 = .ok (.bipush 99, 2) := by decide +kernel
theorem dX6_mark_16 : decode cX6_mark 16 = .ok (.invokestatic 104, 3) := by decide +kernel
theorem dX6_mark_19 : decode cX6_mark 19 = .ok (.ifCond .eq 6, 3) := by decide +kernel
theorem dX6_mark_22 : decode cX6_mark 22 = .ok (.bipush (-2), 2) := by decide +kernel
theorem dX6_mark_24 : decode cX6_mark 24 = .ok (.ireturn, 1) := by decide +kernel
theorem dX6_mark_25 : decode cX6_mark 25 = .ok (.aload_n 0, 1) := by decide +kernel
theorem dX6_mark_26 : decode cX6_mark 26 = .ok (.invokevirtual 108, 3) := by decide +kernel
theorem dX6_mark_29 : decode cX6_mark 29 = .ok (.ifCond .eq 6, 3) := by decide +kernel
theorem dX6_mark_32 : decode cX6_mark 32 = .ok (.bipush (-3), 2) := by decide +kernel
theorem dX6_mark_34 : decode cX6_mark 34 = .ok (.ireturn, 1) := by decide +kernel
theorem dX6_mark_35 : decode cX6_mark 35 = .ok (.aload_n 0, 1) := by decide +kernel
theorem dX6_mark_36 : decode cX6_mark 36 = .ok (.getfield 30, 3) := by decide +kernel
theorem dX6_mark_39 : decode cX6_mark 39 = .ok (.getfield 73, 3) := by decide +kernel
theorem dX6_mark_42 : decode cX6_mark 42 = .ok (.bipush 8, 2) := by decide +kernel
theorem dX6_mark_44 : decode cX6_mark 44 = .ok (.if_icmp .lt 6, 3) := by decide +kernel
theorem dX6_mark_47 : decode cX6_mark 47 = .ok (.bipush (-4), 2) := by decide +kernel
theorem dX6_mark_49 : decode cX6_mark 49 = .ok (.ireturn, 1) := by decide +kernel
theorem dX6_mark_50 : decode cX6_mark 50 = .ok (.aload_n 0, 1) := by decide +kernel
theorem dX6_mark_51 : decode cX6_mark 51 = .ok (.getfield 30, 3) := by decide +kernel
theorem dX6_mark_54 : decode cX6_mark 54 = .ok (.iload_n 1, 1) := by decide +kernel
theorem dX6_mark_55 : decode cX6_mark 55 = .ok (.iload_n 2, 1) := by decide +kernel
theorem dX6_mark_56 : decode cX6_mark 56 = .ok (.invokevirtual 180, 3) := by decide +kernel
theorem dX6_mark_59 : decode cX6_mark 59 = .ok (.ireturn, 1) := by decide +kernel
theorem dX6_back_0 : decode cX6_back 0 = .ok (.iconst 0, 1) := by decide +kernel
theorem dX6_back_1 : decode cX6_back 1 = .ok (.iload_n 1, 1) := by decide +kernel
theorem dX6_back_2 : decode cX6_back 2 = .ok (.aload_n 0, 1) := by decide +kernel
theorem dX6_back_3 : decode cX6_back 3 = .ok (.getfield 30, 3) := by decide +kernel
theorem dX6_back_6 : decode cX6_back 6 = .ok (.getfield 73, 3) := by decide +kernel
theorem dX6_back_9 : decode cX6_back 9 = .ok (.invokestatic 104, 3) := by decide +kernel
theorem dX6_back_12 : decode cX6_back 12 = .ok (.ifCond .eq 6, 3) := by decide +kernel
theorem dX6_back_15 : decode cX6_back 15 = .ok (.bipush (-2), 2) := by decide +kernel
theorem dX6_back_17 : decode cX6_back 17 = .ok (.ireturn, 1) := by decide +kernel
theorem dX6_back_18 : decode cX6_back 18 = .ok (.aload_n 0, 1) := by decide +kernel
theorem dX6_back_19 : decode cX6_back 19 = .ok (.getfield 30, 3) := by decide +kernel
theorem dX6_back_22 : decode cX6_back 22 = .ok (.dup, 1) := by decide +kernel
theorem dX6_back_23 : decode cX6_back 23 = .ok (.getfield 73, 3) := by decide +kernel
theorem dX6_back_26 : decode cX6_back 26 = .ok (.iload_n 1, 1) := by decide +kernel
theorem dX6_back_27 : decode cX6_back 27 = .ok (.isub, 1) := by decide +kernel
theorem dX6_back_28 : decode cX6_back 28 = .ok (.putfield 73, 3) := by decide +kernel
theorem dX6_back_31 : decode cX6_back 31 = .ok (.aload_n 0, 1) := by decide +kernel
theorem dX6_back_32 : decode cX6_back 32 = .ok (.getfield 30, 3) := by decide +kernel
theorem dX6_back_35 : decode cX6_back 35 = .ok (.getfield 73, 3) := by decide +kernel
theorem dX6_back_38 : decode cX6_back 38 = .ok (.ireturn, 1) := by decide +kernel
theorem dX6_rains_0 : decode cX6_rains 0 = .ok (.iload_n 1, 1) := by decide +kernel
theorem dX6_rains_1 : decode cX6_rains 1 = .ok (.invokestatic 118, 3) := by decide +kernel
theorem dX6_rains_4 : decode cX6_rains 4 = .ok (.ifCond .ne 8, 3) := by decide +kernel
theorem dX6_rains_7 : decode cX6_rains 7 = .ok (.iload_n 2, 1) := by decide +kernel
theorem dX6_rains_8 : decode cX6_rains 8 = .ok (.iconst (-1), 1) := by decide +kernel
theorem dX6_rains_9 : decode cX6_rains 9 = .ok (.if_icmp .ge 5, 3) := by decide +kernel
theorem dX6_rains_12 : decode cX6_rains 12 = .ok (.iconst (-1), 1) := by decide +kernel
theorem dX6_rains_13 : decode cX6_rains 13 = .ok (.ireturn, 1) := by decide +kernel
theorem dX6_rains_14 : decode cX6_rains 14 = .ok (.aload_n 0, 1) := by decide +kernel
theorem dX6_rains_15 : decode cX6_rains 15 = .ok (.invokevirtual 108, 3) := by decide +kernel
theorem dX6_rains_18 : decode cX6_rains 18 = .ok (.ifCond .eq 6, 3) := by decide +kernel
theorem dX6_rains_21 : decode cX6_rains 21 = .ok (.bipush (-3), 2) := by decide +kernel
theorem dX6_rains_23 : decode cX6_rains 23 = .ok (.ireturn, 1) := by decide +kernel
theorem dX6_rains_24 : decode cX6_rains 24 = .ok (.aload_n 0, 1) := by decide +kernel
theorem dX6_rains_25 : decode cX6_rains 25 = .ok (.iload_n 1, 1) := by decide +kernel
theorem dX6_rains_26 : decode cX6_rains 26 = .ok (.invokevirtual 134, 3) := by decide +kernel
theorem dX6_rains_29 : decode cX6_rains 29 = .ok (.iconst 0, 1) := by decide +kernel
theorem dX6_rains_30 : decode cX6_rains 30 = .ok (.istore_n 3, 1) := by decide +kernel
theorem dX6_rains_31 : decode cX6_rains 31 = .ok (.iconst (-1), 1) := by decide +kernel
theorem dX6_rains_32 : decode cX6_rains 32 = .ok (.istore 4, 2) := by decide +kernel
theorem dX6_rains_34 : decode cX6_rains 34 = .ok (.iconst 0, 1) := by decide +kernel
theorem dX6_rains_35 : decode cX6_rains 35 = .ok (.istore 5, 2) := by decide +kernel
theorem dX6_rains_37 : decode cX6_rains 37 = .ok (.iconst 0, 1) := by decide +kernel
theorem dX6_rains_38 : decode cX6_rains 38 = .ok (.istore 6, 2) := by decide +kernel
theorem dX6_rains_40 : decode cX6_rains 40 = .ok (.iload 6, 2) := by decide +kernel
theorem dX6_rains_42 : decode cX6_rains 42 = .ok (.bipush 99, 2) := by decide +kernel
theorem dX6_rains_44 : decode cX6_rains 44 = .ok (.if_icmp .gt 81, 3) := by decide +kernel
theorem dX6_rains_47 : decode cX6_rains 47 = .ok (.aload_n 0, 1) := by decide +kernel
theorem dX6_rains_48 : decode cX6_rains 48 = .ok (.getfield 23, 3) := by decide +kernel
theorem dX6_rains_51 : decode cX6_rains 51 = .ok (.iload_n 1, 1) := by decide +kernel
theorem dX6_rains_52 : decode cX6_rains 52 = .ok (.iload 6, 2) := by decide +kernel
theorem dX6_rains_54 : decode cX6_rains 54 = .ok (.invokevirtual 183, 3) := by decide +kernel
theorem dX6_rains_57 : decode cX6_rains 57 = .ok (.aload_n 0, 1) := by decide +kernel
theorem dX6_rains_58 : decode cX6_rains 58 = .ok (.getfield 23, 3) := by decide +kernel
theorem dX6_rains_61 : decode cX6_rains 61 = .ok (.getfield 142, 3) := by decide +kernel
theorem dX6_rains_64 : decode cX6_rains 64 = .ok (.iload_n 1, 1) := by decide +kernel
theorem dX6_rains_65 : decode cX6_rains 65 = .ok (.iconst 1, 1) := by decide +kernel
theorem dX6_rains_66 : decode cX6_rains 66 = .ok (.iadd, 1) := by decide +kernel
theorem dX6_rains_67 : decode cX6_rains 67 = .ok (.iaload, 1) := by decide +kernel
theorem dX6_rains_68 : decode cX6_rains 68 = .ok (.iload 4, 2) := by decide +kernel
theorem dX6_rains_70 : decode cX6_rains 70 = .ok (.if_icmp .eq 23, 3) := by decide +kernel
theorem dX6_rains_73 : decode cX6_rains 73 = .ok (.aload_n 0, 1) := by decide +kernel
theorem dX6_rains_74 : decode cX6_rains 74 = .ok (.getfield 23, 3) := by decide +kernel
theorem dX6_rains_77 : decode cX6_rains 77 = .ok (.getfield 142, 3) := by decide +kernel
theorem dX6_rains_80 : decode cX6_rains 80 = .ok (.iload_n 1, 1) := by decide +kernel
theorem dX6_rains_81 : decode cX6_rains 81 = .ok (.iconst 1, 1) := by decide +kernel
theorem dX6_rains_82 : decode cX6_rains 82 = .ok (.iadd, 1) := by decide +kernel
theorem dX6_rains_83 : decode cX6_rains 83 = .ok (.iaload, 1) := by decide +kernel
theorem dX6_rains_84 : decode cX6_rains 84 = .ok (.istore 4, 2) := by decide +kernel
theorem dX6_rains_86 : decode cX6_rains 86 = .ok (.aload_n 0, 1) := by decide +kernel
theorem dX6_rains_87 : decode cX6_rains 87 = .ok (.iload_n 1, 1) := by decide +kernel
theorem dX6_rains_88 : decode cX6_rains 88 = .ok (.invokevirtual 186, 3) := by decide +kernel
theorem dX6_rains_91 : decode cX6_rains 91 = .ok (.istore 5, 2) := by decide +kernel
theorem dX6_rains_93 : decode cX6_rains 93 = .ok (.iload 5, 2) := by decide +kernel
theorem dX6_rains_95 : decode cX6_rains 95 = .ok (.ifCond .eq 11, 3) := by decide +kernel
theorem dX6_rains_98 : decode cX6_rains 98 = .ok (.iload_n 3, 1) := by decide +kernel
theorem dX6_rains_99 : decode cX6_rains 99 = .ok (.iload_n 2, 1) := by decide +kernel
theorem dX6_rains_100 : decode cX6_rains 100 = .ok (.if_icmp .ne 6, 3) := by decide +kernel
theorem dX6_rains_103 : decode cX6_rains 103 = .ok (.iload 6, 2) := by decide +kernel
theorem dX6_rains_105 : decode cX6_rains 105 = .ok (.ireturn, 1) := by decide +kernel
theorem dX6_rains_106 : decode cX6_rains 106 = .ok (.iload_n 3, 1) := by decide +kernel
theorem dX6_rains_107 : decode cX6_rains 107 = .ok (.iload 5, 2) := by decide +kernel
theorem dX6_rains_109 : decode cX6_rains 109 = .ok (.ifCond .eq 7, 3) := by decide +kernel
theorem dX6_rains_112 : decode cX6_rains 112 = .ok (.iconst 1, 1) := by decide +kernel
theorem dX6_rains_113 : decode cX6_rains 113 = .ok (.goto 4, 3) := by decide +kernel
theorem dX6_rains_116 : decode cX6_rains 116 = .ok (.iconst 0, 1) := by decide +kernel
theorem dX6_rains_117 : decode cX6_rains 117 = .ok (.iadd, 1) := by decide +kernel
theorem dX6_rains_118 : decode cX6_rains 118 = .ok (.istore_n 3, 1) := by decide +kernel
theorem dX6_rains_119 : decode cX6_rains 119 = .ok (.iinc 6 1, 3) := by decide +kernel
theorem dX6_rains_122 : decode cX6_rains 122 = .ok (.goto (-82), 3) := by decide +kernel
theorem dX6_rains_125 : decode cX6_rains 125 = .ok (.iload_n 2, 1) := by decide +kernel
theorem dX6_rains_126 : decode cX6_rains 126 = .ok (.iconst (-1), 1) := by decide +kernel
theorem dX6_rains_127 : decode cX6_rains 127 = .ok (.if_icmp .ne 7, 3) := by decide +kernel
theorem dX6_rains_130 : decode cX6_rains 130 = .ok (.iload_n 3, 1) := by decide +kernel
theorem dX6_rains_131 : decode cX6_rains 131 = .ok (.goto 5, 3) := by decide +kernel
theorem dX6_rains_134 : decode cX6_rains 134 = .ok (.bipush (-9), 2) := by decide +kernel
theorem dX6_rains_136 : decode cX6_rains 136 = .ok (.ireturn, 1) := by decide +kernel
theorem dX6_thief_0 : decode cX6_thief 0 = .ok (.iload_n 1, 1) := by decide +kernel
theorem dX6_thief_1 : decode cX6_thief 1 = .ok (.invokestatic 118, 3) := by decide +kernel
theorem dX6_thief_4 : decode cX6_thief 4 = .ok (.ifCond .eq 5, 3) := by decide +kernel
theorem dX6_thief_7 : decode cX6_thief 7 = .ok (.iconst (-1), 1) := by decide +kernel
theorem dX6_thief_8 : decode cX6_thief 8 = .ok (.ireturn, 1) := by decide +kernel
theorem dX6_thief_9 : decode cX6_thief 9 = .ok (.iconst 1, 1) := by decide +kernel
theorem dX6_thief_10 : decode cX6_thief 10 = .ok (.iload_n 2, 1) := by decide +kernel
theorem dX6_thief_11 : decode cX6_thief 11 = .ok (.bipush 9, 2) := by decide +kernel
theorem dX6_thief_13 : decode cX6_thief 13 = .ok (.invokestatic 104, 3) := by decide +kernel
theorem dX6_thief_16 : decode cX6_thief 16 = .ok (.ifCond .eq 6, 3) := by decide +kernel
theorem dX6_thief_19 : decode cX6_thief 19 = .ok (.bipush (-2), 2) := by decide +kernel
theorem dX6_thief_21 : decode cX6_thief 21 = .ok (.ireturn, 1) := by decide +kernel
theorem dX6_thief_22 : decode cX6_thief 22 = .ok (.aload_n 0, 1) := by decide +kernel
theorem dX6_thief_23 : decode cX6_thief 23 = .ok (.invokevirtual 108, 3) := by decide +kernel
theorem dX6_thief_26 : decode cX6_thief 26 = .ok (.ifCond .eq 6, 3) := by decide +kernel
theorem dX6_thief_29 : decode cX6_thief 29 = .ok (.bipush (-3), 2) := by decide +kernel
theorem dX6_thief_31 : decode cX6_thief 31 = .ok (.ireturn, 1) := by decide +kernel
theorem dX6_thief_32 : decode cX6_thief 32 = .ok (.aload_n 0, 1) := by decide +kernel
theorem dX6_thief_33 : decode cX6_thief 33 = .ok (.iload_n 1, 1) := by decide +kernel
theorem dX6_thief_34 : decode cX6_thief 34 = .ok (.iconst 1, 1) := by decide +kernel
theorem dX6_thief_35 : decode cX6_thief 35 = .ok (.iadd, 1) := by decide +kernel
theorem dX6_thief_36 : decode cX6_thief 36 = .ok (.invokevirtual 134, 3) := by decide +kernel
theorem dX6_thief_39 : decode cX6_thief 39 = .ok (.aload_n 0, 1) := by decide +kernel
theorem dX6_thief_40 : decode cX6_thief 40 = .ok (.getfield 23, 3) := by decide +kernel
theorem dX6_thief_43 : decode cX6_thief 43 = .ok (.getfield 142, 3) := by decide +kernel
theorem dX6_thief_46 : decode cX6_thief 46 = .ok (.iload_n 1, 1) := by decide +kernel
theorem dX6_thief_47 : decode cX6_thief 47 = .ok (.iconst 1, 1) := by decide +kernel
theorem dX6_thief_48 : decode cX6_thief 48 = .ok (.iadd, 1) := by decide +kernel
theorem dX6_thief_49 : decode cX6_thief 49 = .ok (.iaload, 1) := by decide +kernel
theorem dX6_thief_50 : decode cX6_thief 50 = .ok (.istore_n 3, 1) := by decide +kernel
theorem dX6_thief_51 : decode cX6_thief 51 = .ok (.iconst 0, 1) := by decide +kernel
theorem dX6_thief_52 : decode cX6_thief 52 = .ok (.istore 4, 2) := by decide +kernel
theorem dX6_thief_54 : decode cX6_thief 54 = .ok (.iconst 0, 1) := by decide +kernel
theorem dX6_thief_55 : decode cX6_thief 55 = .ok (.istore 5, 2) := by decide +kernel
theorem dX6_thief_57 : decode cX6_thief 57 = .ok (.iload 5, 2) := by decide +kernel
theorem dX6_thief_59 : decode cX6_thief 59 = .ok (.aload_n 0, 1) := by decide +kernel
theorem dX6_thief_60 : decode cX6_thief 60 = .ok (.getfield 12, 3) := by decide +kernel
theorem dX6_thief_63 : decode cX6_thief 63 = .ok (.getfield 76, 3) := by decide +kernel
theorem dX6_thief_66 : decode cX6_thief 66 = .ok (.if_icmp .ge 54, 3) := by decide +kernel
theorem dX6_thief_69 : decode cX6_thief 69 = .ok (.aload_n 0, 1) := by decide +kernel
theorem dX6_thief_70 : decode cX6_thief 70 = .ok (.getfield 12, 3) := by decide +kernel
theorem dX6_thief_73 : decode cX6_thief 73 = .ok (.iload 5, 2) := by decide +kernel
theorem dX6_thief_75 : decode cX6_thief 75 = .ok (.iload_n 3, 1) := by decide +kernel
theorem dX6_thief_76 : decode cX6_thief 76 = .ok (.invokevirtual 189, 3) := by decide +kernel
theorem dX6_thief_79 : decode cX6_thief 79 = .ok (.iload_n 2, 1) := by decide +kernel
theorem dX6_thief_80 : decode cX6_thief 80 = .ok (.if_icmp .lt 34, 3) := by decide +kernel
theorem dX6_thief_83 : decode cX6_thief 83 = .ok (.aload_n 0, 1) := by decide +kernel
theorem dX6_thief_84 : decode cX6_thief 84 = .ok (.getfield 23, 3) := by decide +kernel
theorem dX6_thief_87 : decode cX6_thief 87 = .ok (.getfield 142, 3) := by decide +kernel
theorem dX6_thief_90 : decode cX6_thief 90 = .ok (.iload_n 1, 1) := by decide +kernel
theorem dX6_thief_91 : decode cX6_thief 91 = .ok (.iconst 1, 1) := by decide +kernel
theorem dX6_thief_92 : decode cX6_thief 92 = .ok (.iadd, 1) := by decide +kernel
theorem dX6_thief_93 : decode cX6_thief 93 = .ok (.iload_n 3, 1) := by decide +kernel
theorem dX6_thief_94 : decode cX6_thief 94 = .ok (.iload_n 2, 1) := by decide +kernel
theorem dX6_thief_95 : decode cX6_thief 95 = .ok (.isub, 1) := by decide +kernel
theorem dX6_thief_96 : decode cX6_thief 96 = .ok (.iastore, 1) := by decide +kernel
theorem dX6_thief_97 : decode cX6_thief 97 = .ok (.aload_n 0, 1) := by decide +kernel
theorem dX6_thief_98 : decode cX6_thief 98 = .ok (.iload_n 1, 1) := by decide +kernel
theorem dX6_thief_99 : decode cX6_thief 99 = .ok (.invokevirtual 186, 3) := by decide +kernel
theorem dX6_thief_102 : decode cX6_thief 102 = .ok (.ifCond .eq 12, 3) := by decide +kernel
theorem dX6_thief_105 : decode cX6_thief 105 = .ok (.iload 4, 2) := by decide +kernel
theorem dX6_thief_107 : decode cX6_thief 107 = .ok (.iconst 1, 1) := by decide +kernel
theorem dX6_thief_108 : decode cX6_thief 108 = .ok (.iload 5, 2) := by decide +kernel
theorem dX6_thief_110 : decode cX6_thief 110 = .ok (.ishl, 1) := by decide +kernel
theorem dX6_thief_111 : decode cX6_thief 111 = .ok (.ior, 1) := by decide +kernel
theorem dX6_thief_112 : decode cX6_thief 112 = .ok (.istore 4, 2) := by decide +kernel
theorem dX6_thief_114 : decode cX6_thief 114 = .ok (.iinc 5 1, 3) := by decide +kernel
theorem dX6_thief_117 : decode cX6_thief 117 = .ok (.goto (-60), 3) := by decide +kernel
theorem dX6_thief_120 : decode cX6_thief 120 = .ok (.iload 4, 2) := by decide +kernel
theorem dX6_thief_122 : decode cX6_thief 122 = .ok (.ireturn, 1) := by decide +kernel
theorem dX6_sheet_0 : decode cX6_sheet 0 = .ok (.aload_n 0, 1) := by decide +kernel
theorem dX6_sheet_1 : decode cX6_sheet 1 = .ok (.iconst 0, 1) := by decide +kernel
theorem dX6_sheet_2 : decode cX6_sheet 2 = .ok (.putfield 41, 3) := by decide +kernel
theorem dX6_sheet_5 : decode cX6_sheet 5 = .ok (.iload_n 1, 1) := by decide +kernel
theorem dX6_sheet_6 : decode cX6_sheet 6 = .ok (.invokestatic 45, 3) := by decide +kernel
theorem dX6_sheet_9 : decode cX6_sheet 9 = .ok (.ifCond .eq 5, 3) := by decide +kernel
theorem dX6_sheet_12 : decode cX6_sheet 12 = .ok (.iconst (-1), 1) := by decide +kernel
theorem dX6_sheet_13 : decode cX6_sheet 13 = .ok (.ireturn, 1) := by decide +kernel
theorem dX6_sheet_14 : decode cX6_sheet 14 = .ok (.iload_n 2, 1) := by decide +kernel
theorem dX6_sheet_15 : decode cX6_sheet 15 = .ok (.invokestatic 49, 3) := by decide +kernel
theorem dX6_sheet_18 : decode cX6_sheet 18 = .ok (.ifCond .ne 9, 3) := by decide +kernel
theorem dX6_sheet_21 : decode cX6_sheet 21 = .ok (.iload_n 3, 1) := by decide +kernel
theorem dX6_sheet_22 : decode cX6_sheet 22 = .ok (.bipush 60, 2) := by decide +kernel
theorem dX6_sheet_24 : decode cX6_sheet 24 = .ok (.if_icmp .le 6, 3) := by decide +kernel
theorem dX6_sheet_27 : decode cX6_sheet 27 = .ok (.bipush (-2), 2) := by decide +kernel
theorem dX6_sheet_29 : decode cX6_sheet 29 = .ok (.ireturn, 1) := by decide +kernel
theorem dX6_sheet_30 : decode cX6_sheet 30 = .ok (.iload_n 3, 1) := by decide +kernel
theorem dX6_sheet_31 : decode cX6_sheet 31 = .ok (.ifCond .ge 9, 3) := by decide +kernel
theorem dX6_sheet_34 : decode cX6_sheet 34 = .ok (.aload_n 0, 1) := by decide +kernel
theorem dX6_sheet_35 : decode cX6_sheet 35 = .ok (.iconst 4, 1) := by decide +kernel
theorem dX6_sheet_36 : decode cX6_sheet 36 = .ok (.invokevirtual 60, 3) := by decide +kernel
theorem dX6_sheet_39 : decode cX6_sheet 39 = .ok (.ireturn, 1) := by decide +kernel
theorem dX6_sheet_40 : decode cX6_sheet 40 = .ok (.aload_n 0, 1) := by decide +kernel
theorem dX6_sheet_41 : decode cX6_sheet 41 = .ok (.getfield 36, 3) := by decide +kernel
theorem dX6_sheet_44 : decode cX6_sheet 44 = .ok (.iload_n 1, 1) := by decide +kernel
theorem dX6_sheet_45 : decode cX6_sheet 45 = .ok (.aaload, 1) := by decide +kernel
theorem dX6_sheet_46 : decode cX6_sheet 46 = .ok (.iload_n 2, 1) := by decide +kernel
theorem dX6_sheet_47 : decode cX6_sheet 47 = .ok (.iload_n 3, 1) := by decide +kernel
theorem dX6_sheet_48 : decode cX6_sheet 48 = .ok (.invokevirtual 192, 3) := by decide +kernel
theorem dX6_sheet_51 : decode cX6_sheet 51 = .ok (.iconst 1, 1) := by decide +kernel
theorem dX6_sheet_52 : decode cX6_sheet 52 = .ok (.ireturn, 1) := by decide +kernel
theorem dX6_lose_0 : decode cX6_lose 0 = .ok (.iload_n 1, 1) := by decide +kernel
theorem dX6_lose_1 : decode cX6_lose 1 = .ok (.invokestatic 45, 3) := by decide +kernel
theorem dX6_lose_4 : decode cX6_lose 4 = .ok (.ifCond .eq 5, 3) := by decide +kernel
theorem dX6_lose_7 : decode cX6_lose 7 = .ok (.iconst (-1), 1) := by decide +kernel
theorem dX6_lose_8 : decode cX6_lose 8 = .ok (.ireturn, 1) := by decide +kernel
theorem dX6_lose_9 : decode cX6_lose 9 = .ok (.aload_n 0, 1) := by decide +kernel
theorem dX6_lose_10 : decode cX6_lose 10 = .ok (.getfield 36, 3) := by decide +kernel
theorem dX6_lose_13 : decode cX6_lose 13 = .ok (.iload_n 1, 1) := by decide +kernel
theorem dX6_lose_14 : decode cX6_lose 14 = .ok (.aaload, 1) := by decide +kernel
theorem dX6_lose_15 : decode cX6_lose 15 = .ok (.getfield 195, 3) := by decide +kernel
theorem dX6_lose_18 : decode cX6_lose 18 = .ok (.iconst (-1), 1) := by decide +kernel
theorem dX6_lose_19 : decode cX6_lose 19 = .ok (.if_icmp .ne 5, 3) := by decide +kernel
theorem dX6_lose_22 : decode cX6_lose 22 = .ok (.iconst 0, 1) := by decide +kernel
theorem dX6_lose_23 : decode cX6_lose 23 = .ok (.ireturn, 1) := by decide +kernel
theorem dX6_lose_24 : decode cX6_lose 24 = .ok (.aload_n 0, 1) := by decide +kernel
theorem dX6_lose_25 : decode cX6_lose 25 = .ok (.getfield 36, 3) := by decide +kernel
theorem dX6_lose_28 : decode cX6_lose 28 = .ok (.iload_n 1, 1) := by decide +kernel
theorem dX6_lose_29 : decode cX6_lose 29 = .ok (.aaload, 1) := by decide +kernel
theorem dX6_lose_30 : decode cX6_lose 30 = .ok (.iconst (-1), 1) := by decide +kernel
theorem dX6_lose_31 : decode cX6_lose 31 = .ok (.putfield 195, 3) := by decide +kernel
theorem dX6_lose_34 : decode cX6_lose 34 = .ok (.iconst 1, 1) := by decide +kernel
theorem dX6_lose_35 : decode cX6_lose 35 = .ok (.ireturn, 1) := by decide +kernel
theorem dX6_put_0 : decode cX6_put 0 = .ok (.aload_n 0, 1) := by decide +kernel
theorem dX6_put_1 : decode cX6_put 1 = .ok (.iconst 0, 1) := by decide +kernel
theorem dX6_put_2 : decode cX6_put 2 = .ok (.putfield 41, 3) := by decide +kernel
theorem dX6_put_5 : decode cX6_put 5 = .ok (.iload_n 1, 1) := by decide +kernel
theorem dX6_put_6 : decode cX6_put 6 = .ok (.invokestatic 45, 3) := by decide +kernel
theorem dX6_put_9 : decode cX6_put 9 = .ok (.ifCond .eq 5, 3) := by decide +kernel
theorem dX6_put_12 : decode cX6_put 12 = .ok (.iconst (-1), 1) := by decide +kernel
theorem dX6_put_13 : decode cX6_put 13 = .ok (.ireturn, 1) := by decide +kernel
theorem dX6_put_14 : decode cX6_put 14 = .ok (.aload_n 0, 1) := by decide +kernel
theorem dX6_put_15 : decode cX6_put 15 = .ok (.getfield 36, 3) := by decide +kernel
theorem dX6_put_18 : decode cX6_put 18 = .ok (.iload_n 1, 1) := by decide +kernel
theorem dX6_put_19 : decode cX6_put 19 = .ok (.aaload, 1) := by decide +kernel
theorem dX6_put_20 : decode cX6_put 20 = .ok (.astore 4, 2) := by decide +kernel
theorem dX6_put_22 : decode cX6_put 22 = .ok (.aload 4, 2) := by decide +kernel
theorem dX6_put_24 : decode cX6_put 24 = .ok (.getfield 195, 3) := by decide +kernel
theorem dX6_put_27 : decode cX6_put 27 = .ok (.iconst (-1), 1) := by decide +kernel
theorem dX6_put_28 : decode cX6_put 28 = .ok (.if_icmp .ne 9, 3) := by decide +kernel
theorem dX6_put_31 : decode cX6_put 31 = .ok (.aload_n 0, 1) := by decide +kernel
theorem dX6_put_32 : decode cX6_put 32 = .ok (.iconst 1, 1) := by decide +kernel
theorem dX6_put_33 : decode cX6_put 33 = .ok (.invokevirtual 60, 3) := by decide +kernel
theorem dX6_put_36 : decode cX6_put 36 = .ok (.ireturn, 1) := by decide +kernel
theorem dX6_put_37 : decode cX6_put 37 = .ok (.aload 4, 2) := by decide +kernel
theorem dX6_put_39 : decode cX6_put 39 = .ok (.iload_n 2, 1) := by decide +kernel
theorem dX6_put_40 : decode cX6_put 40 = .ok (.iconst 1, 1) := by decide +kernel
theorem dX6_put_41 : decode cX6_put 41 = .ok (.invokevirtual 56, 3) := by decide +kernel
theorem dX6_put_44 : decode cX6_put 44 = .ok (.ifCond .ne 9, 3) := by decide +kernel
theorem dX6_put_47 : decode cX6_put 47 = .ok (.aload_n 0, 1) := by decide +kernel
theorem dX6_put_48 : decode cX6_put 48 = .ok (.iconst 3, 1) := by decide +kernel
theorem dX6_put_49 : decode cX6_put 49 = .ok (.invokevirtual 60, 3) := by decide +kernel
theorem dX6_put_52 : decode cX6_put 52 = .ok (.ireturn, 1) := by decide +kernel
theorem dX6_put_53 : decode cX6_put 53 = .ok (.aload 4, 2) := by decide +kernel
theorem dX6_put_55 : decode cX6_put 55 = .ok (.getfield 198, 3) := by decide +kernel
theorem dX6_put_58 : decode cX6_put 58 = .ok (.iload_n 2, 1) := by decide +kernel
theorem dX6_put_59 : decode cX6_put 59 = .ok (.aload 4, 2) := by decide +kernel
theorem dX6_put_61 : decode cX6_put 61 = .ok (.iload_n 3, 1) := by decide +kernel
theorem dX6_put_62 : decode cX6_put 62 = .ok (.invokevirtual 201, 3) := by decide +kernel
theorem dX6_put_65 : decode cX6_put 65 = .ok (.iastore, 1) := by decide +kernel
theorem dX6_put_66 : decode cX6_put 66 = .ok (.iconst 1, 1) := by decide +kernel
theorem dX6_put_67 : decode cX6_put 67 = .ok (.ireturn, 1) := by decide +kernel
theorem dX6_cell_0 : decode cX6_cell 0 = .ok (.aload_n 0, 1) := by decide +kernel
theorem dX6_cell_1 : decode cX6_cell 1 = .ok (.iconst 0, 1) := by decide +kernel
theorem dX6_cell_2 : decode cX6_cell 2 = .ok (.putfield 41, 3) := by decide +kernel
theorem dX6_cell_5 : decode cX6_cell 5 = .ok (.iload_n 1, 1) := by decide +kernel
theorem dX6_cell_6 : decode cX6_cell 6 = .ok (.invokestatic 45, 3) := by decide +kernel
theorem dX6_cell_9 : decode cX6_cell 9 = .ok (.ifCond .ne 10, 3) := by decide +kernel
theorem dX6_cell_12 : decode cX6_cell 12 = .ok (.iload_n 3, 1) := by decide +kernel
theorem dX6_cell_13 : decode cX6_cell 13 = .ok (.invokestatic 49, 3) := by decide +kernel
theorem dX6_cell_16 : decode cX6_cell 16 = .ok (.ifCond .eq 7, 3) := by decide +kernel
theorem dX6_cell_19 : decode cX6_cell 19 = .ok (.ldc2_w 167, 3) := by decide +kernel
theorem dX6_cell_22 : decode cX6_cell 22 = .ok (.lreturn, 1) := by decide +kernel
theorem dX6_cell_23 : decode cX6_cell 23 = .ok (.aload_n 0, 1) := by decide +kernel
theorem dX6_cell_24 : decode cX6_cell 24 = .ok (.getfield 36, 3) := by decide +kernel
theorem dX6_cell_27 : decode cX6_cell 27 = .ok (.iload_n 1, 1) := by decide +kernel
theorem dX6_cell_28 : decode cX6_cell 28 = .ok (.aaload, 1) := by decide +kernel
theorem dX6_cell_29 : decode cX6_cell 29 = .ok (.astore 4, 2) := by decide +kernel
theorem dX6_cell_31 : decode cX6_cell 31 = .ok (.aload 4, 2) := by decide +kernel
theorem dX6_cell_33 : decode cX6_cell 33 = .ok (.iload_n 3, 1) := by decide +kernel
theorem dX6_cell_34 : decode cX6_cell 34 = .ok (.invokevirtual 52, 3) := by decide +kernel
theorem dX6_cell_37 : decode cX6_cell 37 = .ok (.istore 5, 2) := by decide +kernel
theorem dX6_cell_39 : decode cX6_cell 39 = .ok (.iload 5, 2) := by decide +kernel
theorem dX6_cell_41 : decode cX6_cell 41 = .ok (.ifCond .ne 16, 3) := by decide +kernel
theorem dX6_cell_44 : decode cX6_cell 44 = .ok (.aload 4, 2) := by decide +kernel
theorem dX6_cell_46 : decode cX6_cell 46 = .ok (.iload_n 2, 1) := by decide +kernel
theorem dX6_cell_47 : decode cX6_cell 47 = .ok (.iconst 1, 1) := by decide +kernel
theorem dX6_cell_48 : decode cX6_cell 48 = .ok (.invokevirtual 56, 3) := by decide +kernel
theorem dX6_cell_51 : decode cX6_cell 51 = .ok (.ifCond .ne 6, 3) := by decide +kernel
theorem dX6_cell_54 : decode cX6_cell 54 = .ok (.iconst 3, 1) := by decide +kernel
theorem dX6_cell_55 : decode cX6_cell 55 = .ok (.istore 5, 2) := by decide +kernel
theorem dX6_cell_57 : decode cX6_cell 57 = .ok (.aload_n 0, 1) := by decide +kernel
theorem dX6_cell_58 : decode cX6_cell 58 = .ok (.iload 5, 2) := by decide +kernel
theorem dX6_cell_60 : decode cX6_cell 60 = .ok (.putfield 41, 3) := by decide +kernel
theorem dX6_cell_63 : decode cX6_cell 63 = .ok (.iload 5, 2) := by decide +kernel
theorem dX6_cell_65 : decode cX6_cell 65 = .ok (.ifCond .ne 14, 3) := by decide +kernel
theorem dX6_cell_68 : decode cX6_cell 68 = .ok (.aload 4, 2) := by decide +kernel
theorem dX6_cell_70 : decode cX6_cell 70 = .ok (.getfield 198, 3) := by decide +kernel
theorem dX6_cell_73 : decode cX6_cell 73 = .ok (.iload_n 2, 1) := by decide +kernel
theorem dX6_cell_74 : decode cX6_cell 74 = .ok (.iaload, 1) := by decide +kernel
theorem dX6_cell_75 : decode cX6_cell 75 = .ok (.i2l, 1) := by decide +kernel
theorem dX6_cell_76 : decode cX6_cell 76 = .ok (.goto 6, 3) := by decide +kernel
theorem dX6_cell_79 : decode cX6_cell 79 = .ok (.ldc2_w 167, 3) := by decide +kernel
theorem dX6_cell_82 : decode cX6_cell 82 = .ok (.lreturn, 1) := by decide +kernel
theorem dX6_copy_0 : decode cX6_copy 0 = .ok (.aload_n 0, 1) := by decide +kernel
theorem dX6_copy_1 : decode cX6_copy 1 = .ok (.iconst 0, 1) := by decide +kernel
theorem dX6_copy_2 : decode cX6_copy 2 = .ok (.putfield 41, 3) := by decide +kernel
theorem dX6_copy_5 : decode cX6_copy 5 = .ok (.iload_n 1, 1) := by decide +kernel
theorem dX6_copy_6 : decode cX6_copy 6 = .ok (.invokestatic 45, 3) := by decide +kernel
theorem dX6_copy_9 : decode cX6_copy 9 = .ok (.ifCond .ne 10, 3) := by decide +kernel
theorem dX6_copy_12 : decode cX6_copy 12 = .ok (.iload_n 3, 1) := by decide +kernel
theorem dX6_copy_13 : decode cX6_copy 13 = .ok (.invokestatic 45, 3) := by decide +kernel
theorem dX6_copy_16 : decode cX6_copy 16 = .ok (.ifCond .eq 5, 3) := by decide +kernel
theorem dX6_copy_19 : decode cX6_copy 19 = .ok (.iconst (-1), 1) := by decide +kernel
theorem dX6_copy_20 : decode cX6_copy 20 = .ok (.ireturn, 1) := by decide +kernel
theorem dX6_copy_21 : decode cX6_copy 21 = .ok (.aload_n 0, 1) := by decide +kernel
theorem dX6_copy_22 : decode cX6_copy 22 = .ok (.getfield 36, 3) := by decide +kernel
theorem dX6_copy_25 : decode cX6_copy 25 = .ok (.iload_n 1, 1) := by decide +kernel
theorem dX6_copy_26 : decode cX6_copy 26 = .ok (.aaload, 1) := by decide +kernel
theorem dX6_copy_27 : decode cX6_copy 27 = .ok (.astore 6, 2) := by decide +kernel
theorem dX6_copy_29 : decode cX6_copy 29 = .ok (.aload_n 0, 1) := by decide +kernel
theorem dX6_copy_30 : decode cX6_copy 30 = .ok (.getfield 36, 3) := by decide +kernel
theorem dX6_copy_33 : decode cX6_copy 33 = .ok (.iload_n 3, 1) := by decide +kernel
theorem dX6_copy_34 : decode cX6_copy 34 = .ok (.aaload, 1) := by decide +kernel
theorem dX6_copy_35 : decode cX6_copy 35 = .ok (.astore 7, 2) := by decide +kernel
theorem dX6_copy_37 : decode cX6_copy 37 = .ok (.aload 6, 2) := by decide +kernel
theorem dX6_copy_39 : decode cX6_copy 39 = .ok (.getfield 195, 3) := by decide +kernel
theorem dX6_copy_42 : decode cX6_copy 42 = .ok (.iconst (-1), 1) := by decide +kernel
theorem dX6_copy_43 : decode cX6_copy 43 = .ok (.if_icmp .eq 12, 3) := by decide +kernel
theorem dX6_copy_46 : decode cX6_copy 46 = .ok (.aload 7, 2) := by decide +kernel
theorem dX6_copy_48 : decode cX6_copy 48 = .ok (.getfield 195, 3) := by decide +kernel
theorem dX6_copy_51 : decode cX6_copy 51 = .ok (.iconst (-1), 1) := by decide +kernel
theorem dX6_copy_52 : decode cX6_copy 52 = .ok (.if_icmp .ne 9, 3) := by decide +kernel
theorem dX6_copy_55 : decode cX6_copy 55 = .ok (.aload_n 0, 1) := by decide +kernel
theorem dX6_copy_56 : decode cX6_copy 56 = .ok (.iconst 1, 1) := by decide +kernel
theorem dX6_copy_57 : decode cX6_copy 57 = .ok (.invokevirtual 60, 3) := by decide +kernel
theorem dX6_copy_60 : decode cX6_copy 60 = .ok (.ireturn, 1) := by decide +kernel
theorem dX6_copy_61 : decode cX6_copy 61 = .ok (.aload 6, 2) := by decide +kernel
theorem dX6_copy_63 : decode cX6_copy 63 = .ok (.getfield 195, 3) := by decide +kernel
theorem dX6_copy_66 : decode cX6_copy 66 = .ok (.aload 7, 2) := by decide +kernel
theorem dX6_copy_68 : decode cX6_copy 68 = .ok (.getfield 195, 3) := by decide +kernel
theorem dX6_copy_71 : decode cX6_copy 71 = .ok (.if_icmp .eq 9, 3) := by decide +kernel
theorem dX6_copy_74 : decode cX6_copy 74 = .ok (.aload_n 0, 1) := by decide +kernel
theorem dX6_copy_75 : decode cX6_copy 75 = .ok (.iconst 2, 1) := by decide +kernel
theorem dX6_copy_76 : decode cX6_copy 76 = .ok (.invokevirtual 60, 3) := by decide +kernel
theorem dX6_copy_79 : decode cX6_copy 79 = .ok (.ireturn, 1) := by decide +kernel
theorem dX6_copy_80 : decode cX6_copy 80 = .ok (.aload 6, 2) := by decide +kernel
theorem dX6_copy_82 : decode cX6_copy 82 = .ok (.iload_n 2, 1) := by decide +kernel
theorem dX6_copy_83 : decode cX6_copy 83 = .ok (.iload 5, 2) := by decide +kernel
theorem dX6_copy_85 : decode cX6_copy 85 = .ok (.invokevirtual 56, 3) := by decide +kernel
theorem dX6_copy_88 : decode cX6_copy 88 = .ok (.ifCond .eq 15, 3) := by decide +kernel
theorem dX6_copy_91 : decode cX6_copy 91 = .ok (.aload 7, 2) := by decide +kernel
theorem dX6_copy_93 : decode cX6_copy 93 = .ok (.iload 4, 2) := by decide +kernel
theorem dX6_copy_95 : decode cX6_copy 95 = .ok (.iload 5, 2) := by decide +kernel
theorem dX6_copy_97 : decode cX6_copy 97 = .ok (.invokevirtual 56, 3) := by decide +kernel
theorem dX6_copy_100 : decode cX6_copy 100 = .ok (.ifCond .ne 9, 3) := by decide +kernel
theorem dX6_copy_103 : decode cX6_copy 103 = .ok (.aload_n 0, 1) := by decide +kernel
theorem dX6_copy_104 : decode cX6_copy 104 = .ok (.iconst 3, 1) := by decide +kernel
theorem dX6_copy_105 : decode cX6_copy 105 = .ok (.invokevirtual 60, 3) := by decide +kernel
theorem dX6_copy_108 : decode cX6_copy 108 = .ok (.ireturn, 1) := by decide +kernel
theorem dX6_copy_109 : decode cX6_copy 109 = .ok (.aload 6, 2) := by decide +kernel
theorem dX6_copy_111 : decode cX6_copy 111 = .ok (.getfield 198, 3) := by decide +kernel
theorem dX6_copy_114 : decode cX6_copy 114 = .ok (.iload_n 2, 1) := by decide +kernel
theorem dX6_copy_115 : decode cX6_copy 115 = .ok (.aload 7, 2) := by decide +kernel
theorem dX6_copy_117 : decode cX6_copy 117 = .ok (.getfield 198, 3) := by decide +kernel
theorem dX6_copy_120 : decode cX6_copy 120 = .ok (.iload 4, 2) := by decide +kernel
theorem dX6_copy_122 : decode cX6_copy 122 = .ok (.iload 5, 2) := by decide +kernel
theorem dX6_copy_124 : decode cX6_copy 124 = .ok (.invokestatic 204, 3) := by decide +kernel
theorem dX6_copy_127 : decode cX6_copy 127 = .ok (.iload 5, 2) := by decide +kernel
theorem dX6_copy_129 : decode cX6_copy 129 = .ok (.ireturn, 1) := by decide +kernel
theorem dX6_tell_0 : decode cX6_tell 0 = .ok (.aload_n 0, 1) := by decide +kernel
theorem dX6_tell_1 : decode cX6_tell 1 = .ok (.iload_n 1, 1) := by decide +kernel
theorem dX6_tell_2 : decode cX6_tell 2 = .ok (.invokevirtual 79, 3) := by decide +kernel
theorem dX6_tell_5 : decode cX6_tell 5 = .ok (.ifCond .eq 5, 3) := by decide +kernel
theorem dX6_tell_8 : decode cX6_tell 8 = .ok (.iconst (-1), 1) := by decide +kernel
theorem dX6_tell_9 : decode cX6_tell 9 = .ok (.ireturn, 1) := by decide +kernel
theorem dX6_tell_10 : decode cX6_tell 10 = .ok (.aload_n 0, 1) := by decide +kernel
theorem dX6_tell_11 : decode cX6_tell 11 = .ok (.getfield 12, 3) := by decide +kernel
theorem dX6_tell_14 : decode cX6_tell 14 = .ok (.getfield 82, 3) := by decide +kernel
theorem dX6_tell_17 : decode cX6_tell 17 = .ok (.iload_n 1, 1) := by decide +kernel
theorem dX6_tell_18 : decode cX6_tell 18 = .ok (.aaload, 1) := by decide +kernel
theorem dX6_tell_19 : decode cX6_tell 19 = .ok (.astore_n 2, 1) := by decide +kernel
theorem dX6_tell_20 : decode cX6_tell 20 = .ok (.aload_n 2, 1) := by decide +kernel
theorem dX6_tell_21 : decode cX6_tell 21 = .ok (.getfield 86, 3) := by decide +kernel
theorem dX6_tell_24 : decode cX6_tell 24 = .ok (.iconst 2, 1) := by decide +kernel
theorem dX6_tell_25 : decode cX6_tell 25 = .ok (.if_icmp .ne 9, 3) := by decide +kernel
theorem dX6_tell_28 : decode cX6_tell 28 = .ok (.aload_n 0, 1) := by decide +kernel
theorem dX6_tell_29 : decode cX6_tell 29 = .ok (.aload_n 2, 1) := by decide +kernel
theorem dX6_tell_30 : decode cX6_tell 30 = .ok (.invokevirtual 210, 3) := by decide +kernel
theorem dX6_tell_33 : decode cX6_tell 33 = .ok (.ireturn, 1) := by decide +kernel
theorem dX6_tell_34 : decode cX6_tell 34 = .ok (.aload_n 2, 1) := by decide +kernel
theorem dX6_tell_35 : decode cX6_tell 35 = .ok (.getfield 86, 3) := by decide +kernel
theorem dX6_tell_38 : decode cX6_tell 38 = .ok (.iconst 1, 1) := by decide +kernel
theorem dX6_tell_39 : decode cX6_tell 39 = .ok (.if_icmp .ne 11, 3) := by decide +kernel
theorem dX6_tell_42 : decode cX6_tell 42 = .ok (.aload_n 0, 1) := by decide +kernel
theorem dX6_tell_43 : decode cX6_tell 43 = .ok (.aload_n 2, 1) := by decide +kernel
theorem dX6_tell_44 : decode cX6_tell 44 = .ok (.invokevirtual 214, 3) := by decide +kernel
theorem dX6_tell_47 : decode cX6_tell 47 = .ok (.goto 8, 3) := by decide +kernel
theorem dX6_tell_50 : decode cX6_tell 50 = .ok (.aload_n 0, 1) := by decide +kernel
theorem dX6_tell_51 : decode cX6_tell 51 = .ok (.aload_n 2, 1) := by decide +kernel
theorem dX6_tell_52 : decode cX6_tell 52 = .ok (.invokevirtual 217, 3) := by decide +kernel
theorem dX6_tell_55 : decode cX6_tell 55 = .ok (.ireturn, 1) := by decide +kernel
theorem dX6_knock_0 : decode cX6_knock 0 = .ok (.aload_n 0, 1) := by decide +kernel
theorem dX6_knock_1 : decode cX6_knock 1 = .ok (.iload_n 1, 1) := by decide +kernel
theorem dX6_knock_2 : decode cX6_knock 2 = .ok (.invokevirtual 79, 3) := by decide +kernel
theorem dX6_knock_5 : decode cX6_knock 5 = .ok (.ifCond .eq 5, 3) := by decide +kernel
theorem dX6_knock_8 : decode cX6_knock 8 = .ok (.iconst (-1), 1) := by decide +kernel
theorem dX6_knock_9 : decode cX6_knock 9 = .ok (.ireturn, 1) := by decide +kernel
theorem dX6_knock_10 : decode cX6_knock 10 = .ok (.aload_n 0, 1) := by decide +kernel
theorem dX6_knock_11 : decode cX6_knock 11 = .ok (.getfield 12, 3) := by decide +kernel
theorem dX6_knock_14 : decode cX6_knock 14 = .ok (.getfield 82, 3) := by decide +kernel
theorem dX6_knock_17 : decode cX6_knock 17 = .ok (.iload_n 1, 1) := by decide +kernel
theorem dX6_knock_18 : decode cX6_knock 18 = .ok (.aaload, 1) := by decide +kernel
theorem dX6_knock_19 : decode cX6_knock 19 = .ok (.getfield 86, 3) := by decide +kernel
theorem dX6_knock_22 : decode cX6_knock 22 = .ok (.iconst 2, 1) := by decide +kernel
theorem dX6_knock_23 : decode cX6_knock 23 = .ok (.if_icmp .ne 11, 3) := by decide +kernel
theorem dX6_knock_26 : decode cX6_knock 26 = .ok (.aload_n 0, 1) := by decide +kernel
theorem dX6_knock_27 : decode cX6_knock 27 = .ok (.iconst 5, 1) := by decide +kernel
theorem dX6_knock_28 : decode cX6_knock 28 = .ok (.invokevirtual 220, 3) := by decide +kernel
theorem dX6_knock_31 : decode cX6_knock 31 = .ok (.bipush 70, 2) := by decide +kernel
theorem dX6_knock_33 : decode cX6_knock 33 = .ok (.ireturn, 1) := by decide +kernel
theorem dX6_knock_34 : decode cX6_knock 34 = .ok (.aload_n 0, 1) := by decide +kernel
theorem dX6_knock_35 : decode cX6_knock 35 = .ok (.iconst 4, 1) := by decide +kernel
theorem dX6_knock_36 : decode cX6_knock 36 = .ok (.invokevirtual 220, 3) := by decide +kernel
theorem dX6_knock_39 : decode cX6_knock 39 = .ok (.iload_n 1, 1) := by decide +kernel
theorem dX6_knock_40 : decode cX6_knock 40 = .ok (.ireturn, 1) := by decide +kernel
theorem dX6_as_0 : decode cX6_as 0 = .ok (.aload_n 0, 1) := by decide +kernel
theorem dX6_as_1 : decode cX6_as 1 = .ok (.iconst 0, 1) := by decide +kernel
theorem dX6_as_2 : decode cX6_as 2 = .ok (.putfield 41, 3) := by decide +kernel
theorem dX6_as_5 : decode cX6_as 5 = .ok (.aload_n 0, 1) := by decide +kernel
theorem dX6_as_6 : decode cX6_as 6 = .ok (.iload_n 1, 1) := by decide +kernel
theorem dX6_as_7 : decode cX6_as 7 = .ok (.invokevirtual 79, 3) := by decide +kernel
theorem dX6_as_10 : decode cX6_as 10 = .ok (.ifCond .eq 5, 3) := by decide +kernel
theorem dX6_as_13 : decode cX6_as 13 = .ok (.iconst (-1), 1) := by decide +kernel
theorem dX6_as_14 : decode cX6_as 14 = .ok (.ireturn, 1) := by decide +kernel
theorem dX6_as_15 : decode cX6_as 15 = .ok (.iconst 0, 1) := by decide +kernel
theorem dX6_as_16 : decode cX6_as 16 = .ok (.iload_n 2, 1) := by decide +kernel
theorem dX6_as_17 : decode cX6_as 17 = .ok (.iconst 2, 1) := by decide +kernel
theorem dX6_as_18 : decode cX6_as 18 = .ok (.invokestatic 104, 3) := by decide +kernel
theorem dX6_as_21 : decode cX6_as 21 = .ok (.ifCond .eq 6, 3) := by decide +kernel
theorem dX6_as_24 : decode cX6_as 24 = .ok (.bipush (-2), 2) := by decide +kernel
theorem dX6_as_26 : decode cX6_as 26 = .ok (.ireturn, 1) := by decide +kernel
theorem dX6_as_27 : decode cX6_as 27 = .ok (.aload_n 0, 1) := by decide +kernel
theorem dX6_as_28 : decode cX6_as 28 = .ok (.getfield 12, 3) := by decide +kernel
theorem dX6_as_31 : decode cX6_as 31 = .ok (.getfield 82, 3) := by decide +kernel
theorem dX6_as_34 : decode cX6_as 34 = .ok (.iload_n 1, 1) := by decide +kernel
theorem dX6_as_35 : decode cX6_as 35 = .ok (.aaload, 1) := by decide +kernel
theorem dX6_as_36 : decode cX6_as 36 = .ok (.getfield 86, 3) := by decide +kernel
theorem dX6_as_39 : decode cX6_as 39 = .ok (.iload_n 2, 1) := by decide +kernel
theorem dX6_as_40 : decode cX6_as 40 = .ok (.if_icmp .ge 11, 3) := by decide +kernel
theorem dX6_as_43 : decode cX6_as 43 = .ok (.aload_n 0, 1) := by decide +kernel
theorem dX6_as_44 : decode cX6_as 44 = .ok (.iconst 2, 1) := by decide +kernel
theorem dX6_as_45 : decode cX6_as 45 = .ok (.invokevirtual 60, 3) := by decide +kernel
theorem dX6_as_48 : decode cX6_as 48 = .ok (.goto 4, 3) := by decide +kernel
theorem dX6_as_51 : decode cX6_as 51 = .ok (.iconst 1, 1) := by decide +kernel
theorem dX6_as_52 : decode cX6_as 52 = .ok (.ireturn, 1) := by decide +kernel
theorem dX6_trace_0 : decode cX6_trace 0 = .ok (.aload_n 0, 1) := by decide +kernel
theorem dX6_trace_1 : decode cX6_trace 1 = .ok (.getfield 223, 3) := by decide +kernel
theorem dX6_trace_4 : decode cX6_trace 4 = .ok (.ireturn, 1) := by decide +kernel
theorem dX6_fault_0 : decode cX6_fault 0 = .ok (.aload_n 0, 1) := by decide +kernel
theorem dX6_fault_1 : decode cX6_fault 1 = .ok (.getfield 41, 3) := by decide +kernel
theorem dX6_fault_4 : decode cX6_fault 4 = .ok (.ireturn, 1) := by decide +kernel
theorem dX6_many_0 : decode cX6_many 0 = .ok (.iload_n 1, 1) := by decide +kernel
theorem dX6_many_1 : decode cX6_many 1 = .ok (.tableswitch 75 0 4 #[35, 43, 51, 59, 67], 35) := by decide +kernel
theorem dX6_many_36 : decode cX6_many 36 = .ok (.aload_n 0, 1) := by decide +kernel
theorem dX6_many_37 : decode cX6_many 37 = .ok (.getfield 12, 3) := by decide +kernel
theorem dX6_many_40 : decode cX6_many 40 = .ok (.getfield 76, 3) := by decide +kernel
theorem dX6_many_43 : decode cX6_many 43 = .ok (.ireturn, 1) := by decide +kernel
theorem dX6_many_44 : decode cX6_many 44 = .ok (.aload_n 0, 1) := by decide +kernel
theorem dX6_many_45 : decode cX6_many 45 = .ok (.getfield 12, 3) := by decide +kernel
theorem dX6_many_48 : decode cX6_many 48 = .ok (.getfield 112, 3) := by decide +kernel
theorem dX6_many_51 : decode cX6_many 51 = .ok (.ireturn, 1) := by decide +kernel
theorem dX6_many_52 : decode cX6_many 52 = .ok (.aload_n 0, 1) := by decide +kernel
theorem dX6_many_53 : decode cX6_many 53 = .ok (.getfield 12, 3) := by decide +kernel
theorem dX6_many_56 : decode cX6_many 56 = .ok (.getfield 226, 3) := by decide +kernel
theorem dX6_many_59 : decode cX6_many 59 = .ok (.ireturn, 1) := by decide +kernel
theorem dX6_many_60 : decode cX6_many 60 = .ok (.aload_n 0, 1) := by decide +kernel
theorem dX6_many_61 : decode cX6_many 61 = .ok (.getfield 12, 3) := by decide +kernel
theorem dX6_many_64 : decode cX6_many 64 = .ok (.getfield 125, 3) := by decide +kernel
theorem dX6_many_67 : decode cX6_many 67 = .ok (.ireturn, 1) := by decide +kernel
theorem dX6_many_68 : decode cX6_many 68 = .ok (.aload_n 0, 1) := by decide +kernel
theorem dX6_many_69 : decode cX6_many 69 = .ok (.getfield 30, 3) := by decide +kernel
theorem dX6_many_72 : decode cX6_many 72 = .ok (.getfield 73, 3) := by decide +kernel
theorem dX6_many_75 : decode cX6_many 75 = .ok (.ireturn, 1) := by decide +kernel
theorem dX6_many_76 : decode cX6_many 76 = .ok (.bipush (-2), 2) := by decide +kernel
theorem dX6_many_78 : decode cX6_many 78 = .ok (.ireturn, 1) := by decide +kernel
theorem dX6_noYard_0 : decode cX6_noYard 0 = .ok (.aload_n 0, 1) := by decide +kernel
theorem dX6_noYard_1 : decode cX6_noYard 1 = .ok (.getfield 12, 3) := by decide +kernel
theorem dX6_noYard_4 : decode cX6_noYard 4 = .ok (.getfield 76, 3) := by decide +kernel
theorem dX6_noYard_7 : decode cX6_noYard 7 = .ok (.ifCond .ne 7, 3) := by decide +kernel
theorem dX6_noYard_10 : decode cX6_noYard 10 = .ok (.iconst 1, 1) := by decide +kernel
theorem dX6_noYard_11 : decode cX6_noYard 11 = .ok (.goto 4, 3) := by decide +kernel
theorem dX6_noYard_14 : decode cX6_noYard 14 = .ok (.iconst 0, 1) := by decide +kernel
theorem dX6_noYard_15 : decode cX6_noYard 15 = .ok (.ireturn, 1) := by decide +kernel
theorem dX6_noTap_0 : decode cX6_noTap 0 = .ok (.iload_n 1, 1) := by decide +kernel
theorem dX6_noTap_1 : decode cX6_noTap 1 = .ok (.ifCond .lt 14, 3) := by decide +kernel
theorem dX6_noTap_4 : decode cX6_noTap 4 = .ok (.iload_n 1, 1) := by decide +kernel
theorem dX6_noTap_5 : decode cX6_noTap 5 = .ok (.aload_n 0, 1) := by decide +kernel
theorem dX6_noTap_6 : decode cX6_noTap 6 = .ok (.getfield 12, 3) := by decide +kernel
theorem dX6_noTap_9 : decode cX6_noTap 9 = .ok (.getfield 76, 3) := by decide +kernel
theorem dX6_noTap_12 : decode cX6_noTap 12 = .ok (.if_icmp .lt 7, 3) := by decide +kernel
theorem dX6_noTap_15 : decode cX6_noTap 15 = .ok (.iconst 1, 1) := by decide +kernel
theorem dX6_noTap_16 : decode cX6_noTap 16 = .ok (.goto 4, 3) := by decide +kernel
theorem dX6_noTap_19 : decode cX6_noTap 19 = .ok (.iconst 0, 1) := by decide +kernel
theorem dX6_noTap_20 : decode cX6_noTap 20 = .ok (.ireturn, 1) := by decide +kernel
theorem dX6_noDay_0 : decode cX6_noDay 0 = .ok (.iconst 0, 1) := by decide +kernel
theorem dX6_noDay_1 : decode cX6_noDay 1 = .ok (.iload_n 0, 1) := by decide +kernel
theorem dX6_noDay_2 : decode cX6_noDay 2 = .ok (.bipush 9, 2) := by decide +kernel
theorem dX6_noDay_4 : decode cX6_noDay 4 = .ok (.invokestatic 104, 3) := by decide +kernel
theorem dX6_noDay_7 : decode cX6_noDay 7 = .ok (.ireturn, 1) := by decide +kernel
theorem dX6_noSheet_0 : decode cX6_noSheet 0 = .ok (.iconst 0, 1) := by decide +kernel
theorem dX6_noSheet_1 : decode cX6_noSheet 1 = .ok (.iload_n 0, 1) := by decide +kernel
theorem dX6_noSheet_2 : decode cX6_noSheet 2 = .ok (.iconst 3, 1) := by decide +kernel
theorem dX6_noSheet_3 : decode cX6_noSheet 3 = .ok (.invokestatic 104, 3) := by decide +kernel
theorem dX6_noSheet_6 : decode cX6_noSheet 6 = .ok (.ireturn, 1) := by decide +kernel
theorem dX6_noLane_0 : decode cX6_noLane 0 = .ok (.iconst 0, 1) := by decide +kernel
theorem dX6_noLane_1 : decode cX6_noLane 1 = .ok (.iload_n 0, 1) := by decide +kernel
theorem dX6_noLane_2 : decode cX6_noLane 2 = .ok (.iconst 2, 1) := by decide +kernel
theorem dX6_noLane_3 : decode cX6_noLane 3 = .ok (.invokestatic 104, 3) := by decide +kernel
theorem dX6_noLane_6 : decode cX6_noLane 6 = .ok (.ireturn, 1) := by decide +kernel
theorem dX6_isNot_0 : decode cX6_isNot 0 = .ok (.iload_n 1, 1) := by decide +kernel
theorem dX6_isNot_1 : decode cX6_isNot 1 = .ok (.iload_n 0, 1) := by decide +kernel
theorem dX6_isNot_2 : decode cX6_isNot 2 = .ok (.if_icmp .lt 8, 3) := by decide +kernel
theorem dX6_isNot_5 : decode cX6_isNot 5 = .ok (.iload_n 1, 1) := by decide +kernel
theorem dX6_isNot_6 : decode cX6_isNot 6 = .ok (.iload_n 2, 1) := by decide +kernel
theorem dX6_isNot_7 : decode cX6_isNot 7 = .ok (.if_icmp .le 7, 3) := by decide +kernel
theorem dX6_isNot_10 : decode cX6_isNot 10 = .ok (.iconst 1, 1) := by decide +kernel
theorem dX6_isNot_11 : decode cX6_isNot 11 = .ok (.goto 4, 3) := by decide +kernel
theorem dX6_isNot_14 : decode cX6_isNot 14 = .ok (.iconst 0, 1) := by decide +kernel
theorem dX6_isNot_15 : decode cX6_isNot 15 = .ok (.ireturn, 1) := by decide +kernel
theorem dX6_failBy_0 : decode cX6_failBy 0 = .ok (.aload_n 0, 1) := by decide +kernel
theorem dX6_failBy_1 : decode cX6_failBy 1 = .ok (.iload_n 1, 1) := by decide +kernel
theorem dX6_failBy_2 : decode cX6_failBy 2 = .ok (.putfield 41, 3) := by decide +kernel
theorem dX6_failBy_5 : decode cX6_failBy 5 = .ok (.bipush (-10), 2) := by decide +kernel
theorem dX6_failBy_7 : decode cX6_failBy 7 = .ok (.iload_n 1, 1) := by decide +kernel
theorem dX6_failBy_8 : decode cX6_failBy 8 = .ok (.isub, 1) := by decide +kernel
theorem dX6_failBy_9 : decode cX6_failBy 9 = .ok (.ireturn, 1) := by decide +kernel
theorem dX6_passAsTold_0 : decode cX6_passAsTold 0 = .ok (.aload_n 0, 1) := by decide +kernel
theorem dX6_passAsTold_1 : decode cX6_passAsTold 1 = .ok (.getfield 23, 3) := by decide +kernel
theorem dX6_passAsTold_4 : decode cX6_passAsTold 4 = .ok (.aload_n 0, 1) := by decide +kernel
theorem dX6_passAsTold_5 : decode cX6_passAsTold 5 = .ok (.getfield 12, 3) := by decide +kernel
theorem dX6_passAsTold_8 : decode cX6_passAsTold 8 = .ok (.getfield 115, 3) := by decide +kernel
theorem dX6_passAsTold_11 : decode cX6_passAsTold 11 = .ok (.aload_n 0, 1) := by decide +kernel
theorem dX6_passAsTold_12 : decode cX6_passAsTold 12 = .ok (.getfield 12, 3) := by decide +kernel
theorem dX6_passAsTold_15 : decode cX6_passAsTold 15 = .ok (.getfield 125, 3) := by decide +kernel
theorem dX6_passAsTold_18 : decode cX6_passAsTold 18 = .ok (.invokevirtual 157, 3) := by decide +kernel
theorem dX6_passAsTold_21 : decode cX6_passAsTold 21 = .ok (.aload_n 0, 1) := by decide +kernel
theorem dX6_passAsTold_22 : decode cX6_passAsTold 22 = .ok (.getfield 23, 3) := by decide +kernel
theorem dX6_passAsTold_25 : decode cX6_passAsTold 25 = .ok (.iconst 0, 1) := by decide +kernel
theorem dX6_passAsTold_26 : decode cX6_passAsTold 26 = .ok (.iload_n 1, 1) := by decide +kernel
theorem dX6_passAsTold_27 : decode cX6_passAsTold 27 = .ok (.invokevirtual 161, 3) := by decide +kernel
theorem dX6_passAsTold_30 : decode cX6_passAsTold 30 = .ok (.return_, 1) := by decide +kernel
theorem dX6_marksHoldBehind_0 : decode cX6_marksHoldBehind 0 = .ok (.aload_n 0, 1) := by decide +kernel
theorem dX6_marksHoldBehind_1 : decode cX6_marksHoldBehind 1 = .ok (.getfield 30, 3) := by decide +kernel
theorem dX6_marksHoldBehind_4 : decode cX6_marksHoldBehind 4 = .ok (.invokevirtual 229, 3) := by decide +kernel
theorem dX6_marksHoldBehind_7 : decode cX6_marksHoldBehind 7 = .ok (.istore_n 2, 1) := by decide +kernel
theorem dX6_marksHoldBehind_8 : decode cX6_marksHoldBehind 8 = .ok (.iconst 0, 1) := by decide +kernel
theorem dX6_marksHoldBehind_9 : decode cX6_marksHoldBehind 9 = .ok (.istore_n 3, 1) := by decide +kernel
theorem dX6_marksHoldBehind_10 : decode cX6_marksHoldBehind 10 = .ok (.iload_n 3, 1) := by decide +kernel
theorem dX6_marksHoldBehind_11 : decode cX6_marksHoldBehind 11 = .ok (.iload_n 2, 1) := by decide +kernel
theorem dX6_marksHoldBehind_12 : decode cX6_marksHoldBehind 12 = .ok (.if_icmp .gt 59, 3) := by decide +kernel
theorem dX6_marksHoldBehind_15 : decode cX6_marksHoldBehind 15 = .ok (.iload_n 3, 1) := by decide +kernel
theorem dX6_marksHoldBehind_16 : decode cX6_marksHoldBehind 16 = .ok (.iload_n 1, 1) := by decide +kernel
theorem dX6_marksHoldBehind_17 : decode cX6_marksHoldBehind 17 = .ok (.iconst 1, 1) := by decide +kernel
theorem dX6_marksHoldBehind_18 : decode cX6_marksHoldBehind 18 = .ok (.iadd, 1) := by decide +kernel
theorem dX6_marksHoldBehind_19 : decode cX6_marksHoldBehind 19 = .ok (.if_icmp .le 24, 3) := by decide +kernel
theorem dX6_marksHoldBehind_22 : decode cX6_marksHoldBehind 22 = .ok (.aload_n 0, 1) := by decide +kernel
theorem dX6_marksHoldBehind_23 : decode cX6_marksHoldBehind 23 = .ok (.getfield 23, 3) := by decide +kernel
theorem dX6_marksHoldBehind_26 : decode cX6_marksHoldBehind 26 = .ok (.iload_n 3, 1) := by decide +kernel
theorem dX6_marksHoldBehind_27 : decode cX6_marksHoldBehind 27 = .ok (.iconst 1, 1) := by decide +kernel
theorem dX6_marksHoldBehind_28 : decode cX6_marksHoldBehind 28 = .ok (.isub, 1) := by decide +kernel
theorem dX6_marksHoldBehind_29 : decode cX6_marksHoldBehind 29 = .ok (.aload_n 0, 1) := by decide +kernel
theorem dX6_marksHoldBehind_30 : decode cX6_marksHoldBehind 30 = .ok (.getfield 12, 3) := by decide +kernel
theorem dX6_marksHoldBehind_33 : decode cX6_marksHoldBehind 33 = .ok (.getfield 121, 3) := by decide +kernel
theorem dX6_marksHoldBehind_36 : decode cX6_marksHoldBehind 36 = .ok (.iload_n 3, 1) := by decide +kernel
theorem dX6_marksHoldBehind_37 : decode cX6_marksHoldBehind 37 = .ok (.iconst 1, 1) := by decide +kernel
theorem dX6_marksHoldBehind_38 : decode cX6_marksHoldBehind 38 = .ok (.isub, 1) := by decide +kernel
theorem dX6_marksHoldBehind_39 : decode cX6_marksHoldBehind 39 = .ok (.iaload, 1) := by decide +kernel
theorem dX6_marksHoldBehind_40 : decode cX6_marksHoldBehind 40 = .ok (.invokevirtual 183, 3) := by decide +kernel
theorem dX6_marksHoldBehind_43 : decode cX6_marksHoldBehind 43 = .ok (.aload_n 0, 1) := by decide +kernel
theorem dX6_marksHoldBehind_44 : decode cX6_marksHoldBehind 44 = .ok (.getfield 30, 3) := by decide +kernel
theorem dX6_marksHoldBehind_47 : decode cX6_marksHoldBehind 47 = .ok (.iload_n 3, 1) := by decide +kernel
theorem dX6_marksHoldBehind_48 : decode cX6_marksHoldBehind 48 = .ok (.aload_n 0, 1) := by decide +kernel
theorem dX6_marksHoldBehind_49 : decode cX6_marksHoldBehind 49 = .ok (.getfield 23, 3) := by decide +kernel
theorem dX6_marksHoldBehind_52 : decode cX6_marksHoldBehind 52 = .ok (.getfield 142, 3) := by decide +kernel
theorem dX6_marksHoldBehind_55 : decode cX6_marksHoldBehind 55 = .ok (.iload_n 3, 1) := by decide +kernel
theorem dX6_marksHoldBehind_56 : decode cX6_marksHoldBehind 56 = .ok (.iaload, 1) := by decide +kernel
theorem dX6_marksHoldBehind_57 : decode cX6_marksHoldBehind 57 = .ok (.invokevirtual 232, 3) := by decide +kernel
theorem dX6_marksHoldBehind_60 : decode cX6_marksHoldBehind 60 = .ok (.ifCond .ne 5, 3) := by decide +kernel
theorem dX6_marksHoldBehind_63 : decode cX6_marksHoldBehind 63 = .ok (.iconst 0, 1) := by decide +kernel
theorem dX6_marksHoldBehind_64 : decode cX6_marksHoldBehind 64 = .ok (.ireturn, 1) := by decide +kernel
theorem dX6_marksHoldBehind_65 : decode cX6_marksHoldBehind 65 = .ok (.iinc 3 1, 3) := by decide +kernel
theorem dX6_marksHoldBehind_68 : decode cX6_marksHoldBehind 68 = .ok (.goto (-58), 3) := by decide +kernel
theorem dX6_marksHoldBehind_71 : decode cX6_marksHoldBehind 71 = .ok (.iconst 1, 1) := by decide +kernel
theorem dX6_marksHoldBehind_72 : decode cX6_marksHoldBehind 72 = .ok (.ireturn, 1) := by decide +kernel
theorem dX6_dryRows_0 : decode cX6_dryRows 0 = .ok (.iload 5, 2) := by decide +kernel
theorem dX6_dryRows_2 : decode cX6_dryRows 2 = .ok (.iload_n 2, 1) := by decide +kernel
theorem dX6_dryRows_3 : decode cX6_dryRows 3 = .ok (.if_icmp .lt 5, 3) := by decide +kernel
theorem dX6_dryRows_6 : decode cX6_dryRows 6 = .ok (.iconst 0, 1) := by decide +kernel
theorem dX6_dryRows_7 : decode cX6_dryRows 7 = .ok (.ireturn, 1) := by decide +kernel
theorem dX6_dryRows_8 : decode cX6_dryRows 8 = .ok (.iconst 0, 1) := by decide +kernel
theorem dX6_dryRows_9 : decode cX6_dryRows 9 = .ok (.istore 6, 2) := by decide +kernel
theorem dX6_dryRows_11 : decode cX6_dryRows 11 = .ok (.iconst 0, 1) := by decide +kernel
theorem dX6_dryRows_12 : decode cX6_dryRows 12 = .ok (.istore 7, 2) := by decide +kernel
theorem dX6_dryRows_14 : decode cX6_dryRows 14 = .ok (.iload 7, 2) := by decide +kernel
theorem dX6_dryRows_16 : decode cX6_dryRows 16 = .ok (.iconst 2, 1) := by decide +kernel
theorem dX6_dryRows_17 : decode cX6_dryRows 17 = .ok (.if_icmp .ge 65, 3) := by decide +kernel
theorem dX6_dryRows_20 : decode cX6_dryRows 20 = .ok (.aload_n 0, 1) := by decide +kernel
theorem dX6_dryRows_21 : decode cX6_dryRows 21 = .ok (.iload 5, 2) := by decide +kernel
theorem dX6_dryRows_23 : decode cX6_dryRows 23 = .ok (.iload 7, 2) := by decide +kernel
theorem dX6_dryRows_25 : decode cX6_dryRows 25 = .ok (.ifCond .ne 7, 3) := by decide +kernel
theorem dX6_dryRows_28 : decode cX6_dryRows 28 = .ok (.iload_n 3, 1) := by decide +kernel
theorem dX6_dryRows_29 : decode cX6_dryRows 29 = .ok (.goto 5, 3) := by decide +kernel
theorem dX6_dryRows_32 : decode cX6_dryRows 32 = .ok (.iload 4, 2) := by decide +kernel
theorem dX6_dryRows_34 : decode cX6_dryRows 34 = .ok (.invokevirtual 183, 3) := by decide +kernel
theorem dX6_dryRows_37 : decode cX6_dryRows 37 = .ok (.iload 6, 2) := by decide +kernel
theorem dX6_dryRows_39 : decode cX6_dryRows 39 = .ok (.aload_n 0, 1) := by decide +kernel
theorem dX6_dryRows_40 : decode cX6_dryRows 40 = .ok (.iload_n 1, 1) := by decide +kernel
theorem dX6_dryRows_41 : decode cX6_dryRows 41 = .ok (.iload 5, 2) := by decide +kernel
theorem dX6_dryRows_43 : decode cX6_dryRows 43 = .ok (.invokevirtual 235, 3) := by decide +kernel
theorem dX6_dryRows_46 : decode cX6_dryRows 46 = .ok (.ifCond .eq 14, 3) := by decide +kernel
theorem dX6_dryRows_49 : decode cX6_dryRows 49 = .ok (.iconst 1, 1) := by decide +kernel
theorem dX6_dryRows_50 : decode cX6_dryRows 50 = .ok (.iload_n 2, 1) := by decide +kernel
theorem dX6_dryRows_51 : decode cX6_dryRows 51 = .ok (.iconst 1, 1) := by decide +kernel
theorem dX6_dryRows_52 : decode cX6_dryRows 52 = .ok (.isub, 1) := by decide +kernel
theorem dX6_dryRows_53 : decode cX6_dryRows 53 = .ok (.iload 5, 2) := by decide +kernel
theorem dX6_dryRows_55 : decode cX6_dryRows 55 = .ok (.isub, 1) := by decide +kernel
theorem dX6_dryRows_56 : decode cX6_dryRows 56 = .ok (.ishl, 1) := by decide +kernel
theorem dX6_dryRows_57 : decode cX6_dryRows 57 = .ok (.goto 16, 3) := by decide +kernel
theorem dX6_dryRows_60 : decode cX6_dryRows 60 = .ok (.aload_n 0, 1) := by decide +kernel
theorem dX6_dryRows_61 : decode cX6_dryRows 61 = .ok (.iload_n 1, 1) := by decide +kernel
theorem dX6_dryRows_62 : decode cX6_dryRows 62 = .ok (.iload_n 2, 1) := by decide +kernel
theorem dX6_dryRows_63 : decode cX6_dryRows 63 = .ok (.iload_n 3, 1) := by decide +kernel
theorem dX6_dryRows_64 : decode cX6_dryRows 64 = .ok (.iload 4, 2) := by decide +kernel
theorem dX6_dryRows_66 : decode cX6_dryRows 66 = .ok (.iload 5, 2) := by decide +kernel
theorem dX6_dryRows_68 : decode cX6_dryRows 68 = .ok (.iconst 1, 1) := by decide +kernel
theorem dX6_dryRows_69 : decode cX6_dryRows 69 = .ok (.iadd, 1) := by decide +kernel
theorem dX6_dryRows_70 : decode cX6_dryRows 70 = .ok (.invokestatic 176, 3) := by decide +kernel
theorem dX6_dryRows_73 : decode cX6_dryRows 73 = .ok (.iadd, 1) := by decide +kernel
theorem dX6_dryRows_74 : decode cX6_dryRows 74 = .ok (.istore 6, 2) := by decide +kernel
theorem dX6_dryRows_76 : decode cX6_dryRows 76 = .ok (.iinc 7 1, 3) := by decide +kernel
theorem dX6_dryRows_79 : decode cX6_dryRows 79 = .ok (.goto (-65), 3) := by decide +kernel
theorem dX6_dryRows_82 : decode cX6_dryRows 82 = .ok (.iload 6, 2) := by decide +kernel
theorem dX6_dryRows_84 : decode cX6_dryRows 84 = .ok (.ireturn, 1) := by decide +kernel
theorem dX6_inLeastTerms_0 : decode cX6_inLeastTerms 0 = .ok (.iload_n 1, 1) := by decide +kernel
theorem dX6_inLeastTerms_1 : decode cX6_inLeastTerms 1 = .ok (.istore_n 3, 1) := by decide +kernel
theorem dX6_inLeastTerms_2 : decode cX6_inLeastTerms 2 = .ok (.iload_n 0, 1) := by decide +kernel
theorem dX6_inLeastTerms_3 : decode cX6_inLeastTerms 3 = .ok (.istore 4, 2) := by decide +kernel
theorem dX6_inLeastTerms_5 : decode cX6_inLeastTerms 5 = .ok (.iconst 0, 1) := by decide +kernel
theorem dX6_inLeastTerms_6 : decode cX6_inLeastTerms 6 = .ok (.istore 5, 2) := by decide +kernel
theorem dX6_inLeastTerms_8 : decode cX6_inLeastTerms 8 = .ok (.iload 5, 2) := by decide +kernel
theorem dX6_inLeastTerms_10 : decode cX6_inLeastTerms 10 = .ok (.bipush 100, 2) := by decide +kernel
theorem dX6_inLeastTerms_12 : decode cX6_inLeastTerms 12 = .ok (.if_icmp .ge 27, 3) := by decide +kernel
theorem dX6_inLeastTerms_15 : decode cX6_inLeastTerms 15 = .ok (.iload 4, 2) := by decide +kernel
theorem dX6_inLeastTerms_17 : decode cX6_inLeastTerms 17 = .ok (.ifCond .le 22, 3) := by decide +kernel
theorem dX6_inLeastTerms_20 : decode cX6_inLeastTerms 20 = .ok (.iload_n 3, 1) := by decide +kernel
theorem dX6_inLeastTerms_21 : decode cX6_inLeastTerms 21 = .ok (.iload 4, 2) := by decide +kernel
theorem dX6_inLeastTerms_23 : decode cX6_inLeastTerms 23 = .ok (.irem, 1) := by decide +kernel
theorem dX6_inLeastTerms_24 : decode cX6_inLeastTerms 24 = .ok (.istore 6, 2) := by decide +kernel
theorem dX6_inLeastTerms_26 : decode cX6_inLeastTerms 26 = .ok (.iload 4, 2) := by decide +kernel
theorem dX6_inLeastTerms_28 : decode cX6_inLeastTerms 28 = .ok (.istore_n 3, 1) := by decide +kernel
theorem dX6_inLeastTerms_29 : decode cX6_inLeastTerms 29 = .ok (.iload 6, 2) := by decide +kernel
theorem dX6_inLeastTerms_31 : decode cX6_inLeastTerms 31 = .ok (.istore 4, 2) := by decide +kernel
theorem dX6_inLeastTerms_33 : decode cX6_inLeastTerms 33 = .ok (.iinc 5 1, 3) := by decide +kernel
theorem dX6_inLeastTerms_36 : decode cX6_inLeastTerms 36 = .ok (.goto (-28), 3) := by decide +kernel
theorem dX6_inLeastTerms_39 : decode cX6_inLeastTerms 39 = .ok (.iload_n 2, 1) := by decide +kernel
theorem dX6_inLeastTerms_40 : decode cX6_inLeastTerms 40 = .ok (.ifCond .ne 7, 3) := by decide +kernel
theorem dX6_inLeastTerms_43 : decode cX6_inLeastTerms 43 = .ok (.iload_n 0, 1) := by decide +kernel
theorem dX6_inLeastTerms_44 : decode cX6_inLeastTerms 44 = .ok (.goto 4, 3) := by decide +kernel
theorem dX6_inLeastTerms_47 : decode cX6_inLeastTerms 47 = .ok (.iload_n 1, 1) := by decide +kernel
theorem dX6_inLeastTerms_48 : decode cX6_inLeastTerms 48 = .ok (.istore 5, 2) := by decide +kernel
theorem dX6_inLeastTerms_50 : decode cX6_inLeastTerms 50 = .ok (.iload_n 3, 1) := by decide +kernel
theorem dX6_inLeastTerms_51 : decode cX6_inLeastTerms 51 = .ok (.ifCond .le 11, 3) := by decide +kernel
theorem dX6_inLeastTerms_54 : decode cX6_inLeastTerms 54 = .ok (.iload 5, 2) := by decide +kernel
theorem dX6_inLeastTerms_56 : decode cX6_inLeastTerms 56 = .ok (.iload_n 3, 1) := by decide +kernel
theorem dX6_inLeastTerms_57 : decode cX6_inLeastTerms 57 = .ok (.idiv, 1) := by decide +kernel
theorem dX6_inLeastTerms_58 : decode cX6_inLeastTerms 58 = .ok (.i2l, 1) := by decide +kernel
theorem dX6_inLeastTerms_59 : decode cX6_inLeastTerms 59 = .ok (.goto 6, 3) := by decide +kernel
theorem dX6_inLeastTerms_62 : decode cX6_inLeastTerms 62 = .ok (.iload 5, 2) := by decide +kernel
theorem dX6_inLeastTerms_64 : decode cX6_inLeastTerms 64 = .ok (.i2l, 1) := by decide +kernel
theorem dX6_inLeastTerms_65 : decode cX6_inLeastTerms 65 = .ok (.lreturn, 1) := by decide +kernel
theorem dX6_familyTells_0 : decode cX6_familyTells 0 = .ok (.aload_n 0, 1) := by decide +kernel
theorem dX6_familyTells_1 : decode cX6_familyTells 1 = .ok (.iconst 1, 1) := by decide +kernel
theorem dX6_familyTells_2 : decode cX6_familyTells 2 = .ok (.invokevirtual 220, 3) := by decide +kernel
theorem dX6_familyTells_5 : decode cX6_familyTells 5 = .ok (.aload_n 1, 1) := by decide +kernel
theorem dX6_familyTells_6 : decode cX6_familyTells 6 = .ok (.getfield 94, 3) := by decide +kernel
theorem dX6_familyTells_9 : decode cX6_familyTells 9 = .ok (.ireturn, 1) := by decide +kernel
theorem dX6_greedyTells_0 : decode cX6_greedyTells 0 = .ok (.aload_n 0, 1) := by decide +kernel
theorem dX6_greedyTells_1 : decode cX6_greedyTells 1 = .ok (.iconst 2, 1) := by decide +kernel
theorem dX6_greedyTells_2 : decode cX6_greedyTells 2 = .ok (.invokevirtual 220, 3) := by decide +kernel
theorem dX6_greedyTells_5 : decode cX6_greedyTells 5 = .ok (.aload_n 0, 1) := by decide +kernel
theorem dX6_greedyTells_6 : decode cX6_greedyTells 6 = .ok (.aload_n 1, 1) := by decide +kernel
theorem dX6_greedyTells_7 : decode cX6_greedyTells 7 = .ok (.invokevirtual 217, 3) := by decide +kernel
theorem dX6_greedyTells_10 : decode cX6_greedyTells 10 = .ok (.bipush 100, 2) := by decide +kernel
theorem dX6_greedyTells_12 : decode cX6_greedyTells 12 = .ok (.iadd, 1) := by decide +kernel
theorem dX6_greedyTells_13 : decode cX6_greedyTells 13 = .ok (.ireturn, 1) := by decide +kernel
theorem dX6_oldestTells_0 : decode cX6_oldestTells 0 = .ok (.aload_n 0, 1) := by decide +kernel
theorem dX6_oldestTells_1 : decode cX6_oldestTells 1 = .ok (.iconst 3, 1) := by decide +kernel
theorem dX6_oldestTells_2 : decode cX6_oldestTells 2 = .ok (.invokevirtual 220, 3) := by decide +kernel
theorem dX6_oldestTells_5 : decode cX6_oldestTells 5 = .ok (.aload_n 0, 1) := by decide +kernel
theorem dX6_oldestTells_6 : decode cX6_oldestTells 6 = .ok (.aload_n 1, 1) := by decide +kernel
theorem dX6_oldestTells_7 : decode cX6_oldestTells 7 = .ok (.invokevirtual 214, 3) := by decide +kernel
theorem dX6_oldestTells_10 : decode cX6_oldestTells 10 = .ok (.istore_n 2, 1) := by decide +kernel
theorem dX6_oldestTells_11 : decode cX6_oldestTells 11 = .ok (.iload_n 2, 1) := by decide +kernel
theorem dX6_oldestTells_12 : decode cX6_oldestTells 12 = .ok (.aload_n 0, 1) := by decide +kernel
theorem dX6_oldestTells_13 : decode cX6_oldestTells 13 = .ok (.aload_n 1, 1) := by decide +kernel
theorem dX6_oldestTells_14 : decode cX6_oldestTells 14 = .ok (.invokevirtual 217, 3) := by decide +kernel
theorem dX6_oldestTells_17 : decode cX6_oldestTells 17 = .ok (.iadd, 1) := by decide +kernel
theorem dX6_oldestTells_18 : decode cX6_oldestTells 18 = .ok (.ireturn, 1) := by decide +kernel
theorem dX6_leaveTrace_0 : decode cX6_leaveTrace 0 = .ok (.aload_n 0, 1) := by decide +kernel
theorem dX6_leaveTrace_1 : decode cX6_leaveTrace 1 = .ok (.bipush 31, 2) := by decide +kernel
theorem dX6_leaveTrace_3 : decode cX6_leaveTrace 3 = .ok (.aload_n 0, 1) := by decide +kernel
theorem dX6_leaveTrace_4 : decode cX6_leaveTrace 4 = .ok (.getfield 223, 3) := by decide +kernel
theorem dX6_leaveTrace_7 : decode cX6_leaveTrace 7 = .ok (.imul, 1) := by decide +kernel
theorem dX6_leaveTrace_8 : decode cX6_leaveTrace 8 = .ok (.iload_n 1, 1) := by decide +kernel
theorem dX6_leaveTrace_9 : decode cX6_leaveTrace 9 = .ok (.iadd, 1) := by decide +kernel
theorem dX6_leaveTrace_10 : decode cX6_leaveTrace 10 = .ok (.putfield 223, 3) := by decide +kernel
theorem dX6_leaveTrace_13 : decode cX6_leaveTrace 13 = .ok (.return_, 1) := by decide +kernel
