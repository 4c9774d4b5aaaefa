theorem dX7_init_0 : decode cX7_init 0 = .ok (.aload_n 0, 1) := by decide +kernel
theorem dX7_init_1 : decode cX7_init 1 = .ok (.invokespecial 1, 3) := by decide +kernel
theorem dX7_init_4 : decode cX7_init 4 = .ok (.aload_n 0, 1) := by decide +kernel
theorem dX7_init_5 : decode cX7_init 5 = .ok (.iconst 4, 1) := by decide +kernel
theorem dX7_init_6 : decode cX7_init 6 = .ok (.newarray .int, 2) := by decide +kernel
theorem dX7_init_8 : decode cX7_init 8 = .ok (.dup, 1) := by decide +kernel
theorem dX7_init_9 : decode cX7_init 9 = .ok (.iconst 0, 1) := by decide +kernel
theorem dX7_init_10 : decode cX7_init 10 = .ok (.bipush (-9), 2) := by decide +kernel
theorem dX7_init_12 : decode cX7_init 12 = .ok (.iastore, 1) := by decide +kernel
theorem dX7_init_13 : decode cX7_init 13 = .ok (.dup, 1) := by decide +kernel
theorem dX7_init_14 : decode cX7_init 14 = .ok (.iconst 1, 1) := by decide +kernel
theorem dX7_init_15 : decode cX7_init 15 = .ok (.bipush (-9), 2) := by decide +kernel
theorem dX7_init_17 : decode cX7_init 17 = .ok (.iastore, 1) := by decide +kernel
theorem dX7_init_18 : decode cX7_init 18 = .ok (.dup, 1) := by decide +kernel
theorem dX7_init_19 : decode cX7_init 19 = .ok (.iconst 2, 1) := by decide +kernel
theorem dX7_init_20 : decode cX7_init 20 = .ok (.bipush (-9), 2) := by decide +kernel
theorem dX7_init_22 : decode cX7_init 22 = .ok (.iastore, 1) := by decide +kernel
theorem dX7_init_23 : decode cX7_init 23 = .ok (.dup, 1) := by decide +kernel
theorem dX7_init_24 : decode cX7_init 24 = .ok (.iconst 3, 1) := by decide +kernel
theorem dX7_init_25 : decode cX7_init 25 = .ok (.bipush (-9), 2) := by decide +kernel
theorem dX7_init_27 : decode cX7_init 27 = .ok (.iastore, 1) := by decide +kernel
theorem dX7_init_28 : decode cX7_init 28 = .ok (.putfield 9, 3) := by decide +kernel
theorem dX7_init_31 : decode cX7_init 31 = .ok (.aload_n 0, 1) := by decide +kernel
theorem dX7_init_32 : decode cX7_init 32 = .ok (.iconst 4, 1) := by decide +kernel
theorem dX7_init_33 : decode cX7_init 33 = .ok (.newarray .int, 2) := by decide +kernel
theorem dX7_init_35 : decode cX7_init 35 = .ok (.putfield 13, 3) := by decide +kernel
theorem dX7_init_38 : decode cX7_init 38 = .ok (.aload_n 0, 1) := by decide +kernel
theorem dX7_init_39 : decode cX7_init 39 = .ok (.sipush 240, 3) := by decide +kernel
theorem dX7_init_42 : decode cX7_init 42 = .ok (.newarray .int, 2) := by decide +kernel
theorem dX7_init_44 : decode cX7_init 44 = .ok (.putfield 16, 3) := by decide +kernel
theorem dX7_init_47 : decode cX7_init 47 = .ok (.aload_n 0, 1) := by decide +kernel
theorem dX7_init_48 : decode cX7_init 48 = .ok (.bipush 6, 2) := by decide +kernel
theorem dX7_init_50 : decode cX7_init 50 = .ok (.newarray .int, 2) := by decide +kernel
theorem dX7_init_52 : decode cX7_init 52 = .ok (.putfield 19, 3) := by decide +kernel
theorem dX7_init_55 : decode cX7_init 55 = .ok (.aload_n 0, 1) := by decide +kernel
theorem dX7_init_56 : decode cX7_init 56 = .ok (.bipush 6, 2) := by decide +kernel
theorem dX7_init_58 : decode cX7_init 58 = .ok (.newarray .int, 2) := by decide +kernel
theorem dX7_init_60 : decode cX7_init 60 = .ok (.putfield 22, 3) := by decide +kernel
theorem dX7_init_63 : decode cX7_init 63 = .ok (.aload_n 0, 1) := by decide +kernel
theorem dX7_init_64 : decode cX7_init 64 = .ok (.bipush 6, 2) := by decide +kernel
theorem dX7_init_66 : decode cX7_init 66 = .ok (.newarray .int, 2) := by decide +kernel
theorem dX7_init_68 : decode cX7_init 68 = .ok (.putfield 25, 3) := by decide +kernel
theorem dX7_init_71 : decode cX7_init 71 = .ok (.aload_n 0, 1) := by decide +kernel
theorem dX7_init_72 : decode cX7_init 72 = .ok (.bipush 6, 2) := by decide +kernel
theorem dX7_init_74 : decode cX7_init 74 = .ok (.newarray .int, 2) := by decide +kernel
theorem dX7_init_76 : decode cX7_init 76 = .ok (.putfield 28, 3) := by decide +kernel
theorem dX7_init_79 : decode cX7_init 79 = .ok (.aload_n 0, 1) := by decide +kernel
theorem dX7_init_80 : decode cX7_init 80 = .ok (.bipush 10, 2) := by decide +kernel
theorem dX7_init_82 : decode cX7_init 82 = .ok (.newarray .int, 2) := by decide +kernel
theorem dX7_init_84 : decode cX7_init 84 = .ok (.putfield 31, 3) := by decide +kernel
theorem dX7_init_87 : decode cX7_init 87 = .ok (.aload_n 0, 1) := by decide +kernel
theorem dX7_init_88 : decode cX7_init 88 = .ok (.bipush 6, 2) := by decide +kernel
theorem dX7_init_90 : decode cX7_init 90 = .ok (.newarray .int, 2) := by decide +kernel
theorem dX7_init_92 : decode cX7_init 92 = .ok (.putfield 34, 3) := by decide +kernel
theorem dX7_init_95 : decode cX7_init 95 = .ok (.aload_n 0, 1) := by decide +kernel
theorem dX7_init_96 : decode cX7_init 96 = .ok (.bipush 18, 2) := by decide +kernel
theorem dX7_init_98 : decode cX7_init 98 = .ok (.newarray .int, 2) := by decide +kernel
theorem dX7_init_100 : decode cX7_init 100 = .ok (.putfield 37, 3) := by decide +kernel
theorem dX7_init_103 : decode cX7_init 103 = .ok (.aload_n 0, 1) := by decide +kernel
theorem dX7_init_104 : decode cX7_init 104 = .ok (.bipush 11, 2) := by decide +kernel
theorem dX7_init_106 : decode cX7_init 106 = .ok (.newarray .int, 2) := by decide +kernel
theorem dX7_init_108 : decode cX7_init 108 = .ok (.putfield 40, 3) := by decide +kernel
theorem dX7_init_111 : decode cX7_init 111 = .ok (.aload_n 0, 1) := by decide +kernel
theorem dX7_init_112 : decode cX7_init 112 = .ok (.bipush 60, 2) := by decide +kernel
theorem dX7_init_114 : decode cX7_init 114 = .ok (.newarray .int, 2) := by decide +kernel
theorem dX7_init_116 : decode cX7_init 116 = .ok (.putfield 43, 3) := by decide +kernel
theorem dX7_init_119 : decode cX7_init 119 = .ok (.aload_n 0, 1) := by decide +kernel
theorem dX7_init_120 : decode cX7_init 120 = .ok (.bipush 10, 2) := by decide +kernel
theorem dX7_init_122 : decode cX7_init 122 = .ok (.newarray .int, 2) := by decide +kernel
theorem dX7_init_124 : decode cX7_init 124 = .ok (.putfield 46, 3) := by decide +kernel
theorem dX7_init_127 : decode cX7_init 127 = .ok (.aload_n 0, 1) := by decide +kernel
theorem dX7_init_128 : decode cX7_init 128 = .ok (.bipush 6, 2) := by decide +kernel
theorem dX7_init_130 : decode cX7_init 130 = .ok (.newarray .int, 2) := by decide +kernel
theorem dX7_init_132 : decode cX7_init 132 = .ok (.putfield 49, 3) := by decide +kernel
theorem dX7_init_135 : decode cX7_init 135 = .ok (.aload_n 0, 1) := by decide +kernel
theorem dX7_init_136 : decode cX7_init 136 = .ok (.bipush 6, 2) := by decide +kernel
theorem dX7_init_138 : decode cX7_init 138 = .ok (.newarray .boolean, 2) := by decide +kernel
theorem dX7_init_140 : decode cX7_init 140 = .ok (.putfield 52, 3) := by decide +kernel
theorem dX7_init_143 : decode cX7_init 143 = .ok (.aload_n 0, 1) := by decide +kernel
theorem dX7_init_144 : decode cX7_init 144 = .ok (.bipush (-9), 2) := by decide +kernel
theorem dX7_init_146 : decode cX7_init 146 = .ok (.putfield 56, 3) := by decide +kernel
theorem dX7_init_149 : decode cX7_init 149 = .ok (.aload_n 0, 1) := by decide +kernel
theorem dX7_init_150 : decode cX7_init 150 = .ok (.bipush 10, 2) := by decide +kernel
theorem dX7_init_152 : decode cX7_init 152 = .ok (.newarray .int, 2) := by decide +kernel
theorem dX7_init_154 : decode cX7_init 154 = .ok (.putfield 60, 3) := by decide +kernel
theorem dX7_init_157 : decode cX7_init 157 = .ok (.aload_n 0, 1) := by decide +kernel
theorem dX7_init_158 : decode cX7_init 158 = .ok (.bipush 8, 2) := by decide +kernel
theorem dX7_init_160 : decode cX7_init 160 = .ok (.newarray .int, 2) := by decide +kernel
theorem dX7_init_162 : decode cX7_init 162 = .ok (.putfield 63, 3) := by decide +kernel
theorem dX7_init_165 : decode cX7_init 165 = .ok (.aload_n 0, 1) := by decide +kernel
theorem dX7_init_166 : decode cX7_init 166 = .ok (.bipush 8, 2) := by decide +kernel
theorem dX7_init_168 : decode cX7_init 168 = .ok (.newarray .int, 2) := by decide +kernel
theorem dX7_init_170 : decode cX7_init 170 = .ok (.putfield 66, 3) := by decide +kernel
theorem dX7_init_173 : decode cX7_init 173 = .ok (.return_, 1) := by decide +kernel
theorem dX7_fails_0 : decode cX7_fails 0 = .ok (.aload_n 0, 1) := by decide +kernel
theorem dX7_fails_1 : decode cX7_fails 1 = .ok (.iload_n 1, 1) := by decide +kernel
theorem dX7_fails_2 : decode cX7_fails 2 = .ok (.putfield 69, 3) := by decide +kernel
theorem dX7_fails_5 : decode cX7_fails 5 = .ok (.bipush (-10), 2) := by decide +kernel
theorem dX7_fails_7 : decode cX7_fails 7 = .ok (.iload_n 1, 1) := by decide +kernel
theorem dX7_fails_8 : decode cX7_fails 8 = .ok (.isub, 1) := by decide +kernel
theorem dX7_fails_9 : decode cX7_fails 9 = .ok (.ireturn, 1) := by decide +kernel
theorem dX7_lost_0 : decode cX7_lost 0 = .ok (.aload_n 0, 1) := by decide +kernel
theorem dX7_lost_1 : decode cX7_lost 1 = .ok (.iload_n 1, 1) := by decide +kernel
theorem dX7_lost_2 : decode cX7_lost 2 = .ok (.putfield 69, 3) := by decide +kernel
theorem dX7_lost_5 : decode cX7_lost 5 = .ok (.ldc2_w 72, 3) := by decide +kernel
theorem dX7_lost_8 : decode cX7_lost 8 = .ok (.lreturn, 1) := by decide +kernel
theorem dX7_within_0 : decode cX7_within 0 = .ok (.iload_n 0, 1) := by decide +kernel
theorem dX7_within_1 : decode cX7_within 1 = .ok (.iload_n 1, 1) := by decide +kernel
theorem dX7_within_2 : decode cX7_within 2 = .ok (.if_icmp .lt 12, 3) := by decide +kernel
theorem dX7_within_5 : decode cX7_within 5 = .ok (.iload_n 0, 1) := by decide +kernel
theorem dX7_within_6 : decode cX7_within 6 = .ok (.iload_n 2, 1) := by decide +kernel
theorem dX7_within_7 : decode cX7_within 7 = .ok (.if_icmp .gt 7, 3) := by decide +kernel
theorem dX7_within_10 : decode cX7_within 10 = .ok (.iconst 1, 1) := by decide +kernel
theorem dX7_within_11 : decode cX7_within 11 = .ok (.goto 4, 3) := by decide +kernel
theorem dX7_within_14 : decode cX7_within 14 = .ok (.iconst 0, 1) := by decide +kernel
theorem dX7_within_15 : decode cX7_within 15 = .ok (.ireturn, 1) := by decide +kernel
theorem dX7_isSheet_0 : decode cX7_isSheet 0 = .ok (.iload_n 0, 1) := by decide +kernel
theorem dX7_isSheet_1 : decode cX7_isSheet 1 = .ok (.iconst 0, 1) := by decide +kernel
theorem dX7_isSheet_2 : decode cX7_isSheet 2 = .ok (.iconst 3, 1) := by decide +kernel
theorem dX7_isSheet_3 : decode cX7_isSheet 3 = .ok (.invokestatic 74, 3) := by decide +kernel
theorem dX7_isSheet_6 : decode cX7_isSheet 6 = .ok (.ireturn, 1) := by decide +kernel
theorem dX7_isSort_0 : decode cX7_isSort 0 = .ok (.iload_n 0, 1) := by decide +kernel
theorem dX7_isSort_1 : decode cX7_isSort 1 = .ok (.iconst 0, 1) := by decide +kernel
theorem dX7_isSort_2 : decode cX7_isSort 2 = .ok (.iconst 2, 1) := by decide +kernel
theorem dX7_isSort_3 : decode cX7_isSort 3 = .ok (.invokestatic 74, 3) := by decide +kernel
theorem dX7_isSort_6 : decode cX7_isSort 6 = .ok (.ireturn, 1) := by decide +kernel
theorem dX7_against_0 : decode cX7_against 0 = .ok (.aload_n 0, 1) := by decide +kernel
theorem dX7_against_1 : decode cX7_against 1 = .ok (.getfield 9, 3) := by decide +kernel
theorem dX7_against_4 : decode cX7_against 4 = .ok (.iload_n 1, 1) := by decide +kernel
theorem dX7_against_5 : decode cX7_against 5 = .ok (.iaload, 1) := by decide +kernel
theorem dX7_against_6 : decode cX7_against 6 = .ok (.bipush (-9), 2) := by decide +kernel
theorem dX7_against_8 : decode cX7_against 8 = .ok (.if_icmp .eq 15, 3) := by decide +kernel
theorem dX7_against_11 : decode cX7_against 11 = .ok (.aload_n 0, 1) := by decide +kernel
theorem dX7_against_12 : decode cX7_against 12 = .ok (.getfield 9, 3) := by decide +kernel
theorem dX7_against_15 : decode cX7_against 15 = .ok (.iload_n 1, 1) := by decide +kernel
theorem dX7_against_16 : decode cX7_against 16 = .ok (.iaload, 1) := by decide +kernel
theorem dX7_against_17 : decode cX7_against 17 = .ok (.iload_n 2, 1) := by decide +kernel
theorem dX7_against_18 : decode cX7_against 18 = .ok (.if_icmp .eq 5, 3) := by decide +kernel
theorem dX7_against_21 : decode cX7_against 21 = .ok (.iconst 2, 1) := by decide +kernel
theorem dX7_against_22 : decode cX7_against 22 = .ok (.ireturn, 1) := by decide +kernel
theorem dX7_against_23 : decode cX7_against 23 = .ok (.aload_n 0, 1) := by decide +kernel
theorem dX7_against_24 : decode cX7_against 24 = .ok (.getfield 9, 3) := by decide +kernel
theorem dX7_against_27 : decode cX7_against 27 = .ok (.iload_n 1, 1) := by decide +kernel
theorem dX7_against_28 : decode cX7_against 28 = .ok (.iaload, 1) := by decide +kernel
theorem dX7_against_29 : decode cX7_against 29 = .ok (.bipush (-9), 2) := by decide +kernel
theorem dX7_against_31 : decode cX7_against 31 = .ok (.if_icmp .ne 5, 3) := by decide +kernel
theorem dX7_against_34 : decode cX7_against 34 = .ok (.iconst 1, 1) := by decide +kernel
theorem dX7_against_35 : decode cX7_against 35 = .ok (.ireturn, 1) := by decide +kernel
theorem dX7_against_36 : decode cX7_against 36 = .ok (.iload 4, 2) := by decide +kernel
theorem dX7_against_38 : decode cX7_against 38 = .ok (.ifCond .ge 5, 3) := by decide +kernel
theorem dX7_against_41 : decode cX7_against 41 = .ok (.iconst 4, 1) := by decide +kernel
theorem dX7_against_42 : decode cX7_against 42 = .ok (.ireturn, 1) := by decide +kernel
theorem dX7_against_43 : decode cX7_against 43 = .ok (.iload_n 3, 1) := by decide +kernel
theorem dX7_against_44 : decode cX7_against 44 = .ok (.ifCond .lt 26, 3) := by decide +kernel
theorem dX7_against_47 : decode cX7_against 47 = .ok (.iload_n 3, 1) := by decide +kernel
theorem dX7_against_48 : decode cX7_against 48 = .ok (.aload_n 0, 1) := by decide +kernel
theorem dX7_against_49 : decode cX7_against 49 = .ok (.getfield 13, 3) := by decide +kernel
theorem dX7_against_52 : decode cX7_against 52 = .ok (.iload_n 1, 1) := by decide +kernel
theorem dX7_against_53 : decode cX7_against 53 = .ok (.iaload, 1) := by decide +kernel
theorem dX7_against_54 : decode cX7_against 54 = .ok (.if_icmp .gt 16, 3) := by decide +kernel
theorem dX7_against_57 : decode cX7_against 57 = .ok (.iload 4, 2) := by decide +kernel
theorem dX7_against_59 : decode cX7_against 59 = .ok (.aload_n 0, 1) := by decide +kernel
theorem dX7_against_60 : decode cX7_against 60 = .ok (.getfield 13, 3) := by decide +kernel
theorem dX7_against_63 : decode cX7_against 63 = .ok (.iload_n 1, 1) := by decide +kernel
theorem dX7_against_64 : decode cX7_against 64 = .ok (.iaload, 1) := by decide +kernel
theorem dX7_against_65 : decode cX7_against 65 = .ok (.iload_n 3, 1) := by decide +kernel
theorem dX7_against_66 : decode cX7_against 66 = .ok (.isub, 1) := by decide +kernel
theorem dX7_against_67 : decode cX7_against 67 = .ok (.if_icmp .le 7, 3) := by decide +kernel
theorem dX7_against_70 : decode cX7_against 70 = .ok (.iconst 3, 1) := by decide +kernel
theorem dX7_against_71 : decode cX7_against 71 = .ok (.goto 4, 3) := by decide +kernel
theorem dX7_against_74 : decode cX7_against 74 = .ok (.iconst 0, 1) := by decide +kernel
theorem dX7_against_75 : decode cX7_against 75 = .ok (.ireturn, 1) := by decide +kernel
theorem dX7_isTap_0 : decode cX7_isTap 0 = .ok (.iload_n 1, 1) := by decide +kernel
theorem dX7_isTap_1 : decode cX7_isTap 1 = .ok (.ifCond .lt 15, 3) := by decide +kernel
theorem dX7_isTap_4 : decode cX7_isTap 4 = .ok (.iload_n 1, 1) := by decide +kernel
theorem dX7_isTap_5 : decode cX7_isTap 5 = .ok (.aload_n 0, 1) := by decide +kernel
theorem dX7_isTap_6 : decode cX7_isTap 6 = .ok (.getfield 78, 3) := by decide +kernel
theorem dX7_isTap_9 : decode cX7_isTap 9 = .ok (.if_icmp .ge 7, 3) := by decide +kernel
theorem dX7_isTap_12 : decode cX7_isTap 12 = .ok (.iconst 1, 1) := by decide +kernel
theorem dX7_isTap_13 : decode cX7_isTap 13 = .ok (.goto 4, 3) := by decide +kernel
theorem dX7_isTap_16 : decode cX7_isTap 16 = .ok (.iconst 0, 1) := by decide +kernel
theorem dX7_isTap_17 : decode cX7_isTap 17 = .ok (.ireturn, 1) := by decide +kernel
theorem dX7_isDay_0 : decode cX7_isDay 0 = .ok (.iload_n 0, 1) := by decide +kernel
theorem dX7_isDay_1 : decode cX7_isDay 1 = .ok (.iconst 0, 1) := by decide +kernel
theorem dX7_isDay_2 : decode cX7_isDay 2 = .ok (.bipush 9, 2) := by decide +kernel
theorem dX7_isDay_4 : decode cX7_isDay 4 = .ok (.invokestatic 74, 3) := by decide +kernel
theorem dX7_isDay_7 : decode cX7_isDay 7 = .ok (.ireturn, 1) := by decide +kernel
theorem dX7_digitAt_0 : decode cX7_digitAt 0 = .ok (.iload_n 1, 1) := by decide +kernel
theorem dX7_digitAt_1 : decode cX7_digitAt 1 = .ok (.iload_n 2, 1) := by decide +kernel
theorem dX7_digitAt_2 : decode cX7_digitAt 2 = .ok (.if_icmp .ge 33, 3) := by decide +kernel
theorem dX7_digitAt_5 : decode cX7_digitAt 5 = .ok (.aload_n 0, 1) := by decide +kernel
theorem dX7_digitAt_6 : decode cX7_digitAt 6 = .ok (.getfield 16, 3) := by decide +kernel
theorem dX7_digitAt_9 : decode cX7_digitAt 9 = .ok (.iload_n 1, 1) := by decide +kernel
theorem dX7_digitAt_10 : decode cX7_digitAt 10 = .ok (.iaload, 1) := by decide +kernel
theorem dX7_digitAt_11 : decode cX7_digitAt 11 = .ok (.bipush 48, 2) := by decide +kernel
theorem dX7_digitAt_13 : decode cX7_digitAt 13 = .ok (.iload_n 3, 1) := by decide +kernel
theorem dX7_digitAt_14 : decode cX7_digitAt 14 = .ok (.iadd, 1) := by decide +kernel
theorem dX7_digitAt_15 : decode cX7_digitAt 15 = .ok (.bipush 57, 2) := by decide +kernel
theorem dX7_digitAt_17 : decode cX7_digitAt 17 = .ok (.invokestatic 74, 3) := by decide +kernel
theorem dX7_digitAt_20 : decode cX7_digitAt 20 = .ok (.ifCond .eq 15, 3) := by decide +kernel
theorem dX7_digitAt_23 : decode cX7_digitAt 23 = .ok (.aload_n 0, 1) := by decide +kernel
theorem dX7_digitAt_24 : decode cX7_digitAt 24 = .ok (.getfield 16, 3) := by decide +kernel
theorem dX7_digitAt_27 : decode cX7_digitAt 27 = .ok (.iload_n 1, 1) := by decide +kernel
theorem dX7_digitAt_28 : decode cX7_digitAt 28 = .ok (.iaload, 1) := by decide +kernel
theorem dX7_digitAt_29 : decode cX7_digitAt 29 = .ok (.bipush 48, 2) := by decide +kernel
theorem dX7_digitAt_31 : decode cX7_digitAt 31 = .ok (.isub, 1) := by decide +kernel
theorem dX7_digitAt_32 : decode cX7_digitAt 32 = .ok (.goto 5, 3) := by decide +kernel
theorem dX7_digitAt_35 : decode cX7_digitAt 35 = .ok (.bipush (-9), 2) := by decide +kernel
theorem dX7_digitAt_37 : decode cX7_digitAt 37 = .ok (.ireturn, 1) := by decide +kernel
theorem dX7_yard_0 : decode cX7_yard 0 = .ok (.aload_n 0, 1) := by decide +kernel
theorem dX7_yard_1 : decode cX7_yard 1 = .ok (.iconst 0, 1) := by decide +kernel
theorem dX7_yard_2 : decode cX7_yard 2 = .ok (.putfield 69, 3) := by decide +kernel
theorem dX7_yard_5 : decode cX7_yard 5 = .ok (.iload_n 1, 1) := by decide +kernel
theorem dX7_yard_6 : decode cX7_yard 6 = .ok (.invokestatic 81, 3) := by decide +kernel
theorem dX7_yard_9 : decode cX7_yard 9 = .ok (.ifCond .ne 5, 3) := by decide +kernel
theorem dX7_yard_12 : decode cX7_yard 12 = .ok (.iconst (-1), 1) := by decide +kernel
theorem dX7_yard_13 : decode cX7_yard 13 = .ok (.ireturn, 1) := by decide +kernel
theorem dX7_yard_14 : decode cX7_yard 14 = .ok (.iload_n 2, 1) := by decide +kernel
theorem dX7_yard_15 : decode cX7_yard 15 = .ok (.invokestatic 85, 3) := by decide +kernel
theorem dX7_yard_18 : decode cX7_yard 18 = .ok (.ifCond .ne 6, 3) := by decide +kernel
theorem dX7_yard_21 : decode cX7_yard 21 = .ok (.bipush (-2), 2) := by decide +kernel
theorem dX7_yard_23 : decode cX7_yard 23 = .ok (.ireturn, 1) := by decide +kernel
theorem dX7_yard_24 : decode cX7_yard 24 = .ok (.aload_n 0, 1) := by decide +kernel
theorem dX7_yard_25 : decode cX7_yard 25 = .ok (.iload_n 1, 1) := by decide +kernel
theorem dX7_yard_26 : decode cX7_yard 26 = .ok (.iload_n 2, 1) := by decide +kernel
theorem dX7_yard_27 : decode cX7_yard 27 = .ok (.iload_n 3, 1) := by decide +kernel
theorem dX7_yard_28 : decode cX7_yard 28 = .ok (.iload 4, 2) := by decide +kernel
theorem dX7_yard_30 : decode cX7_yard 30 = .ok (.invokevirtual 88, 3) := by decide +kernel
theorem dX7_yard_33 : decode cX7_yard 33 = .ok (.istore 5, 2) := by decide +kernel
theorem dX7_yard_35 : decode cX7_yard 35 = .ok (.iload 5, 2) := by decide +kernel
theorem dX7_yard_37 : decode cX7_yard 37 = .ok (.ifCond .eq 10, 3) := by decide +kernel
theorem dX7_yard_40 : decode cX7_yard 40 = .ok (.aload_n 0, 1) := by decide +kernel
theorem dX7_yard_41 : decode cX7_yard 41 = .ok (.iload 5, 2) := by decide +kernel
theorem dX7_yard_43 : decode cX7_yard 43 = .ok (.invokevirtual 92, 3) := by decide +kernel
theorem dX7_yard_46 : decode cX7_yard 46 = .ok (.ireturn, 1) := by decide +kernel
theorem dX7_yard_47 : decode cX7_yard 47 = .ok (.bipush 60, 2) := by decide +kernel
theorem dX7_yard_49 : decode cX7_yard 49 = .ok (.iload_n 1, 1) := by decide +kernel
theorem dX7_yard_50 : decode cX7_yard 50 = .ok (.imul, 1) := by decide +kernel
theorem dX7_yard_51 : decode cX7_yard 51 = .ok (.iload_n 3, 1) := by decide +kernel
theorem dX7_yard_52 : decode cX7_yard 52 = .ok (.iadd, 1) := by decide +kernel
theorem dX7_yard_53 : decode cX7_yard 53 = .ok (.istore 6, 2) := by decide +kernel
theorem dX7_yard_55 : decode cX7_yard 55 = .ok (.aload_n 0, 1) := by decide +kernel
theorem dX7_yard_56 : decode cX7_yard 56 = .ok (.iload 6, 2) := by decide +kernel
theorem dX7_yard_58 : decode cX7_yard 58 = .ok (.putfield 96, 3) := by decide +kernel
theorem dX7_yard_61 : decode cX7_yard 61 = .ok (.aload_n 0, 1) := by decide +kernel
theorem dX7_yard_62 : decode cX7_yard 62 = .ok (.iload 6, 2) := by decide +kernel
theorem dX7_yard_64 : decode cX7_yard 64 = .ok (.iload 4, 2) := by decide +kernel
theorem dX7_yard_66 : decode cX7_yard 66 = .ok (.iadd, 1) := by decide +kernel
theorem dX7_yard_67 : decode cX7_yard 67 = .ok (.invokevirtual 99, 3) := by decide +kernel
theorem dX7_yard_70 : decode cX7_yard 70 = .ok (.ifCond .ne 14, 3) := by decide +kernel
theorem dX7_yard_73 : decode cX7_yard 73 = .ok (.bipush (-100), 2) := by decide +kernel
theorem dX7_yard_75 : decode cX7_yard 75 = .ok (.aload_n 0, 1) := by decide +kernel
theorem dX7_yard_76 : decode cX7_yard 76 = .ok (.getfield 96, 3) := by decide +kernel
theorem dX7_yard_79 : decode cX7_yard 79 = .ok (.iload 6, 2) := by decide +kernel
theorem dX7_yard_81 : decode cX7_yard 81 = .ok (.isub, 1) := by decide +kernel
theorem dX7_yard_82 : decode cX7_yard 82 = .ok (.isub, 1) := by decide +kernel
theorem dX7_yard_83 : decode cX7_yard 83 = .ok (.ireturn, 1) := by decide +kernel
theorem dX7_yard_84 : decode cX7_yard 84 = .ok (.aload_n 0, 1) := by decide +kernel
theorem dX7_yard_85 : decode cX7_yard 85 = .ok (.aload_n 0, 1) := by decide +kernel
theorem dX7_yard_86 : decode cX7_yard 86 = .ok (.getfield 102, 3) := by decide +kernel
theorem dX7_yard_89 : decode cX7_yard 89 = .ok (.putfield 105, 3) := by decide +kernel
theorem dX7_yard_92 : decode cX7_yard 92 = .ok (.aload_n 0, 1) := by decide +kernel
theorem dX7_yard_93 : decode cX7_yard 93 = .ok (.aload_n 0, 1) := by decide +kernel
theorem dX7_yard_94 : decode cX7_yard 94 = .ok (.getfield 108, 3) := by decide +kernel
theorem dX7_yard_97 : decode cX7_yard 97 = .ok (.putfield 111, 3) := by decide +kernel
theorem dX7_yard_100 : decode cX7_yard 100 = .ok (.aload_n 0, 1) := by decide +kernel
theorem dX7_yard_101 : decode cX7_yard 101 = .ok (.aload_n 0, 1) := by decide +kernel
theorem dX7_yard_102 : decode cX7_yard 102 = .ok (.getfield 114, 3) := by decide +kernel
theorem dX7_yard_105 : decode cX7_yard 105 = .ok (.putfield 78, 3) := by decide +kernel
theorem dX7_yard_108 : decode cX7_yard 108 = .ok (.iconst 0, 1) := by decide +kernel
theorem dX7_yard_109 : decode cX7_yard 109 = .ok (.istore 7, 2) := by decide +kernel
theorem dX7_yard_111 : decode cX7_yard 111 = .ok (.iload 7, 2) := by decide +kernel
theorem dX7_yard_113 : decode cX7_yard 113 = .ok (.aload_n 0, 1) := by decide +kernel
theorem dX7_yard_114 : decode cX7_yard 114 = .ok (.getfield 78, 3) := by decide +kernel
theorem dX7_yard_117 : decode cX7_yard 117 = .ok (.if_icmp .ge 75, 3) := by decide +kernel
theorem dX7_yard_120 : decode cX7_yard 120 = .ok (.aload_n 0, 1) := by decide +kernel
theorem dX7_yard_121 : decode cX7_yard 121 = .ok (.getfield 19, 3) := by decide +kernel
theorem dX7_yard_124 : decode cX7_yard 124 = .ok (.iload 7, 2) := by decide +kernel
theorem dX7_yard_126 : decode cX7_yard 126 = .ok (.aload_n 0, 1) := by decide +kernel
theorem dX7_yard_127 : decode cX7_yard 127 = .ok (.getfield 34, 3) := by decide +kernel
theorem dX7_yard_130 : decode cX7_yard 130 = .ok (.iload 7, 2) := by decide +kernel
theorem dX7_yard_132 : decode cX7_yard 132 = .ok (.iaload, 1) := by decide +kernel
theorem dX7_yard_133 : decode cX7_yard 133 = .ok (.iastore, 1) := by decide +kernel
theorem dX7_yard_134 : decode cX7_yard 134 = .ok (.aload_n 0, 1) := by decide +kernel
theorem dX7_yard_135 : decode cX7_yard 135 = .ok (.getfield 22, 3) := by decide +kernel
theorem dX7_yard_138 : decode cX7_yard 138 = .ok (.iload 7, 2) := by decide +kernel
theorem dX7_yard_140 : decode cX7_yard 140 = .ok (.aload_n 0, 1) := by decide +kernel
theorem dX7_yard_141 : decode cX7_yard 141 = .ok (.getfield 37, 3) := by decide +kernel
theorem dX7_yard_144 : decode cX7_yard 144 = .ok (.iconst 3, 1) := by decide +kernel
theorem dX7_yard_145 : decode cX7_yard 145 = .ok (.iload 7, 2) := by decide +kernel
theorem dX7_yard_147 : decode cX7_yard 147 = .ok (.imul, 1) := by decide +kernel
theorem dX7_yard_148 : decode cX7_yard 148 = .ok (.iaload, 1) := by decide +kernel
theorem dX7_yard_149 : decode cX7_yard 149 = .ok (.iastore, 1) := by decide +kernel
theorem dX7_yard_150 : decode cX7_yard 150 = .ok (.aload_n 0, 1) := by decide +kernel
theorem dX7_yard_151 : decode cX7_yard 151 = .ok (.getfield 25, 3) := by decide +kernel
theorem dX7_yard_154 : decode cX7_yard 154 = .ok (.iload 7, 2) := by decide +kernel
theorem dX7_yard_156 : decode cX7_yard 156 = .ok (.aload_n 0, 1) := by decide +kernel
theorem dX7_yard_157 : decode cX7_yard 157 = .ok (.getfield 37, 3) := by decide +kernel
theorem dX7_yard_160 : decode cX7_yard 160 = .ok (.iconst 3, 1) := by decide +kernel
theorem dX7_yard_161 : decode cX7_yard 161 = .ok (.iload 7, 2) := by decide +kernel
theorem dX7_yard_163 : decode cX7_yard 163 = .ok (.imul, 1) := by decide +kernel
theorem dX7_yard_164 : decode cX7_yard 164 = .ok (.iconst 1, 1) := by decide +kernel
theorem dX7_yard_165 : decode cX7_yard 165 = .ok (.iadd, 1) := by decide +kernel
theorem dX7_yard_166 : decode cX7_yard 166 = .ok (.iaload, 1) := by decide +kernel
theorem dX7_yard_167 : decode cX7_yard 167 = .ok (.iastore, 1) := by decide +kernel
theorem dX7_yard_168 : decode cX7_yard 168 = .ok (.aload_n 0, 1) := by decide +kernel
theorem dX7_yard_169 : decode cX7_yard 169 = .ok (.getfield 28, 3) := by decide +kernel
theorem dX7_yard_172 : decode cX7_yard 172 = .ok (.iload 7, 2) := by decide +kernel
theorem dX7_yard_174 : decode cX7_yard 174 = .ok (.aload_n 0, 1) := by decide +kernel
theorem dX7_yard_175 : decode cX7_yard 175 = .ok (.getfield 37, 3) := by decide +kernel
theorem dX7_yard_178 : decode cX7_yard 178 = .ok (.iconst 3, 1) := by decide +kernel
theorem dX7_yard_179 : decode cX7_yard 179 = .ok (.iload 7, 2) := by decide +kernel
theorem dX7_yard_181 : decode cX7_yard 181 = .ok (.imul, 1) := by decide +kernel
theorem dX7_yard_182 : decode cX7_yard 182 = .ok (.iconst 2, 1) := by decide +kernel
theorem dX7_yard_183 : decode cX7_yard 183 = .ok (.iadd, 1) := by decide +kernel
theorem dX7_yard_184 : decode cX7_yard 184 = .ok (.iaload, 1) := by decide +kernel
theorem dX7_yard_185 : decode cX7_yard 185 = .ok (.iastore, 1) := by decide +kernel
theorem dX7_yard_186 : decode cX7_yard 186 = .ok (.iinc 7 1, 3) := by decide +kernel
theorem dX7_yard_189 : decode cX7_yard 189 = .ok (.goto (-78), 3) := by decide +kernel
theorem dX7_yard_192 : decode cX7_yard 192 = .ok (.iconst 0, 1) := by decide +kernel
theorem dX7_yard_193 : decode cX7_yard 193 = .ok (.istore 7, 2) := by decide +kernel
theorem dX7_yard_195 : decode cX7_yard 195 = .ok (.iload 7, 2) := by decide +kernel
theorem dX7_yard_197 : decode cX7_yard 197 = .ok (.bipush 10, 2) := by decide +kernel
theorem dX7_yard_199 : decode cX7_yard 199 = .ok (.if_icmp .ge 17, 3) := by decide +kernel
theorem dX7_yard_202 : decode cX7_yard 202 = .ok (.aload_n 0, 1) := by decide +kernel
theorem dX7_yard_203 : decode cX7_yard 203 = .ok (.getfield 31, 3) := by decide +kernel
theorem dX7_yard_206 : decode cX7_yard 206 = .ok (.iload 7, 2) := by decide +kernel
theorem dX7_yard_208 : decode cX7_yard 208 = .ok (.iconst 0, 1) := by decide +kernel
theorem dX7_yard_209 : decode cX7_yard 209 = .ok (.iastore, 1) := by decide +kernel
theorem dX7_yard_210 : decode cX7_yard 210 = .ok (.iinc 7 1, 3) := by decide +kernel
theorem dX7_yard_213 : decode cX7_yard 213 = .ok (.goto (-18), 3) := by decide +kernel
theorem dX7_yard_216 : decode cX7_yard 216 = .ok (.aload_n 0, 1) := by decide +kernel
theorem dX7_yard_217 : decode cX7_yard 217 = .ok (.iconst 0, 1) := by decide +kernel
theorem dX7_yard_218 : decode cX7_yard 218 = .ok (.putfield 117, 3) := by decide +kernel
theorem dX7_yard_221 : decode cX7_yard 221 = .ok (.aload_n 0, 1) := by decide +kernel
theorem dX7_yard_222 : decode cX7_yard 222 = .ok (.iconst 0, 1) := by decide +kernel
theorem dX7_yard_223 : decode cX7_yard 223 = .ok (.putfield 120, 3) := by decide +kernel
theorem dX7_yard_226 : decode cX7_yard 226 = .ok (.aload_n 0, 1) := by decide +kernel
theorem dX7_yard_227 : decode cX7_yard 227 = .ok (.iconst 0, 1) := by decide +kernel
theorem dX7_yard_228 : decode cX7_yard 228 = .ok (.putfield 123, 3) := by decide +kernel
theorem dX7_yard_231 : decode cX7_yard 231 = .ok (.aload_n 0, 1) := by decide +kernel
theorem dX7_yard_232 : decode cX7_yard 232 = .ok (.iconst 0, 1) := by decide +kernel
theorem dX7_yard_233 : decode cX7_yard 233 = .ok (.putfield 126, 3) := by decide +kernel
theorem dX7_yard_236 : decode cX7_yard 236 = .ok (.aload_n 0, 1) := by decide +kernel
theorem dX7_yard_237 : decode cX7_yard 237 = .ok (.iconst 0, 1) := by decide +kernel
theorem dX7_yard_238 : decode cX7_yard 238 = .ok (.putfield 129, 3) := by decide +kernel
theorem dX7_yard_241 : decode cX7_yard 241 = .ok (.aload_n 0, 1) := by decide +kernel
theorem dX7_yard_242 : decode cX7_yard 242 = .ok (.getfield 78, 3) := by decide +kernel
theorem dX7_yard_245 : decode cX7_yard 245 = .ok (.ireturn, 1) := by decide +kernel
theorem dX7_readYard_0 : decode cX7_readYard 0 = .ok (.aload_n 0, 1) := by decide +kernel
theorem dX7_readYard_1 : decode cX7_readYard 1 = .ok (.getfield 96, 3) := by decide +kernel
theorem dX7_readYard_4 : decode cX7_readYard 4 = .ok (.iload_n 1, 1) := by decide +kernel
theorem dX7_readYard_5 : decode cX7_readYard 5 = .ok (.if_icmp .ge 17, 3) := by decide +kernel
theorem dX7_readYard_8 : decode cX7_readYard 8 = .ok (.aload_n 0, 1) := by decide +kernel
theorem dX7_readYard_9 : decode cX7_readYard 9 = .ok (.getfield 16, 3) := by decide +kernel
theorem dX7_readYard_12 : decode cX7_readYard 12 = .ok (.aload_n 0, 1) := by decide +kernel
theorem dX7_readYard_13 : decode cX7_readYard 13 = .ok (.getfield 96, 3) := by decide +kernel
theorem dX7_readYard_16 : decode cX7_readYard 16 = .ok (.iaload, 1) := by decide +kernel
theorem dX7_readYard_17 : decode cX7_readYard 17 = .ok (.bipush 121, 2) := by decide +kernel
theorem dX7_readYard_19 : decode cX7_readYard 19 = .ok (.if_icmp .eq 5, 3) := by decide +kernel
theorem dX7_readYard_22 : decode cX7_readYard 22 = .ok (.iconst 0, 1) := by decide +kernel
theorem dX7_readYard_23 : decode cX7_readYard 23 = .ok (.ireturn, 1) := by decide +kernel
theorem dX7_readYard_24 : decode cX7_readYard 24 = .ok (.aload_n 0, 1) := by decide +kernel
theorem dX7_readYard_25 : decode cX7_readYard 25 = .ok (.dup, 1) := by decide +kernel
theorem dX7_readYard_26 : decode cX7_readYard 26 = .ok (.getfield 96, 3) := by decide +kernel
theorem dX7_readYard_29 : decode cX7_readYard 29 = .ok (.iconst 1, 1) := by decide +kernel
theorem dX7_readYard_30 : decode cX7_readYard 30 = .ok (.iadd, 1) := by decide +kernel
theorem dX7_readYard_31 : decode cX7_readYard 31 = .ok (.putfield 96, 3) := by decide +kernel
theorem dX7_readYard_34 : decode cX7_readYard 34 = .ok (.aload_n 0, 1) := by decide +kernel
theorem dX7_readYard_35 : decode cX7_readYard 35 = .ok (.aload_n 0, 1) := by decide +kernel
theorem dX7_readYard_36 : decode cX7_readYard 36 = .ok (.getfield 96, 3) := by decide +kernel
theorem dX7_readYard_39 : decode cX7_readYard 39 = .ok (.iload_n 1, 1) := by decide +kernel
theorem dX7_readYard_40 : decode cX7_readYard 40 = .ok (.iconst 0, 1) := by decide +kernel
theorem dX7_readYard_41 : decode cX7_readYard 41 = .ok (.invokevirtual 132, 3) := by decide +kernel
theorem dX7_readYard_44 : decode cX7_readYard 44 = .ok (.istore_n 2, 1) := by decide +kernel
theorem dX7_readYard_45 : decode cX7_readYard 45 = .ok (.aload_n 0, 1) := by decide +kernel
theorem dX7_readYard_46 : decode cX7_readYard 46 = .ok (.aload_n 0, 1) := by decide +kernel
theorem dX7_readYard_47 : decode cX7_readYard 47 = .ok (.getfield 96, 3) := by decide +kernel
theorem dX7_readYard_50 : decode cX7_readYard 50 = .ok (.iconst 1, 1) := by decide +kernel
theorem dX7_readYard_51 : decode cX7_readYard 51 = .ok (.iadd, 1) := by decide +kernel
theorem dX7_readYard_52 : decode cX7_readYard 52 = .ok (.iload_n 1, 1) := by decide +kernel
theorem dX7_readYard_53 : decode cX7_readYard 53 = .ok (.iconst 0, 1) := by decide +kernel
theorem dX7_readYard_54 : decode cX7_readYard 54 = .ok (.invokevirtual 132, 3) := by decide +kernel
theorem dX7_readYard_57 : decode cX7_readYard 57 = .ok (.istore_n 3, 1) := by decide +kernel
theorem dX7_readYard_58 : decode cX7_readYard 58 = .ok (.iload_n 2, 1) := by decide +kernel
theorem dX7_readYard_59 : decode cX7_readYard 59 = .ok (.bipush (-9), 2) := by decide +kernel
theorem dX7_readYard_61 : decode cX7_readYard 61 = .ok (.if_icmp .eq 9, 3) := by decide +kernel
theorem dX7_readYard_64 : decode cX7_readYard 64 = .ok (.iload_n 3, 1) := by decide +kernel
theorem dX7_readYard_65 : decode cX7_readYard 65 = .ok (.bipush (-9), 2) := by decide +kernel
theorem dX7_readYard_67 : decode cX7_readYard 67 = .ok (.if_icmp .ne 25, 3) := by decide +kernel
theorem dX7_readYard_70 : decode cX7_readYard 70 = .ok (.aload_n 0, 1) := by decide +kernel
theorem dX7_readYard_71 : decode cX7_readYard 71 = .ok (.dup, 1) := by decide +kernel
theorem dX7_readYard_72 : decode cX7_readYard 72 = .ok (.getfield 96, 3) := by decide +kernel
theorem dX7_readYard_75 : decode cX7_readYard 75 = .ok (.iload_n 2, 1) := by decide +kernel
theorem dX7_readYard_76 : decode cX7_readYard 76 = .ok (.bipush (-9), 2) := by decide +kernel
theorem dX7_readYard_78 : decode cX7_readYard 78 = .ok (.if_icmp .ne 7, 3) := by decide +kernel
theorem dX7_readYard_81 : decode cX7_readYard 81 = .ok (.iconst 0, 1) := by decide +kernel
theorem dX7_readYard_82 : decode cX7_readYard 82 = .ok (.goto 4, 3) := by decide +kernel
theorem dX7_readYard_85 : decode cX7_readYard 85 = .ok (.iconst 1, 1) := by decide +kernel
theorem dX7_readYard_86 : decode cX7_readYard 86 = .ok (.iadd, 1) := by decide +kernel
theorem dX7_readYard_87 : decode cX7_readYard 87 = .ok (.putfield 96, 3) := by decide +kernel
theorem dX7_readYard_90 : decode cX7_readYard 90 = .ok (.iconst 0, 1) := by decide +kernel
theorem dX7_readYard_91 : decode cX7_readYard 91 = .ok (.ireturn, 1) := by decide +kernel
theorem dX7_readYard_92 : decode cX7_readYard 92 = .ok (.aload_n 0, 1) := by decide +kernel
theorem dX7_readYard_93 : decode cX7_readYard 93 = .ok (.bipush 10, 2) := by decide +kernel
theorem dX7_readYard_95 : decode cX7_readYard 95 = .ok (.iload_n 2, 1) := by decide +kernel
theorem dX7_readYard_96 : decode cX7_readYard 96 = .ok (.imul, 1) := by decide +kernel
theorem dX7_readYard_97 : decode cX7_readYard 97 = .ok (.iload_n 3, 1) := by decide +kernel
theorem dX7_readYard_98 : decode cX7_readYard 98 = .ok (.iadd, 1) := by decide +kernel
theorem dX7_readYard_99 : decode cX7_readYard 99 = .ok (.putfield 102, 3) := by decide +kernel
theorem dX7_readYard_102 : decode cX7_readYard 102 = .ok (.aload_n 0, 1) := by decide +kernel
theorem dX7_readYard_103 : decode cX7_readYard 103 = .ok (.getfield 102, 3) := by decide +kernel
theorem dX7_readYard_106 : decode cX7_readYard 106 = .ok (.ifCond .ne 5, 3) := by decide +kernel
theorem dX7_readYard_109 : decode cX7_readYard 109 = .ok (.iconst 0, 1) := by decide +kernel
theorem dX7_readYard_110 : decode cX7_readYard 110 = .ok (.ireturn, 1) := by decide +kernel
theorem dX7_readYard_111 : decode cX7_readYard 111 = .ok (.aload_n 0, 1) := by decide +kernel
theorem dX7_readYard_112 : decode cX7_readYard 112 = .ok (.dup, 1) := by decide +kernel
theorem dX7_readYard_113 : decode cX7_readYard 113 = .ok (.getfield 96, 3) := by decide +kernel
theorem dX7_readYard_116 : decode cX7_readYard 116 = .ok (.iconst 2, 1) := by decide +kernel
theorem dX7_readYard_117 : decode cX7_readYard 117 = .ok (.iadd, 1) := by decide +kernel
theorem dX7_readYard_118 : decode cX7_readYard 118 = .ok (.putfield 96, 3) := by decide +kernel
theorem dX7_readYard_121 : decode cX7_readYard 121 = .ok (.aload_n 0, 1) := by decide +kernel
theorem dX7_readYard_122 : decode cX7_readYard 122 = .ok (.aload_n 0, 1) := by decide +kernel
theorem dX7_readYard_123 : decode cX7_readYard 123 = .ok (.aload_n 0, 1) := by decide +kernel
theorem dX7_readYard_124 : decode cX7_readYard 124 = .ok (.getfield 96, 3) := by decide +kernel
theorem dX7_readYard_127 : decode cX7_readYard 127 = .ok (.iload_n 1, 1) := by decide +kernel
theorem dX7_readYard_128 : decode cX7_readYard 128 = .ok (.iconst 1, 1) := by decide +kernel
theorem dX7_readYard_129 : decode cX7_readYard 129 = .ok (.invokevirtual 132, 3) := by decide +kernel
theorem dX7_readYard_132 : decode cX7_readYard 132 = .ok (.putfield 108, 3) := by decide +kernel
theorem dX7_readYard_135 : decode cX7_readYard 135 = .ok (.aload_n 0, 1) := by decide +kernel
theorem dX7_readYard_136 : decode cX7_readYard 136 = .ok (.getfield 108, 3) := by decide +kernel
theorem dX7_readYard_139 : decode cX7_readYard 139 = .ok (.bipush (-9), 2) := by decide +kernel
theorem dX7_readYard_141 : decode cX7_readYard 141 = .ok (.if_icmp .ne 5, 3) := by decide +kernel
theorem dX7_readYard_144 : decode cX7_readYard 144 = .ok (.iconst 0, 1) := by decide +kernel
theorem dX7_readYard_145 : decode cX7_readYard 145 = .ok (.ireturn, 1) := by decide +kernel
theorem dX7_readYard_146 : decode cX7_readYard 146 = .ok (.aload_n 0, 1) := by decide +kernel
theorem dX7_readYard_147 : decode cX7_readYard 147 = .ok (.dup, 1) := by decide +kernel
theorem dX7_readYard_148 : decode cX7_readYard 148 = .ok (.getfield 96, 3) := by decide +kernel
theorem dX7_readYard_151 : decode cX7_readYard 151 = .ok (.iconst 1, 1) := by decide +kernel
theorem dX7_readYard_152 : decode cX7_readYard 152 = .ok (.iadd, 1) := by decide +kernel
theorem dX7_readYard_153 : decode cX7_readYard 153 = .ok (.putfield 96, 3) := by decide +kernel
theorem dX7_readYard_156 : decode cX7_readYard 156 = .ok (.aload_n 0, 1) := by decide +kernel
theorem dX7_readYard_157 : decode cX7_readYard 157 = .ok (.iconst 0, 1) := by decide +kernel
theorem dX7_readYard_158 : decode cX7_readYard 158 = .ok (.putfield 114, 3) := by decide +kernel
theorem dX7_readYard_161 : decode cX7_readYard 161 = .ok (.aload_n 0, 1) := by decide +kernel
theorem dX7_readYard_162 : decode cX7_readYard 162 = .ok (.getfield 114, 3) := by decide +kernel
theorem dX7_readYard_165 : decode cX7_readYard 165 = .ok (.ifCond .eq 11, 3) := by decide +kernel
theorem dX7_readYard_168 : decode cX7_readYard 168 = .ok (.aload_n 0, 1) := by decide +kernel
theorem dX7_readYard_169 : decode cX7_readYard 169 = .ok (.getfield 96, 3) := by decide +kernel
theorem dX7_readYard_172 : decode cX7_readYard 172 = .ok (.iload_n 1, 1) := by decide +kernel
theorem dX7_readYard_173 : decode cX7_readYard 173 = .ok (.if_icmp .ge 56, 3) := by decide +kernel
theorem dX7_readYard_176 : decode cX7_readYard 176 = .ok (.aload_n 0, 1) := by decide +kernel
theorem dX7_readYard_177 : decode cX7_readYard 177 = .ok (.getfield 114, 3) := by decide +kernel
theorem dX7_readYard_180 : decode cX7_readYard 180 = .ok (.bipush 6, 2) := by decide +kernel
theorem dX7_readYard_182 : decode cX7_readYard 182 = .ok (.if_icmp .eq 25, 3) := by decide +kernel
theorem dX7_readYard_185 : decode cX7_readYard 185 = .ok (.aload_n 0, 1) := by decide +kernel
theorem dX7_readYard_186 : decode cX7_readYard 186 = .ok (.getfield 96, 3) := by decide +kernel
theorem dX7_readYard_189 : decode cX7_readYard 189 = .ok (.iload_n 1, 1) := by decide +kernel
theorem dX7_readYard_190 : decode cX7_readYard 190 = .ok (.if_icmp .ge 17, 3) := by decide +kernel
theorem dX7_readYard_193 : decode cX7_readYard 193 = .ok (.aload_n 0, 1) := by decide +kernel
theorem dX7_readYard_194 : decode cX7_readYard 194 = .ok (.getfield 16, 3) := by decide +kernel
theorem dX7_readYard_197 : decode cX7_readYard 197 = .ok (.aload_n 0, 1) := by decide +kernel
theorem dX7_readYard_198 : decode cX7_readYard 198 = .ok (.getfield 96, 3) := by decide +kernel
theorem dX7_readYard_201 : decode cX7_readYard 201 = .ok (.iaload, 1) := by decide +kernel
theorem dX7_readYard_202 : decode cX7_readYard 202 = .ok (.bipush 59, 2) := by decide +kernel
theorem dX7_readYard_204 : decode cX7_readYard 204 = .ok (.if_icmp .eq 5, 3) := by decide +kernel
theorem dX7_readYard_207 : decode cX7_readYard 207 = .ok (.iconst 0, 1) := by decide +kernel
theorem dX7_readYard_208 : decode cX7_readYard 208 = .ok (.ireturn, 1) := by decide +kernel
theorem dX7_readYard_209 : decode cX7_readYard 209 = .ok (.aload_n 0, 1) := by decide +kernel
theorem dX7_readYard_210 : decode cX7_readYard 210 = .ok (.dup, 1) := by decide +kernel
theorem dX7_readYard_211 : decode cX7_readYard 211 = .ok (.getfield 96, 3) := by decide +kernel
theorem dX7_readYard_214 : decode cX7_readYard 214 = .ok (.iconst 1, 1) := by decide +kernel
theorem dX7_readYard_215 : decode cX7_readYard 215 = .ok (.iadd, 1) := by decide +kernel
theorem dX7_readYard_216 : decode cX7_readYard 216 = .ok (.putfield 96, 3) := by decide +kernel
theorem dX7_readYard_219 : decode cX7_readYard 219 = .ok (.aload_n 0, 1) := by decide +kernel
theorem dX7_readYard_220 : decode cX7_readYard 220 = .ok (.iload_n 1, 1) := by decide +kernel
theorem dX7_readYard_221 : decode cX7_readYard 221 = .ok (.invokevirtual 136, 3) := by decide +kernel
theorem dX7_readYard_224 : decode cX7_readYard 224 = .ok (.ifCond .ne (-63), 3) := by decide +kernel
theorem dX7_readYard_227 : decode cX7_readYard 227 = .ok (.iconst 0, 1) := by decide +kernel
theorem dX7_readYard_228 : decode cX7_readYard 228 = .ok (.ireturn, 1) := by decide +kernel
theorem dX7_readYard_229 : decode cX7_readYard 229 = .ok (.iconst 1, 1) := by decide +kernel
theorem dX7_readYard_230 : decode cX7_readYard 230 = .ok (.ireturn, 1) := by decide +kernel
theorem dX7_readTap_0 : decode cX7_readTap 0 = .ok (.aload_n 0, 1) := by decide +kernel
theorem dX7_readTap_1 : decode cX7_readTap 1 = .ok (.getfield 96, 3) := by decide +kernel
theorem dX7_readTap_4 : decode cX7_readTap 4 = .ok (.iload_n 1, 1) := by decide +kernel
theorem dX7_readTap_5 : decode cX7_readTap 5 = .ok (.if_icmp .ge 15, 3) := by decide +kernel
theorem dX7_readTap_8 : decode cX7_readTap 8 = .ok (.aload_n 0, 1) := by decide +kernel
theorem dX7_readTap_9 : decode cX7_readTap 9 = .ok (.getfield 16, 3) := by decide +kernel
theorem dX7_readTap_12 : decode cX7_readTap 12 = .ok (.aload_n 0, 1) := by decide +kernel
theorem dX7_readTap_13 : decode cX7_readTap 13 = .ok (.getfield 96, 3) := by decide +kernel
theorem dX7_readTap_16 : decode cX7_readTap 16 = .ok (.iaload, 1) := by decide +kernel
theorem dX7_readTap_17 : decode cX7_readTap 17 = .ok (.goto 4, 3) := by decide +kernel
theorem dX7_readTap_20 : decode cX7_readTap 20 = .ok (.iconst 0, 1) := by decide +kernel
theorem dX7_readTap_21 : decode cX7_readTap 21 = .ok (.istore_n 2, 1) := by decide +kernel
theorem dX7_readTap_22 : decode cX7_readTap 22 = .ok (.aload_n 0, 1) := by decide +kernel
theorem dX7_readTap_23 : decode cX7_readTap 23 = .ok (.getfield 34, 3) := by decide +kernel
theorem dX7_readTap_26 : decode cX7_readTap 26 = .ok (.aload_n 0, 1) := by decide +kernel
theorem dX7_readTap_27 : decode cX7_readTap 27 = .ok (.getfield 114, 3) := by decide +kernel
theorem dX7_readTap_30 : decode cX7_readTap 30 = .ok (.iload_n 2, 1) := by decide +kernel
theorem dX7_readTap_31 : decode cX7_readTap 31 = .ok (.bipush 102, 2) := by decide +kernel
theorem dX7_readTap_33 : decode cX7_readTap 33 = .ok (.if_icmp .ne 7, 3) := by decide +kernel
theorem dX7_readTap_36 : decode cX7_readTap 36 = .ok (.iconst 0, 1) := by decide +kernel
theorem dX7_readTap_37 : decode cX7_readTap 37 = .ok (.goto 25, 3) := by decide +kernel
theorem dX7_readTap_40 : decode cX7_readTap 40 = .ok (.iload_n 2, 1) := by decide +kernel
theorem dX7_readTap_41 : decode cX7_readTap 41 = .ok (.bipush 103, 2) := by decide +kernel
theorem dX7_readTap_43 : decode cX7_readTap 43 = .ok (.if_icmp .ne 7, 3) := by decide +kernel
theorem dX7_readTap_46 : decode cX7_readTap 46 = .ok (.iconst 1, 1) := by decide +kernel
theorem dX7_readTap_47 : decode cX7_readTap 47 = .ok (.goto 15, 3) := by decide +kernel
theorem dX7_readTap_50 : decode cX7_readTap 50 = .ok (.iload_n 2, 1) := by decide +kernel
theorem dX7_readTap_51 : decode cX7_readTap 51 = .ok (.bipush 111, 2) := by decide +kernel
theorem dX7_readTap_53 : decode cX7_readTap 53 = .ok (.if_icmp .ne 7, 3) := by decide +kernel
theorem dX7_readTap_56 : decode cX7_readTap 56 = .ok (.iconst 2, 1) := by decide +kernel
theorem dX7_readTap_57 : decode cX7_readTap 57 = .ok (.goto 5, 3) := by decide +kernel
theorem dX7_readTap_60 : decode cX7_readTap 60 = .ok (.bipush (-9), 2) := by decide +kernel
theorem dX7_readTap_62 : decode cX7_readTap 62 = .ok (.iastore, 1) := by decide +kernel
theorem dX7_readTap_63 : decode cX7_readTap 63 = .ok (.aload_n 0, 1) := by decide +kernel
theorem dX7_readTap_64 : decode cX7_readTap 64 = .ok (.getfield 34, 3) := by decide +kernel
theorem dX7_readTap_67 : decode cX7_readTap 67 = .ok (.aload_n 0, 1) := by decide +kernel
theorem dX7_readTap_68 : decode cX7_readTap 68 = .ok (.getfield 114, 3) := by decide +kernel
theorem dX7_readTap_71 : decode cX7_readTap 71 = .ok (.iaload, 1) := by decide +kernel
theorem dX7_readTap_72 : decode cX7_readTap 72 = .ok (.bipush (-9), 2) := by decide +kernel
theorem dX7_readTap_74 : decode cX7_readTap 74 = .ok (.if_icmp .ne 5, 3) := by decide +kernel
theorem dX7_readTap_77 : decode cX7_readTap 77 = .ok (.iconst 0, 1) := by decide +kernel
theorem dX7_readTap_78 : decode cX7_readTap 78 = .ok (.ireturn, 1) := by decide +kernel
theorem dX7_readTap_79 : decode cX7_readTap 79 = .ok (.aload_n 0, 1) := by decide +kernel
theorem dX7_readTap_80 : decode cX7_readTap 80 = .ok (.dup, 1) := by decide +kernel
theorem dX7_readTap_81 : decode cX7_readTap 81 = .ok (.getfield 96, 3) := by decide +kernel
theorem dX7_readTap_84 : decode cX7_readTap 84 = .ok (.iconst 1, 1) := by decide +kernel
theorem dX7_readTap_85 : decode cX7_readTap 85 = .ok (.iadd, 1) := by decide +kernel
theorem dX7_readTap_86 : decode cX7_readTap 86 = .ok (.putfield 96, 3) := by decide +kernel
theorem dX7_readTap_89 : decode cX7_readTap 89 = .ok (.iconst 0, 1) := by decide +kernel
theorem dX7_readTap_90 : decode cX7_readTap 90 = .ok (.istore_n 3, 1) := by decide +kernel
theorem dX7_readTap_91 : decode cX7_readTap 91 = .ok (.iload_n 3, 1) := by decide +kernel
theorem dX7_readTap_92 : decode cX7_readTap 92 = .ok (.iconst 3, 1) := by decide +kernel
theorem dX7_readTap_93 : decode cX7_readTap 93 = .ok (.if_icmp .ge 63, 3) := by decide +kernel
theorem dX7_readTap_96 : decode cX7_readTap 96 = .ok (.aload_n 0, 1) := by decide +kernel
theorem dX7_readTap_97 : decode cX7_readTap 97 = .ok (.aload_n 0, 1) := by decide +kernel
theorem dX7_readTap_98 : decode cX7_readTap 98 = .ok (.getfield 96, 3) := by decide +kernel
theorem dX7_readTap_101 : decode cX7_readTap 101 = .ok (.iload_n 1, 1) := by decide +kernel
theorem dX7_readTap_102 : decode cX7_readTap 102 = .ok (.iload_n 3, 1) := by decide +kernel
theorem dX7_readTap_103 : decode cX7_readTap 103 = .ok (.ifCond .ne 7, 3) := by decide +kernel
theorem dX7_readTap_106 : decode cX7_readTap 106 = .ok (.iconst 0, 1) := by decide +kernel
theorem dX7_readTap_107 : decode cX7_readTap 107 = .ok (.goto 4, 3) := by decide +kernel
theorem dX7_readTap_110 : decode cX7_readTap 110 = .ok (.iconst 1, 1) := by decide +kernel
theorem dX7_readTap_111 : decode cX7_readTap 111 = .ok (.invokevirtual 132, 3) := by decide +kernel
theorem dX7_readTap_114 : decode cX7_readTap 114 = .ok (.istore 4, 2) := by decide +kernel
theorem dX7_readTap_116 : decode cX7_readTap 116 = .ok (.iload 4, 2) := by decide +kernel
theorem dX7_readTap_118 : decode cX7_readTap 118 = .ok (.bipush (-9), 2) := by decide +kernel
theorem dX7_readTap_120 : decode cX7_readTap 120 = .ok (.if_icmp .ne 5, 3) := by decide +kernel
theorem dX7_readTap_123 : decode cX7_readTap 123 = .ok (.iconst 0, 1) := by decide +kernel
theorem dX7_readTap_124 : decode cX7_readTap 124 = .ok (.ireturn, 1) := by decide +kernel
theorem dX7_readTap_125 : decode cX7_readTap 125 = .ok (.aload_n 0, 1) := by decide +kernel
theorem dX7_readTap_126 : decode cX7_readTap 126 = .ok (.getfield 37, 3) := by decide +kernel
theorem dX7_readTap_129 : decode cX7_readTap 129 = .ok (.iconst 3, 1) := by decide +kernel
theorem dX7_readTap_130 : decode cX7_readTap 130 = .ok (.aload_n 0, 1) := by decide +kernel
theorem dX7_readTap_131 : decode cX7_readTap 131 = .ok (.getfield 114, 3) := by decide +kernel
theorem dX7_readTap_134 : decode cX7_readTap 134 = .ok (.imul, 1) := by decide +kernel
theorem dX7_readTap_135 : decode cX7_readTap 135 = .ok (.iload_n 3, 1) := by decide +kernel
theorem dX7_readTap_136 : decode cX7_readTap 136 = .ok (.iadd, 1) := by decide +kernel
theorem dX7_readTap_137 : decode cX7_readTap 137 = .ok (.iload 4, 2) := by decide +kernel
theorem dX7_readTap_139 : decode cX7_readTap 139 = .ok (.iastore, 1) := by decide +kernel
theorem dX7_readTap_140 : decode cX7_readTap 140 = .ok (.aload_n 0, 1) := by decide +kernel
theorem dX7_readTap_141 : decode cX7_readTap 141 = .ok (.dup, 1) := by decide +kernel
theorem dX7_readTap_142 : decode cX7_readTap 142 = .ok (.getfield 96, 3) := by decide +kernel
theorem dX7_readTap_145 : decode cX7_readTap 145 = .ok (.iconst 1, 1) := by decide +kernel
theorem dX7_readTap_146 : decode cX7_readTap 146 = .ok (.iadd, 1) := by decide +kernel
theorem dX7_readTap_147 : decode cX7_readTap 147 = .ok (.putfield 96, 3) := by decide +kernel
theorem dX7_readTap_150 : decode cX7_readTap 150 = .ok (.iinc 3 1, 3) := by decide +kernel
theorem dX7_readTap_153 : decode cX7_readTap 153 = .ok (.goto (-62), 3) := by decide +kernel
theorem dX7_readTap_156 : decode cX7_readTap 156 = .ok (.aload_n 0, 1) := by decide +kernel
theorem dX7_readTap_157 : decode cX7_readTap 157 = .ok (.dup, 1) := by decide +kernel
theorem dX7_readTap_158 : decode cX7_readTap 158 = .ok (.getfield 114, 3) := by decide +kernel
theorem dX7_readTap_161 : decode cX7_readTap 161 = .ok (.iconst 1, 1) := by decide +kernel
theorem dX7_readTap_162 : decode cX7_readTap 162 = .ok (.iadd, 1) := by decide +kernel
theorem dX7_readTap_163 : decode cX7_readTap 163 = .ok (.putfield 114, 3) := by decide +kernel
theorem dX7_readTap_166 : decode cX7_readTap 166 = .ok (.iconst 1, 1) := by decide +kernel
theorem dX7_readTap_167 : decode cX7_readTap 167 = .ok (.ireturn, 1) := by decide +kernel
theorem dX7_wants_0 : decode cX7_wants 0 = .ok (.aload_n 0, 1) := by decide +kernel
theorem dX7_wants_1 : decode cX7_wants 1 = .ok (.getfield 19, 3) := by decide +kernel
theorem dX7_wants_4 : decode cX7_wants 4 = .ok (.iload_n 1, 1) := by decide +kernel
theorem dX7_wants_5 : decode cX7_wants 5 = .ok (.iaload, 1) := by decide +kernel
theorem dX7_wants_6 : decode cX7_wants 6 = .ok (.ifCond .ne 12, 3) := by decide +kernel
theorem dX7_wants_9 : decode cX7_wants 9 = .ok (.aload_n 0, 1) := by decide +kernel
theorem dX7_wants_10 : decode cX7_wants 10 = .ok (.getfield 25, 3) := by decide +kernel
theorem dX7_wants_13 : decode cX7_wants 13 = .ok (.iload_n 1, 1) := by decide +kernel
theorem dX7_wants_14 : decode cX7_wants 14 = .ok (.iaload, 1) := by decide +kernel
theorem dX7_wants_15 : decode cX7_wants 15 = .ok (.goto 27, 3) := by decide +kernel
theorem dX7_wants_18 : decode cX7_wants 18 = .ok (.aload_n 0, 1) := by decide +kernel
theorem dX7_wants_19 : decode cX7_wants 19 = .ok (.getfield 25, 3) := by decide +kernel
theorem dX7_wants_22 : decode cX7_wants 22 = .ok (.iload_n 1, 1) := by decide +kernel
theorem dX7_wants_23 : decode cX7_wants 23 = .ok (.iaload, 1) := by decide +kernel
theorem dX7_wants_24 : decode cX7_wants 24 = .ok (.aload_n 0, 1) := by decide +kernel
theorem dX7_wants_25 : decode cX7_wants 25 = .ok (.getfield 25, 3) := by decide +kernel
theorem dX7_wants_28 : decode cX7_wants 28 = .ok (.iload_n 1, 1) := by decide +kernel
theorem dX7_wants_29 : decode cX7_wants 29 = .ok (.iaload, 1) := by decide +kernel
theorem dX7_wants_30 : decode cX7_wants 30 = .ok (.iconst 2, 1) := by decide +kernel
theorem dX7_wants_31 : decode cX7_wants 31 = .ok (.idiv, 1) := by decide +kernel
theorem dX7_wants_32 : decode cX7_wants 32 = .ok (.iadd, 1) := by decide +kernel
theorem dX7_wants_33 : decode cX7_wants 33 = .ok (.aload_n 0, 1) := by decide +kernel
theorem dX7_wants_34 : decode cX7_wants 34 = .ok (.getfield 19, 3) := by decide +kernel
theorem dX7_wants_37 : decode cX7_wants 37 = .ok (.iload_n 1, 1) := by decide +kernel
theorem dX7_wants_38 : decode cX7_wants 38 = .ok (.iaload, 1) := by decide +kernel
theorem dX7_wants_39 : decode cX7_wants 39 = .ok (.iadd, 1) := by decide +kernel
theorem dX7_wants_40 : decode cX7_wants 40 = .ok (.iconst 1, 1) := by decide +kernel
theorem dX7_wants_41 : decode cX7_wants 41 = .ok (.isub, 1) := by decide +kernel
theorem dX7_wants_42 : decode cX7_wants 42 = .ok (.ireturn, 1) := by decide +kernel
theorem dX7_ofTap_0 : decode cX7_ofTap 0 = .ok (.aload_n 0, 1) := by decide +kernel
theorem dX7_ofTap_1 : decode cX7_ofTap 1 = .ok (.iload_n 1, 1) := by decide +kernel
theorem dX7_ofTap_2 : decode cX7_ofTap 2 = .ok (.invokevirtual 139, 3) := by decide +kernel
theorem dX7_ofTap_5 : decode cX7_ofTap 5 = .ok (.ifCond .ne 5, 3) := by decide +kernel
theorem dX7_ofTap_8 : decode cX7_ofTap 8 = .ok (.iconst (-1), 1) := by decide +kernel
theorem dX7_ofTap_9 : decode cX7_ofTap 9 = .ok (.ireturn, 1) := by decide +kernel
theorem dX7_ofTap_10 : decode cX7_ofTap 10 = .ok (.iload_n 2, 1) := by decide +kernel
theorem dX7_ofTap_11 : decode cX7_ofTap 11 = .ok (.tableswitch 67 0 4 #[33, 40, 47, 54, 61], 33) := by decide +kernel
theorem dX7_ofTap_44 : decode cX7_ofTap 44 = .ok (.aload_n 0, 1) := by decide +kernel
theorem dX7_ofTap_45 : decode cX7_ofTap 45 = .ok (.getfield 19, 3) := by decide +kernel
theorem dX7_ofTap_48 : decode cX7_ofTap 48 = .ok (.iload_n 1, 1) := by decide +kernel
theorem dX7_ofTap_49 : decode cX7_ofTap 49 = .ok (.iaload, 1) := by decide +kernel
theorem dX7_ofTap_50 : decode cX7_ofTap 50 = .ok (.ireturn, 1) := by decide +kernel
theorem dX7_ofTap_51 : decode cX7_ofTap 51 = .ok (.aload_n 0, 1) := by decide +kernel
theorem dX7_ofTap_52 : decode cX7_ofTap 52 = .ok (.getfield 22, 3) := by decide +kernel
theorem dX7_ofTap_55 : decode cX7_ofTap 55 = .ok (.iload_n 1, 1) := by decide +kernel
theorem dX7_ofTap_56 : decode cX7_ofTap 56 = .ok (.iaload, 1) := by decide +kernel
theorem dX7_ofTap_57 : decode cX7_ofTap 57 = .ok (.ireturn, 1) := by decide +kernel
theorem dX7_ofTap_58 : decode cX7_ofTap 58 = .ok (.aload_n 0, 1) := by decide +kernel
theorem dX7_ofTap_59 : decode cX7_ofTap 59 = .ok (.getfield 25, 3) := by decide +kernel
theorem dX7_ofTap_62 : decode cX7_ofTap 62 = .ok (.iload_n 1, 1) := by decide +kernel
theorem dX7_ofTap_63 : decode cX7_ofTap 63 = .ok (.iaload, 1) := by decide +kernel
theorem dX7_ofTap_64 : decode cX7_ofTap 64 = .ok (.ireturn, 1) := by decide +kernel
theorem dX7_ofTap_65 : decode cX7_ofTap 65 = .ok (.aload_n 0, 1) := by decide +kernel
theorem dX7_ofTap_66 : decode cX7_ofTap 66 = .ok (.getfield 28, 3) := by decide +kernel
theorem dX7_ofTap_69 : decode cX7_ofTap 69 = .ok (.iload_n 1, 1) := by decide +kernel
theorem dX7_ofTap_70 : decode cX7_ofTap 70 = .ok (.iaload, 1) := by decide +kernel
theorem dX7_ofTap_71 : decode cX7_ofTap 71 = .ok (.ireturn, 1) := by decide +kernel
theorem dX7_ofTap_72 : decode cX7_ofTap 72 = .ok (.aload_n 0, 1) := by decide +kernel
theorem dX7_ofTap_73 : decode cX7_ofTap 73 = .ok (.iload_n 1, 1) := by decide +kernel
theorem dX7_ofTap_74 : decode cX7_ofTap 74 = .ok (.invokevirtual 142, 3) := by decide +kernel
theorem dX7_ofTap_77 : decode cX7_ofTap 77 = .ok (.ireturn, 1) := by decide +kernel
theorem dX7_ofTap_78 : decode cX7_ofTap 78 = .ok (.bipush (-2), 2) := by decide +kernel
theorem dX7_ofTap_80 : decode cX7_ofTap 80 = .ok (.ireturn, 1) := by decide +kernel
theorem dX7_bore_0 : decode cX7_bore 0 = .ok (.aload_n 0, 1) := by decide +kernel
theorem dX7_bore_1 : decode cX7_bore 1 = .ok (.iload_n 1, 1) := by decide +kernel
theorem dX7_bore_2 : decode cX7_bore 2 = .ok (.invokevirtual 139, 3) := by decide +kernel
theorem dX7_bore_5 : decode cX7_bore 5 = .ok (.ifCond .ne 5, 3) := by decide +kernel
theorem dX7_bore_8 : decode cX7_bore 8 = .ok (.iconst (-1), 1) := by decide +kernel
theorem dX7_bore_9 : decode cX7_bore 9 = .ok (.ireturn, 1) := by decide +kernel
theorem dX7_bore_10 : decode cX7_bore 10 = .ok (.iload_n 2, 1) := by decide +kernel
theorem dX7_bore_11 : decode cX7_bore 11 = .ok (.iconst 0, 1) := by decide +kernel
theorem dX7_bore_12 : decode cX7_bore 12 = .ok (.bipush 9, 2) := by decide +kernel
theorem dX7_bore_14 : decode cX7_bore 14 = .ok (.invokestatic 74, 3) := by decide +kernel
theorem dX7_bore_17 : decode cX7_bore 17 = .ok (.ifCond .ne 6, 3) := by decide +kernel
theorem dX7_bore_20 : decode cX7_bore 20 = .ok (.bipush (-2), 2) := by decide +kernel
theorem dX7_bore_22 : decode cX7_bore 22 = .ok (.ireturn, 1) := by decide +kernel
theorem dX7_bore_23 : decode cX7_bore 23 = .ok (.aload_n 0, 1) := by decide +kernel
theorem dX7_bore_24 : decode cX7_bore 24 = .ok (.getfield 22, 3) := by decide +kernel
theorem dX7_bore_27 : decode cX7_bore 27 = .ok (.iload_n 1, 1) := by decide +kernel
theorem dX7_bore_28 : decode cX7_bore 28 = .ok (.iaload, 1) := by decide +kernel
theorem dX7_bore_29 : decode cX7_bore 29 = .ok (.istore_n 3, 1) := by decide +kernel
theorem dX7_bore_30 : decode cX7_bore 30 = .ok (.aload_n 0, 1) := by decide +kernel
theorem dX7_bore_31 : decode cX7_bore 31 = .ok (.getfield 22, 3) := by decide +kernel
theorem dX7_bore_34 : decode cX7_bore 34 = .ok (.iload_n 1, 1) := by decide +kernel
theorem dX7_bore_35 : decode cX7_bore 35 = .ok (.iload_n 2, 1) := by decide +kernel
theorem dX7_bore_36 : decode cX7_bore 36 = .ok (.iastore, 1) := by decide +kernel
theorem dX7_bore_37 : decode cX7_bore 37 = .ok (.iload_n 3, 1) := by decide +kernel
theorem dX7_bore_38 : decode cX7_bore 38 = .ok (.ireturn, 1) := by decide +kernel
theorem dX7_begin_0 : decode cX7_begin 0 = .ok (.aload_n 0, 1) := by decide +kernel
theorem dX7_begin_1 : decode cX7_begin 1 = .ok (.getfield 78, 3) := by decide +kernel
theorem dX7_begin_4 : decode cX7_begin 4 = .ok (.ifCond .ne 6, 3) := by decide +kernel
theorem dX7_begin_7 : decode cX7_begin 7 = .ok (.bipush (-3), 2) := by decide +kernel
theorem dX7_begin_9 : decode cX7_begin 9 = .ok (.ireturn, 1) := by decide +kernel
theorem dX7_begin_10 : decode cX7_begin 10 = .ok (.iload_n 1, 1) := by decide +kernel
theorem dX7_begin_11 : decode cX7_begin 11 = .ok (.iconst 0, 1) := by decide +kernel
theorem dX7_begin_12 : decode cX7_begin 12 = .ok (.aload_n 0, 1) := by decide +kernel
theorem dX7_begin_13 : decode cX7_begin 13 = .ok (.getfield 105, 3) := by decide +kernel
theorem dX7_begin_16 : decode cX7_begin 16 = .ok (.invokestatic 74, 3) := by decide +kernel
theorem dX7_begin_19 : decode cX7_begin 19 = .ok (.ifCond .ne 6, 3) := by decide +kernel
theorem dX7_begin_22 : decode cX7_begin 22 = .ok (.bipush (-2), 2) := by decide +kernel
theorem dX7_begin_24 : decode cX7_begin 24 = .ok (.ireturn, 1) := by decide +kernel
theorem dX7_begin_25 : decode cX7_begin 25 = .ok (.aload_n 0, 1) := by decide +kernel
theorem dX7_begin_26 : decode cX7_begin 26 = .ok (.getfield 117, 3) := by decide +kernel
theorem dX7_begin_29 : decode cX7_begin 29 = .ok (.istore_n 2, 1) := by decide +kernel
theorem dX7_begin_30 : decode cX7_begin 30 = .ok (.aload_n 0, 1) := by decide +kernel
theorem dX7_begin_31 : decode cX7_begin 31 = .ok (.iload_n 1, 1) := by decide +kernel
theorem dX7_begin_32 : decode cX7_begin 32 = .ok (.putfield 117, 3) := by decide +kernel
theorem dX7_begin_35 : decode cX7_begin 35 = .ok (.iload_n 2, 1) := by decide +kernel
theorem dX7_begin_36 : decode cX7_begin 36 = .ok (.ireturn, 1) := by decide +kernel
theorem dX7_rain_0 : decode cX7_rain 0 = .ok (.iload_n 1, 1) := by decide +kernel
theorem dX7_rain_1 : decode cX7_rain 1 = .ok (.invokestatic 145, 3) := by decide +kernel
theorem dX7_rain_4 : decode cX7_rain 4 = .ok (.ifCond .ne 5, 3) := by decide +kernel
theorem dX7_rain_7 : decode cX7_rain 7 = .ok (.iconst (-1), 1) := by decide +kernel
theorem dX7_rain_8 : decode cX7_rain 8 = .ok (.ireturn, 1) := by decide +kernel
theorem dX7_rain_9 : decode cX7_rain 9 = .ok (.iload_n 2, 1) := by decide +kernel
theorem dX7_rain_10 : decode cX7_rain 10 = .ok (.iconst 0, 1) := by decide +kernel
theorem dX7_rain_11 : decode cX7_rain 11 = .ok (.bipush 99, 2) := by decide +kernel
theorem dX7_rain_13 : decode cX7_rain 13 = .ok (.invokestatic 74, 3) := by decide +kernel
theorem dX7_rain_16 : decode cX7_rain 16 = .ok (.ifCond .ne 6, 3) := by decide +kernel
theorem dX7_rain_19 : decode cX7_rain 19 = .ok (.bipush (-2), 2) := by decide +kernel
theorem dX7_rain_21 : decode cX7_rain 21 = .ok (.ireturn, 1) := by decide +kernel
theorem dX7_rain_22 : decode cX7_rain 22 = .ok (.aload_n 0, 1) := by decide +kernel
theorem dX7_rain_23 : decode cX7_rain 23 = .ok (.getfield 78, 3) := by decide +kernel
theorem dX7_rain_26 : decode cX7_rain 26 = .ok (.ifCond .ne 6, 3) := by decide +kernel
theorem dX7_rain_29 : decode cX7_rain 29 = .ok (.bipush (-3), 2) := by decide +kernel
theorem dX7_rain_31 : decode cX7_rain 31 = .ok (.ireturn, 1) := by decide +kernel
theorem dX7_rain_32 : decode cX7_rain 32 = .ok (.aload_n 0, 1) := by decide +kernel
theorem dX7_rain_33 : decode cX7_rain 33 = .ok (.getfield 31, 3) := by decide +kernel
theorem dX7_rain_36 : decode cX7_rain 36 = .ok (.iload_n 1, 1) := by decide +kernel
theorem dX7_rain_37 : decode cX7_rain 37 = .ok (.iaload, 1) := by decide +kernel
theorem dX7_rain_38 : decode cX7_rain 38 = .ok (.istore_n 3, 1) := by decide +kernel
theorem dX7_rain_39 : decode cX7_rain 39 = .ok (.aload_n 0, 1) := by decide +kernel
theorem dX7_rain_40 : decode cX7_rain 40 = .ok (.getfield 31, 3) := by decide +kernel
theorem dX7_rain_43 : decode cX7_rain 43 = .ok (.iload_n 1, 1) := by decide +kernel
theorem dX7_rain_44 : decode cX7_rain 44 = .ok (.iload_n 2, 1) := by decide +kernel
theorem dX7_rain_45 : decode cX7_rain 45 = .ok (.iastore, 1) := by decide +kernel
theorem dX7_rain_46 : decode cX7_rain 46 = .ok (.iload_n 3, 1) := by decide +kernel
theorem dX7_rain_47 : decode cX7_rain 47 = .ok (.ireturn, 1) := by decide +kernel
theorem dX7_law_0 : decode cX7_law 0 = .ok (.iload_n 1, 1) := by decide +kernel
theorem dX7_law_1 : decode cX7_law 1 = .ok (.iconst 0, 1) := by decide +kernel
theorem dX7_law_2 : decode cX7_law 2 = .ok (.iconst 2, 1) := by decide +kernel
theorem dX7_law_3 : decode cX7_law 3 = .ok (.invokestatic 74, 3) := by decide +kernel
theorem dX7_law_6 : decode cX7_law 6 = .ok (.ifCond .ne 6, 3) := by decide +kernel
theorem dX7_law_9 : decode cX7_law 9 = .ok (.bipush (-2), 2) := by decide +kernel
theorem dX7_law_11 : decode cX7_law 11 = .ok (.ireturn, 1) := by decide +kernel
theorem dX7_law_12 : decode cX7_law 12 = .ok (.aload_n 0, 1) := by decide +kernel
theorem dX7_law_13 : decode cX7_law 13 = .ok (.getfield 78, 3) := by decide +kernel
theorem dX7_law_16 : decode cX7_law 16 = .ok (.ifCond .ne 6, 3) := by decide +kernel
theorem dX7_law_19 : decode cX7_law 19 = .ok (.bipush (-3), 2) := by decide +kernel
theorem dX7_law_21 : decode cX7_law 21 = .ok (.ireturn, 1) := by decide +kernel
theorem dX7_law_22 : decode cX7_law 22 = .ok (.aload_n 0, 1) := by decide +kernel
theorem dX7_law_23 : decode cX7_law 23 = .ok (.getfield 120, 3) := by decide +kernel
theorem dX7_law_26 : decode cX7_law 26 = .ok (.istore_n 2, 1) := by decide +kernel
theorem dX7_law_27 : decode cX7_law 27 = .ok (.aload_n 0, 1) := by decide +kernel
theorem dX7_law_28 : decode cX7_law 28 = .ok (.iload_n 1, 1) := by decide +kernel
theorem dX7_law_29 : decode cX7_law 29 = .ok (.putfield 120, 3) := by decide +kernel
theorem dX7_law_32 : decode cX7_law 32 = .ok (.iload_n 2, 1) := by decide +kernel
theorem dX7_law_33 : decode cX7_law 33 = .ok (.ireturn, 1) := by decide +kernel
theorem dX7_leak_0 : decode cX7_leak 0 = .ok (.iload_n 1, 1) := by decide +kernel
theorem dX7_leak_1 : decode cX7_leak 1 = .ok (.iconst 0, 1) := by decide +kernel
theorem dX7_leak_2 : decode cX7_leak 2 = .ok (.bipush 9, 2) := by decide +kernel
theorem dX7_leak_4 : decode cX7_leak 4 = .ok (.invokestatic 74, 3) := by decide +kernel
theorem dX7_leak_7 : decode cX7_leak 7 = .ok (.ifCond .eq 13, 3) := by decide +kernel
theorem dX7_leak_10 : decode cX7_leak 10 = .ok (.iload_n 2, 1) := by decide +kernel
theorem dX7_leak_11 : decode cX7_leak 11 = .ok (.iconst 0, 1) := by decide +kernel
theorem dX7_leak_12 : decode cX7_leak 12 = .ok (.bipush 9, 2) := by decide +kernel
theorem dX7_leak_14 : decode cX7_leak 14 = .ok (.invokestatic 74, 3) := by decide +kernel
theorem dX7_leak_17 : decode cX7_leak 17 = .ok (.ifCond .ne 6, 3) := by decide +kernel
theorem dX7_leak_20 : decode cX7_leak 20 = .ok (.bipush (-2), 2) := by decide +kernel
theorem dX7_leak_22 : decode cX7_leak 22 = .ok (.ireturn, 1) := by decide +kernel
theorem dX7_leak_23 : decode cX7_leak 23 = .ok (.aload_n 0, 1) := by decide +kernel
theorem dX7_leak_24 : decode cX7_leak 24 = .ok (.getfield 78, 3) := by decide +kernel
theorem dX7_leak_27 : decode cX7_leak 27 = .ok (.ifCond .ne 6, 3) := by decide +kernel
theorem dX7_leak_30 : decode cX7_leak 30 = .ok (.bipush (-3), 2) := by decide +kernel
theorem dX7_leak_32 : decode cX7_leak 32 = .ok (.ireturn, 1) := by decide +kernel
theorem dX7_leak_33 : decode cX7_leak 33 = .ok (.bipush 10, 2) := by decide +kernel
theorem dX7_leak_35 : decode cX7_leak 35 = .ok (.aload_n 0, 1) := by decide +kernel
theorem dX7_leak_36 : decode cX7_leak 36 = .ok (.getfield 123, 3) := by decide +kernel
theorem dX7_leak_39 : decode cX7_leak 39 = .ok (.imul, 1) := by decide +kernel
theorem dX7_leak_40 : decode cX7_leak 40 = .ok (.aload_n 0, 1) := by decide +kernel
theorem dX7_leak_41 : decode cX7_leak 41 = .ok (.getfield 126, 3) := by decide +kernel
theorem dX7_leak_44 : decode cX7_leak 44 = .ok (.iadd, 1) := by decide +kernel
theorem dX7_leak_45 : decode cX7_leak 45 = .ok (.istore_n 3, 1) := by decide +kernel
theorem dX7_leak_46 : decode cX7_leak 46 = .ok (.aload_n 0, 1) := by decide +kernel
theorem dX7_leak_47 : decode cX7_leak 47 = .ok (.iload_n 1, 1) := by decide +kernel
theorem dX7_leak_48 : decode cX7_leak 48 = .ok (.putfield 123, 3) := by decide +kernel
theorem dX7_leak_51 : decode cX7_leak 51 = .ok (.aload_n 0, 1) := by decide +kernel
theorem dX7_leak_52 : decode cX7_leak 52 = .ok (.iload_n 2, 1) := by decide +kernel
theorem dX7_leak_53 : decode cX7_leak 53 = .ok (.putfield 126, 3) := by decide +kernel
theorem dX7_leak_56 : decode cX7_leak 56 = .ok (.iload_n 3, 1) := by decide +kernel
theorem dX7_leak_57 : decode cX7_leak 57 = .ok (.ireturn, 1) := by decide +kernel
theorem dX7_gives_0 : decode cX7_gives 0 = .ok (.aload_n 0, 1) := by decide +kernel
theorem dX7_gives_1 : decode cX7_gives 1 = .ok (.getfield 148, 3) := by decide +kernel
theorem dX7_gives_4 : decode cX7_gives 4 = .ok (.aload_n 0, 1) := by decide +kernel
theorem dX7_gives_5 : decode cX7_gives 5 = .ok (.getfield 22, 3) := by decide +kernel
theorem dX7_gives_8 : decode cX7_gives 8 = .ok (.iload_n 1, 1) := by decide +kernel
theorem dX7_gives_9 : decode cX7_gives 9 = .ok (.iaload, 1) := by decide +kernel
theorem dX7_gives_10 : decode cX7_gives 10 = .ok (.aload_n 0, 1) := by decide +kernel
theorem dX7_gives_11 : decode cX7_gives 11 = .ok (.getfield 111, 3) := by decide +kernel
theorem dX7_gives_14 : decode cX7_gives 14 = .ok (.imul, 1) := by decide +kernel
theorem dX7_gives_15 : decode cX7_gives 15 = .ok (.isub, 1) := by decide +kernel
theorem dX7_gives_16 : decode cX7_gives 16 = .ok (.istore_n 2, 1) := by decide +kernel
theorem dX7_gives_17 : decode cX7_gives 17 = .ok (.iload_n 2, 1) := by decide +kernel
theorem dX7_gives_18 : decode cX7_gives 18 = .ok (.ifCond .le 7, 3) := by decide +kernel
theorem dX7_gives_21 : decode cX7_gives 21 = .ok (.iload_n 2, 1) := by decide +kernel
theorem dX7_gives_22 : decode cX7_gives 22 = .ok (.goto 4, 3) := by decide +kernel
theorem dX7_gives_25 : decode cX7_gives 25 = .ok (.iconst 0, 1) := by decide +kernel
theorem dX7_gives_26 : decode cX7_gives 26 = .ok (.ireturn, 1) := by decide +kernel
theorem dX7_draw_0 : decode cX7_draw 0 = .ok (.iload_n 2, 1) := by decide +kernel
theorem dX7_draw_1 : decode cX7_draw 1 = .ok (.aload_n 0, 1) := by decide +kernel
theorem dX7_draw_2 : decode cX7_draw 2 = .ok (.iload_n 1, 1) := by decide +kernel
theorem dX7_draw_3 : decode cX7_draw 3 = .ok (.invokevirtual 151, 3) := by decide +kernel
theorem dX7_draw_6 : decode cX7_draw 6 = .ok (.if_icmp .ge 7, 3) := by decide +kernel
theorem dX7_draw_9 : decode cX7_draw 9 = .ok (.iload_n 2, 1) := by decide +kernel
theorem dX7_draw_10 : decode cX7_draw 10 = .ok (.goto 8, 3) := by decide +kernel
theorem dX7_draw_13 : decode cX7_draw 13 = .ok (.aload_n 0, 1) := by decide +kernel
theorem dX7_draw_14 : decode cX7_draw 14 = .ok (.iload_n 1, 1) := by decide +kernel
theorem dX7_draw_15 : decode cX7_draw 15 = .ok (.invokevirtual 151, 3) := by decide +kernel
theorem dX7_draw_18 : decode cX7_draw 18 = .ok (.istore_n 3, 1) := by decide +kernel
theorem dX7_draw_19 : decode cX7_draw 19 = .ok (.aload_n 0, 1) := by decide +kernel
theorem dX7_draw_20 : decode cX7_draw 20 = .ok (.getfield 49, 3) := by decide +kernel
theorem dX7_draw_23 : decode cX7_draw 23 = .ok (.iload_n 1, 1) := by decide +kernel
theorem dX7_draw_24 : decode cX7_draw 24 = .ok (.dup2, 1) := by decide +kernel
theorem dX7_draw_25 : decode cX7_draw 25 = .ok (.iaload, 1) := by decide +kernel
theorem dX7_draw_26 : decode cX7_draw 26 = .ok (.iload_n 3, 1) := by decide +kernel
theorem dX7_draw_27 : decode cX7_draw 27 = .ok (.iadd, 1) := by decide +kernel
theorem dX7_draw_28 : decode cX7_draw 28 = .ok (.iastore, 1) := by decide +kernel
theorem dX7_draw_29 : decode cX7_draw 29 = .ok (.aload_n 0, 1) := by decide +kernel
theorem dX7_draw_30 : decode cX7_draw 30 = .ok (.dup, 1) := by decide +kernel
theorem dX7_draw_31 : decode cX7_draw 31 = .ok (.getfield 148, 3) := by decide +kernel
theorem dX7_draw_34 : decode cX7_draw 34 = .ok (.iload_n 3, 1) := by decide +kernel
theorem dX7_draw_35 : decode cX7_draw 35 = .ok (.isub, 1) := by decide +kernel
theorem dX7_draw_36 : decode cX7_draw 36 = .ok (.putfield 148, 3) := by decide +kernel
theorem dX7_draw_39 : decode cX7_draw 39 = .ok (.return_, 1) := by decide +kernel
theorem dX7_wantsNow_0 : decode cX7_wantsNow 0 = .ok (.aload_n 0, 1) := by decide +kernel
theorem dX7_wantsNow_1 : decode cX7_wantsNow 1 = .ok (.getfield 154, 3) := by decide +kernel
theorem dX7_wantsNow_4 : decode cX7_wantsNow 4 = .ok (.ifCond .eq 12, 3) := by decide +kernel
theorem dX7_wantsNow_7 : decode cX7_wantsNow 7 = .ok (.aload_n 0, 1) := by decide +kernel
theorem dX7_wantsNow_8 : decode cX7_wantsNow 8 = .ok (.getfield 25, 3) := by decide +kernel
theorem dX7_wantsNow_11 : decode cX7_wantsNow 11 = .ok (.iload_n 1, 1) := by decide +kernel
theorem dX7_wantsNow_12 : decode cX7_wantsNow 12 = .ok (.iaload, 1) := by decide +kernel
theorem dX7_wantsNow_13 : decode cX7_wantsNow 13 = .ok (.goto 8, 3) := by decide +kernel
theorem dX7_wantsNow_16 : decode cX7_wantsNow 16 = .ok (.aload_n 0, 1) := by decide +kernel
theorem dX7_wantsNow_17 : decode cX7_wantsNow 17 = .ok (.iload_n 1, 1) := by decide +kernel
theorem dX7_wantsNow_18 : decode cX7_wantsNow 18 = .ok (.invokevirtual 142, 3) := by decide +kernel
theorem dX7_wantsNow_21 : decode cX7_wantsNow 21 = .ok (.ireturn, 1) := by decide +kernel
theorem dX7_nextTap_0 : decode cX7_nextTap 0 = .ok (.bipush (-9), 2) := by decide +kernel
theorem dX7_nextTap_2 : decode cX7_nextTap 2 = .ok (.istore_n 2, 1) := by decide +kernel
theorem dX7_nextTap_3 : decode cX7_nextTap 3 = .ok (.iconst 0, 1) := by decide +kernel
theorem dX7_nextTap_4 : decode cX7_nextTap 4 = .ok (.istore_n 3, 1) := by decide +kernel
theorem dX7_nextTap_5 : decode cX7_nextTap 5 = .ok (.iload_n 3, 1) := by decide +kernel
theorem dX7_nextTap_6 : decode cX7_nextTap 6 = .ok (.aload_n 0, 1) := by decide +kernel
theorem dX7_nextTap_7 : decode cX7_nextTap 7 = .ok (.getfield 78, 3) := by decide +kernel
theorem dX7_nextTap_10 : decode cX7_nextTap 10 = .ok (.if_icmp .ge 79, 3) := by decide +kernel
theorem dX7_nextTap_13 : decode cX7_nextTap 13 = .ok (.iload_n 2, 1) := by decide +kernel
theorem dX7_nextTap_14 : decode cX7_nextTap 14 = .ok (.bipush (-9), 2) := by decide +kernel
theorem dX7_nextTap_16 : decode cX7_nextTap 16 = .ok (.if_icmp .eq 40, 3) := by decide +kernel
theorem dX7_nextTap_19 : decode cX7_nextTap 19 = .ok (.iload_n 1, 1) := by decide +kernel
theorem dX7_nextTap_20 : decode cX7_nextTap 20 = .ok (.ifCond .eq 21, 3) := by decide +kernel
theorem dX7_nextTap_23 : decode cX7_nextTap 23 = .ok (.aload_n 0, 1) := by decide +kernel
theorem dX7_nextTap_24 : decode cX7_nextTap 24 = .ok (.getfield 22, 3) := by decide +kernel
theorem dX7_nextTap_27 : decode cX7_nextTap 27 = .ok (.iload_n 3, 1) := by decide +kernel
theorem dX7_nextTap_28 : decode cX7_nextTap 28 = .ok (.iaload, 1) := by decide +kernel
theorem dX7_nextTap_29 : decode cX7_nextTap 29 = .ok (.aload_n 0, 1) := by decide +kernel
theorem dX7_nextTap_30 : decode cX7_nextTap 30 = .ok (.getfield 22, 3) := by decide +kernel
theorem dX7_nextTap_33 : decode cX7_nextTap 33 = .ok (.iload_n 2, 1) := by decide +kernel
theorem dX7_nextTap_34 : decode cX7_nextTap 34 = .ok (.iaload, 1) := by decide +kernel
theorem dX7_nextTap_35 : decode cX7_nextTap 35 = .ok (.if_icmp .le 25, 3) := by decide +kernel
theorem dX7_nextTap_38 : decode cX7_nextTap 38 = .ok (.goto 18, 3) := by decide +kernel
theorem dX7_nextTap_41 : decode cX7_nextTap 41 = .ok (.aload_n 0, 1) := by decide +kernel
theorem dX7_nextTap_42 : decode cX7_nextTap 42 = .ok (.getfield 22, 3) := by decide +kernel
theorem dX7_nextTap_45 : decode cX7_nextTap 45 = .ok (.iload_n 3, 1) := by decide +kernel
theorem dX7_nextTap_46 : decode cX7_nextTap 46 = .ok (.iaload, 1) := by decide +kernel
theorem dX7_nextTap_47 : decode cX7_nextTap 47 = .ok (.aload_n 0, 1) := by decide +kernel
theorem dX7_nextTap_48 : decode cX7_nextTap 48 = .ok (.getfield 22, 3) := by decide +kernel
theorem dX7_nextTap_51 : decode cX7_nextTap 51 = .ok (.iload_n 2, 1) := by decide +kernel
theorem dX7_nextTap_52 : decode cX7_nextTap 52 = .ok (.iaload, 1) := by decide +kernel
theorem dX7_nextTap_53 : decode cX7_nextTap 53 = .ok (.if_icmp .ge 7, 3) := by decide +kernel
theorem dX7_nextTap_56 : decode cX7_nextTap 56 = .ok (.iconst 1, 1) := by decide +kernel
theorem dX7_nextTap_57 : decode cX7_nextTap 57 = .ok (.goto 4, 3) := by decide +kernel
theorem dX7_nextTap_60 : decode cX7_nextTap 60 = .ok (.iconst 0, 1) := by decide +kernel
theorem dX7_nextTap_61 : decode cX7_nextTap 61 = .ok (.istore 4, 2) := by decide +kernel
theorem dX7_nextTap_63 : decode cX7_nextTap 63 = .ok (.aload_n 0, 1) := by decide +kernel
theorem dX7_nextTap_64 : decode cX7_nextTap 64 = .ok (.getfield 52, 3) := by decide +kernel
theorem dX7_nextTap_67 : decode cX7_nextTap 67 = .ok (.iload_n 3, 1) := by decide +kernel
theorem dX7_nextTap_68 : decode cX7_nextTap 68 = .ok (.baload, 1) := by decide +kernel
theorem dX7_nextTap_69 : decode cX7_nextTap 69 = .ok (.ifCond .ne 12, 3) := by decide +kernel
theorem dX7_nextTap_72 : decode cX7_nextTap 72 = .ok (.iload 4, 2) := by decide +kernel
theorem dX7_nextTap_74 : decode cX7_nextTap 74 = .ok (.ifCond .eq 7, 3) := by decide +kernel
theorem dX7_nextTap_77 : decode cX7_nextTap 77 = .ok (.iload_n 3, 1) := by decide +kernel
theorem dX7_nextTap_78 : decode cX7_nextTap 78 = .ok (.goto 4, 3) := by decide +kernel
theorem dX7_nextTap_81 : decode cX7_nextTap 81 = .ok (.iload_n 2, 1) := by decide +kernel
theorem dX7_nextTap_82 : decode cX7_nextTap 82 = .ok (.istore_n 2, 1) := by decide +kernel
theorem dX7_nextTap_83 : decode cX7_nextTap 83 = .ok (.iinc 3 1, 3) := by decide +kernel
theorem dX7_nextTap_86 : decode cX7_nextTap 86 = .ok (.goto (-81), 3) := by decide +kernel
theorem dX7_nextTap_89 : decode cX7_nextTap 89 = .ok (.iload_n 2, 1) := by decide +kernel
theorem dX7_nextTap_90 : decode cX7_nextTap 90 = .ok (.ireturn, 1) := by decide +kernel
theorem dX7_drawInOrder_0 : decode cX7_drawInOrder 0 = .ok (.iconst 0, 1) := by decide +kernel
theorem dX7_drawInOrder_1 : decode cX7_drawInOrder 1 = .ok (.istore_n 2, 1) := by decide +kernel
theorem dX7_drawInOrder_2 : decode cX7_drawInOrder 2 = .ok (.iload_n 2, 1) := by decide +kernel
theorem dX7_drawInOrder_3 : decode cX7_drawInOrder 3 = .ok (.aload_n 0, 1) := by decide +kernel
theorem dX7_drawInOrder_4 : decode cX7_drawInOrder 4 = .ok (.getfield 78, 3) := by decide +kernel
theorem dX7_drawInOrder_7 : decode cX7_drawInOrder 7 = .ok (.if_icmp .ge 16, 3) := by decide +kernel
theorem dX7_drawInOrder_10 : decode cX7_drawInOrder 10 = .ok (.aload_n 0, 1) := by decide +kernel
theorem dX7_drawInOrder_11 : decode cX7_drawInOrder 11 = .ok (.getfield 52, 3) := by decide +kernel
theorem dX7_drawInOrder_14 : decode cX7_drawInOrder 14 = .ok (.iload_n 2, 1) := by decide +kernel
theorem dX7_drawInOrder_15 : decode cX7_drawInOrder 15 = .ok (.iconst 0, 1) := by decide +kernel
theorem dX7_drawInOrder_16 : decode cX7_drawInOrder 16 = .ok (.bastore, 1) := by decide +kernel
theorem dX7_drawInOrder_17 : decode cX7_drawInOrder 17 = .ok (.iinc 2 1, 3) := by decide +kernel
theorem dX7_drawInOrder_20 : decode cX7_drawInOrder 20 = .ok (.goto (-18), 3) := by decide +kernel
theorem dX7_drawInOrder_23 : decode cX7_drawInOrder 23 = .ok (.aload_n 0, 1) := by decide +kernel
theorem dX7_drawInOrder_24 : decode cX7_drawInOrder 24 = .ok (.iload_n 1, 1) := by decide +kernel
theorem dX7_drawInOrder_25 : decode cX7_drawInOrder 25 = .ok (.invokevirtual 158, 3) := by decide +kernel
theorem dX7_drawInOrder_28 : decode cX7_drawInOrder 28 = .ok (.istore_n 2, 1) := by decide +kernel
theorem dX7_drawInOrder_29 : decode cX7_drawInOrder 29 = .ok (.iload_n 2, 1) := by decide +kernel
theorem dX7_drawInOrder_30 : decode cX7_drawInOrder 30 = .ok (.bipush (-9), 2) := by decide +kernel
theorem dX7_drawInOrder_32 : decode cX7_drawInOrder 32 = .ok (.if_icmp .eq 29, 3) := by decide +kernel
theorem dX7_drawInOrder_35 : decode cX7_drawInOrder 35 = .ok (.aload_n 0, 1) := by decide +kernel
theorem dX7_drawInOrder_36 : decode cX7_drawInOrder 36 = .ok (.iload_n 2, 1) := by decide +kernel
theorem dX7_drawInOrder_37 : decode cX7_drawInOrder 37 = .ok (.aload_n 0, 1) := by decide +kernel
theorem dX7_drawInOrder_38 : decode cX7_drawInOrder 38 = .ok (.iload_n 2, 1) := by decide +kernel
theorem dX7_drawInOrder_39 : decode cX7_drawInOrder 39 = .ok (.invokevirtual 162, 3) := by decide +kernel
theorem dX7_drawInOrder_42 : decode cX7_drawInOrder 42 = .ok (.invokevirtual 165, 3) := by decide +kernel
theorem dX7_drawInOrder_45 : decode cX7_drawInOrder 45 = .ok (.aload_n 0, 1) := by decide +kernel
theorem dX7_drawInOrder_46 : decode cX7_drawInOrder 46 = .ok (.getfield 52, 3) := by decide +kernel
theorem dX7_drawInOrder_49 : decode cX7_drawInOrder 49 = .ok (.iload_n 2, 1) := by decide +kernel
theorem dX7_drawInOrder_50 : decode cX7_drawInOrder 50 = .ok (.iconst 1, 1) := by decide +kernel
theorem dX7_drawInOrder_51 : decode cX7_drawInOrder 51 = .ok (.bastore, 1) := by decide +kernel
theorem dX7_drawInOrder_52 : decode cX7_drawInOrder 52 = .ok (.aload_n 0, 1) := by decide +kernel
theorem dX7_drawInOrder_53 : decode cX7_drawInOrder 53 = .ok (.iload_n 1, 1) := by decide +kernel
theorem dX7_drawInOrder_54 : decode cX7_drawInOrder 54 = .ok (.invokevirtual 158, 3) := by decide +kernel
theorem dX7_drawInOrder_57 : decode cX7_drawInOrder 57 = .ok (.istore_n 2, 1) := by decide +kernel
theorem dX7_drawInOrder_58 : decode cX7_drawInOrder 58 = .ok (.goto (-29), 3) := by decide +kernel
theorem dX7_drawInOrder_61 : decode cX7_drawInOrder 61 = .ok (.return_, 1) := by decide +kernel
theorem dX7_drawByTurns_0 : decode cX7_drawByTurns 0 = .ok (.aload_n 0, 1) := by decide +kernel
theorem dX7_drawByTurns_1 : decode cX7_drawByTurns 1 = .ok (.getfield 148, 3) := by decide +kernel
theorem dX7_drawByTurns_4 : decode cX7_drawByTurns 4 = .ok (.iconst 1, 1) := by decide +kernel
theorem dX7_drawByTurns_5 : decode cX7_drawByTurns 5 = .ok (.iadd, 1) := by decide +kernel
theorem dX7_drawByTurns_6 : decode cX7_drawByTurns 6 = .ok (.istore_n 1, 1) := by decide +kernel
theorem dX7_drawByTurns_7 : decode cX7_drawByTurns 7 = .ok (.aload_n 0, 1) := by decide +kernel
theorem dX7_drawByTurns_8 : decode cX7_drawByTurns 8 = .ok (.getfield 148, 3) := by decide +kernel
theorem dX7_drawByTurns_11 : decode cX7_drawByTurns 11 = .ok (.iload_n 1, 1) := by decide +kernel
theorem dX7_drawByTurns_12 : decode cX7_drawByTurns 12 = .ok (.if_icmp .ge 65, 3) := by decide +kernel
theorem dX7_drawByTurns_15 : decode cX7_drawByTurns 15 = .ok (.aload_n 0, 1) := by decide +kernel
theorem dX7_drawByTurns_16 : decode cX7_drawByTurns 16 = .ok (.getfield 148, 3) := by decide +kernel
theorem dX7_drawByTurns_19 : decode cX7_drawByTurns 19 = .ok (.istore_n 1, 1) := by decide +kernel
theorem dX7_drawByTurns_20 : decode cX7_drawByTurns 20 = .ok (.iconst 0, 1) := by decide +kernel
theorem dX7_drawByTurns_21 : decode cX7_drawByTurns 21 = .ok (.istore_n 2, 1) := by decide +kernel
theorem dX7_drawByTurns_22 : decode cX7_drawByTurns 22 = .ok (.iload_n 2, 1) := by decide +kernel
theorem dX7_drawByTurns_23 : decode cX7_drawByTurns 23 = .ok (.aload_n 0, 1) := by decide +kernel
theorem dX7_drawByTurns_24 : decode cX7_drawByTurns 24 = .ok (.getfield 78, 3) := by decide +kernel
theorem dX7_drawByTurns_27 : decode cX7_drawByTurns 27 = .ok (.if_icmp .ge 47, 3) := by decide +kernel
theorem dX7_drawByTurns_30 : decode cX7_drawByTurns 30 = .ok (.aload_n 0, 1) := by decide +kernel
theorem dX7_drawByTurns_31 : decode cX7_drawByTurns 31 = .ok (.iload_n 2, 1) := by decide +kernel
theorem dX7_drawByTurns_32 : decode cX7_drawByTurns 32 = .ok (.invokevirtual 162, 3) := by decide +kernel
theorem dX7_drawByTurns_35 : decode cX7_drawByTurns 35 = .ok (.aload_n 0, 1) := by decide +kernel
theorem dX7_drawByTurns_36 : decode cX7_drawByTurns 36 = .ok (.getfield 49, 3) := by decide +kernel
theorem dX7_drawByTurns_39 : decode cX7_drawByTurns 39 = .ok (.iload_n 2, 1) := by decide +kernel
theorem dX7_drawByTurns_40 : decode cX7_drawByTurns 40 = .ok (.iaload, 1) := by decide +kernel
theorem dX7_drawByTurns_41 : decode cX7_drawByTurns 41 = .ok (.isub, 1) := by decide +kernel
theorem dX7_drawByTurns_42 : decode cX7_drawByTurns 42 = .ok (.istore_n 3, 1) := by decide +kernel
theorem dX7_drawByTurns_43 : decode cX7_drawByTurns 43 = .ok (.aload_n 0, 1) := by decide +kernel
theorem dX7_drawByTurns_44 : decode cX7_drawByTurns 44 = .ok (.iload_n 2, 1) := by decide +kernel
theorem dX7_drawByTurns_45 : decode cX7_drawByTurns 45 = .ok (.iload_n 3, 1) := by decide +kernel
theorem dX7_drawByTurns_46 : decode cX7_drawByTurns 46 = .ok (.aload_n 0, 1) := by decide +kernel
theorem dX7_drawByTurns_47 : decode cX7_drawByTurns 47 = .ok (.getfield 28, 3) := by decide +kernel
theorem dX7_drawByTurns_50 : decode cX7_drawByTurns 50 = .ok (.iload_n 2, 1) := by decide +kernel
theorem dX7_drawByTurns_51 : decode cX7_drawByTurns 51 = .ok (.iaload, 1) := by decide +kernel
theorem dX7_drawByTurns_52 : decode cX7_drawByTurns 52 = .ok (.if_icmp .ge 7, 3) := by decide +kernel
theorem dX7_drawByTurns_55 : decode cX7_drawByTurns 55 = .ok (.iload_n 3, 1) := by decide +kernel
theorem dX7_drawByTurns_56 : decode cX7_drawByTurns 56 = .ok (.goto 9, 3) := by decide +kernel
theorem dX7_drawByTurns_59 : decode cX7_drawByTurns 59 = .ok (.aload_n 0, 1) := by decide +kernel
theorem dX7_drawByTurns_60 : decode cX7_drawByTurns 60 = .ok (.getfield 28, 3) := by decide +kernel
theorem dX7_drawByTurns_63 : decode cX7_drawByTurns 63 = .ok (.iload_n 2, 1) := by decide +kernel
theorem dX7_drawByTurns_64 : decode cX7_drawByTurns 64 = .ok (.iaload, 1) := by decide +kernel
theorem dX7_drawByTurns_65 : decode cX7_drawByTurns 65 = .ok (.invokevirtual 165, 3) := by decide +kernel
theorem dX7_drawByTurns_68 : decode cX7_drawByTurns 68 = .ok (.iinc 2 1, 3) := by decide +kernel
theorem dX7_drawByTurns_71 : decode cX7_drawByTurns 71 = .ok (.goto (-49), 3) := by decide +kernel
theorem dX7_drawByTurns_74 : decode cX7_drawByTurns 74 = .ok (.goto (-67), 3) := by decide +kernel
theorem dX7_drawByTurns_77 : decode cX7_drawByTurns 77 = .ok (.return_, 1) := by decide +kernel
theorem dX7_goDay_0 : decode cX7_goDay 0 = .ok (.aload_n 0, 1) := by decide +kernel
theorem dX7_goDay_1 : decode cX7_goDay 1 = .ok (.dup, 1) := by decide +kernel
theorem dX7_goDay_2 : decode cX7_goDay 2 = .ok (.getfield 148, 3) := by decide +kernel
theorem dX7_goDay_5 : decode cX7_goDay 5 = .ok (.aload_n 0, 1) := by decide +kernel
theorem dX7_goDay_6 : decode cX7_goDay 6 = .ok (.getfield 31, 3) := by decide +kernel
theorem dX7_goDay_9 : decode cX7_goDay 9 = .ok (.iload_n 1, 1) := by decide +kernel
theorem dX7_goDay_10 : decode cX7_goDay 10 = .ok (.iaload, 1) := by decide +kernel
theorem dX7_goDay_11 : decode cX7_goDay 11 = .ok (.iadd, 1) := by decide +kernel
theorem dX7_goDay_12 : decode cX7_goDay 12 = .ok (.putfield 148, 3) := by decide +kernel
theorem dX7_goDay_15 : decode cX7_goDay 15 = .ok (.aload_n 0, 1) := by decide +kernel
theorem dX7_goDay_16 : decode cX7_goDay 16 = .ok (.getfield 46, 3) := by decide +kernel
theorem dX7_goDay_19 : decode cX7_goDay 19 = .ok (.iload_n 1, 1) := by decide +kernel
theorem dX7_goDay_20 : decode cX7_goDay 20 = .ok (.aload_n 0, 1) := by decide +kernel
theorem dX7_goDay_21 : decode cX7_goDay 21 = .ok (.getfield 148, 3) := by decide +kernel
theorem dX7_goDay_24 : decode cX7_goDay 24 = .ok (.aload_n 0, 1) := by decide +kernel
theorem dX7_goDay_25 : decode cX7_goDay 25 = .ok (.getfield 105, 3) := by decide +kernel
theorem dX7_goDay_28 : decode cX7_goDay 28 = .ok (.if_icmp .le 15, 3) := by decide +kernel
theorem dX7_goDay_31 : decode cX7_goDay 31 = .ok (.aload_n 0, 1) := by decide +kernel
theorem dX7_goDay_32 : decode cX7_goDay 32 = .ok (.getfield 148, 3) := by decide +kernel
theorem dX7_goDay_35 : decode cX7_goDay 35 = .ok (.aload_n 0, 1) := by decide +kernel
theorem dX7_goDay_36 : decode cX7_goDay 36 = .ok (.getfield 105, 3) := by decide +kernel
theorem dX7_goDay_39 : decode cX7_goDay 39 = .ok (.isub, 1) := by decide +kernel
theorem dX7_goDay_40 : decode cX7_goDay 40 = .ok (.goto 4, 3) := by decide +kernel
theorem dX7_goDay_43 : decode cX7_goDay 43 = .ok (.iconst 0, 1) := by decide +kernel
theorem dX7_goDay_44 : decode cX7_goDay 44 = .ok (.iastore, 1) := by decide +kernel
theorem dX7_goDay_45 : decode cX7_goDay 45 = .ok (.aload_n 0, 1) := by decide +kernel
theorem dX7_goDay_46 : decode cX7_goDay 46 = .ok (.dup, 1) := by decide +kernel
theorem dX7_goDay_47 : decode cX7_goDay 47 = .ok (.getfield 148, 3) := by decide +kernel
theorem dX7_goDay_50 : decode cX7_goDay 50 = .ok (.aload_n 0, 1) := by decide +kernel
theorem dX7_goDay_51 : decode cX7_goDay 51 = .ok (.getfield 46, 3) := by decide +kernel
theorem dX7_goDay_54 : decode cX7_goDay 54 = .ok (.iload_n 1, 1) := by decide +kernel
theorem dX7_goDay_55 : decode cX7_goDay 55 = .ok (.iaload, 1) := by decide +kernel
theorem dX7_goDay_56 : decode cX7_goDay 56 = .ok (.isub, 1) := by decide +kernel
theorem dX7_goDay_57 : decode cX7_goDay 57 = .ok (.putfield 148, 3) := by decide +kernel
theorem dX7_goDay_60 : decode cX7_goDay 60 = .ok (.iconst 0, 1) := by decide +kernel
theorem dX7_goDay_61 : decode cX7_goDay 61 = .ok (.istore_n 2, 1) := by decide +kernel
theorem dX7_goDay_62 : decode cX7_goDay 62 = .ok (.iload_n 2, 1) := by decide +kernel
theorem dX7_goDay_63 : decode cX7_goDay 63 = .ok (.aload_n 0, 1) := by decide +kernel
theorem dX7_goDay_64 : decode cX7_goDay 64 = .ok (.getfield 78, 3) := by decide +kernel
theorem dX7_goDay_67 : decode cX7_goDay 67 = .ok (.if_icmp .ge 16, 3) := by decide +kernel
theorem dX7_goDay_70 : decode cX7_goDay 70 = .ok (.aload_n 0, 1) := by decide +kernel
theorem dX7_goDay_71 : decode cX7_goDay 71 = .ok (.getfield 49, 3) := by decide +kernel
theorem dX7_goDay_74 : decode cX7_goDay 74 = .ok (.iload_n 2, 1) := by decide +kernel
theorem dX7_goDay_75 : decode cX7_goDay 75 = .ok (.iconst 0, 1) := by decide +kernel
theorem dX7_goDay_76 : decode cX7_goDay 76 = .ok (.iastore, 1) := by decide +kernel
theorem dX7_goDay_77 : decode cX7_goDay 77 = .ok (.iinc 2 1, 3) := by decide +kernel
theorem dX7_goDay_80 : decode cX7_goDay 80 = .ok (.goto (-18), 3) := by decide +kernel
theorem dX7_goDay_83 : decode cX7_goDay 83 = .ok (.aload_n 0, 1) := by decide +kernel
theorem dX7_goDay_84 : decode cX7_goDay 84 = .ok (.getfield 120, 3) := by decide +kernel
theorem dX7_goDay_87 : decode cX7_goDay 87 = .ok (.iconst 2, 1) := by decide +kernel
theorem dX7_goDay_88 : decode cX7_goDay 88 = .ok (.if_icmp .ne 17, 3) := by decide +kernel
theorem dX7_goDay_91 : decode cX7_goDay 91 = .ok (.aload_n 0, 1) := by decide +kernel
theorem dX7_goDay_92 : decode cX7_goDay 92 = .ok (.getfield 154, 3) := by decide +kernel
theorem dX7_goDay_95 : decode cX7_goDay 95 = .ok (.ifCond .ne 10, 3) := by decide +kernel
theorem dX7_goDay_98 : decode cX7_goDay 98 = .ok (.aload_n 0, 1) := by decide +kernel
theorem dX7_goDay_99 : decode cX7_goDay 99 = .ok (.invokevirtual 169, 3) := by decide +kernel
theorem dX7_goDay_102 : decode cX7_goDay 102 = .ok (.goto 26, 3) := by decide +kernel
theorem dX7_goDay_105 : decode cX7_goDay 105 = .ok (.aload_n 0, 1) := by decide +kernel
theorem dX7_goDay_106 : decode cX7_goDay 106 = .ok (.aload_n 0, 1) := by decide +kernel
theorem dX7_goDay_107 : decode cX7_goDay 107 = .ok (.getfield 154, 3) := by decide +kernel
theorem dX7_goDay_110 : decode cX7_goDay 110 = .ok (.ifCond .ne 10, 3) := by decide +kernel
theorem dX7_goDay_113 : decode cX7_goDay 113 = .ok (.aload_n 0, 1) := by decide +kernel
theorem dX7_goDay_114 : decode cX7_goDay 114 = .ok (.getfield 120, 3) := by decide +kernel
theorem dX7_goDay_117 : decode cX7_goDay 117 = .ok (.ifCond .ne 7, 3) := by decide +kernel
theorem dX7_goDay_120 : decode cX7_goDay 120 = .ok (.iconst 1, 1) := by decide +kernel
theorem dX7_goDay_121 : decode cX7_goDay 121 = .ok (.goto 4, 3) := by decide +kernel
theorem dX7_goDay_124 : decode cX7_goDay 124 = .ok (.iconst 0, 1) := by decide +kernel
theorem dX7_goDay_125 : decode cX7_goDay 125 = .ok (.invokevirtual 172, 3) := by decide +kernel
theorem dX7_goDay_128 : decode cX7_goDay 128 = .ok (.iconst 0, 1) := by decide +kernel
theorem dX7_goDay_129 : decode cX7_goDay 129 = .ok (.istore_n 2, 1) := by decide +kernel
theorem dX7_goDay_130 : decode cX7_goDay 130 = .ok (.iload_n 2, 1) := by decide +kernel
theorem dX7_goDay_131 : decode cX7_goDay 131 = .ok (.aload_n 0, 1) := by decide +kernel
theorem dX7_goDay_132 : decode cX7_goDay 132 = .ok (.getfield 78, 3) := by decide +kernel
theorem dX7_goDay_135 : decode cX7_goDay 135 = .ok (.if_icmp .ge 26, 3) := by decide +kernel
theorem dX7_goDay_138 : decode cX7_goDay 138 = .ok (.aload_n 0, 1) := by decide +kernel
theorem dX7_goDay_139 : decode cX7_goDay 139 = .ok (.getfield 43, 3) := by decide +kernel
theorem dX7_goDay_142 : decode cX7_goDay 142 = .ok (.bipush 6, 2) := by decide +kernel
theorem dX7_goDay_144 : decode cX7_goDay 144 = .ok (.iload_n 1, 1) := by decide +kernel
theorem dX7_goDay_145 : decode cX7_goDay 145 = .ok (.imul, 1) := by decide +kernel
theorem dX7_goDay_146 : decode cX7_goDay 146 = .ok (.iload_n 2, 1) := by decide +kernel
theorem dX7_goDay_147 : decode cX7_goDay 147 = .ok (.iadd, 1) := by decide +kernel
theorem dX7_goDay_148 : decode cX7_goDay 148 = .ok (.aload_n 0, 1) := by decide +kernel
theorem dX7_goDay_149 : decode cX7_goDay 149 = .ok (.getfield 49, 3) := by decide +kernel
theorem dX7_goDay_152 : decode cX7_goDay 152 = .ok (.iload_n 2, 1) := by decide +kernel
theorem dX7_goDay_153 : decode cX7_goDay 153 = .ok (.iaload, 1) := by decide +kernel
theorem dX7_goDay_154 : decode cX7_goDay 154 = .ok (.iastore, 1) := by decide +kernel
theorem dX7_goDay_155 : decode cX7_goDay 155 = .ok (.iinc 2 1, 3) := by decide +kernel
theorem dX7_goDay_158 : decode cX7_goDay 158 = .ok (.goto (-28), 3) := by decide +kernel
theorem dX7_goDay_161 : decode cX7_goDay 161 = .ok (.aload_n 0, 1) := by decide +kernel
theorem dX7_goDay_162 : decode cX7_goDay 162 = .ok (.getfield 148, 3) := by decide +kernel
theorem dX7_goDay_165 : decode cX7_goDay 165 = .ok (.aload_n 0, 1) := by decide +kernel
theorem dX7_goDay_166 : decode cX7_goDay 166 = .ok (.getfield 123, 3) := by decide +kernel
theorem dX7_goDay_169 : decode cX7_goDay 169 = .ok (.aload_n 0, 1) := by decide +kernel
theorem dX7_goDay_170 : decode cX7_goDay 170 = .ok (.getfield 111, 3) := by decide +kernel
theorem dX7_goDay_173 : decode cX7_goDay 173 = .ok (.imul, 1) := by decide +kernel
theorem dX7_goDay_174 : decode cX7_goDay 174 = .ok (.isub, 1) := by decide +kernel
theorem dX7_goDay_175 : decode cX7_goDay 175 = .ok (.istore_n 2, 1) := by decide +kernel
theorem dX7_goDay_176 : decode cX7_goDay 176 = .ok (.aload_n 0, 1) := by decide +kernel
theorem dX7_goDay_177 : decode cX7_goDay 177 = .ok (.dup, 1) := by decide +kernel
theorem dX7_goDay_178 : decode cX7_goDay 178 = .ok (.getfield 148, 3) := by decide +kernel
theorem dX7_goDay_181 : decode cX7_goDay 181 = .ok (.iload_n 2, 1) := by decide +kernel
theorem dX7_goDay_182 : decode cX7_goDay 182 = .ok (.ifCond .gt 7, 3) := by decide +kernel
theorem dX7_goDay_185 : decode cX7_goDay 185 = .ok (.iconst 0, 1) := by decide +kernel
theorem dX7_goDay_186 : decode cX7_goDay 186 = .ok (.goto 19, 3) := by decide +kernel
theorem dX7_goDay_189 : decode cX7_goDay 189 = .ok (.iload_n 2, 1) := by decide +kernel
theorem dX7_goDay_190 : decode cX7_goDay 190 = .ok (.aload_n 0, 1) := by decide +kernel
theorem dX7_goDay_191 : decode cX7_goDay 191 = .ok (.getfield 126, 3) := by decide +kernel
theorem dX7_goDay_194 : decode cX7_goDay 194 = .ok (.if_icmp .ge 7, 3) := by decide +kernel
theorem dX7_goDay_197 : decode cX7_goDay 197 = .ok (.iload_n 2, 1) := by decide +kernel
theorem dX7_goDay_198 : decode cX7_goDay 198 = .ok (.goto 7, 3) := by decide +kernel
theorem dX7_goDay_201 : decode cX7_goDay 201 = .ok (.aload_n 0, 1) := by decide +kernel
theorem dX7_goDay_202 : decode cX7_goDay 202 = .ok (.getfield 126, 3) := by decide +kernel
theorem dX7_goDay_205 : decode cX7_goDay 205 = .ok (.isub, 1) := by decide +kernel
theorem dX7_goDay_206 : decode cX7_goDay 206 = .ok (.putfield 148, 3) := by decide +kernel
theorem dX7_goDay_209 : decode cX7_goDay 209 = .ok (.iload_n 1, 1) := by decide +kernel
theorem dX7_goDay_210 : decode cX7_goDay 210 = .ok (.aload_n 0, 1) := by decide +kernel
theorem dX7_goDay_211 : decode cX7_goDay 211 = .ok (.getfield 56, 3) := by decide +kernel
theorem dX7_goDay_214 : decode cX7_goDay 214 = .ok (.if_icmp .ne 51, 3) := by decide +kernel
theorem dX7_goDay_217 : decode cX7_goDay 217 = .ok (.aload_n 0, 1) := by decide +kernel
theorem dX7_goDay_218 : decode cX7_goDay 218 = .ok (.aload_n 0, 1) := by decide +kernel
theorem dX7_goDay_219 : decode cX7_goDay 219 = .ok (.aload_n 0, 1) := by decide +kernel
theorem dX7_goDay_220 : decode cX7_goDay 220 = .ok (.getfield 176, 3) := by decide +kernel
theorem dX7_goDay_223 : decode cX7_goDay 223 = .ok (.invokevirtual 151, 3) := by decide +kernel
theorem dX7_goDay_226 : decode cX7_goDay 226 = .ok (.aload_n 0, 1) := by decide +kernel
theorem dX7_goDay_227 : decode cX7_goDay 227 = .ok (.getfield 179, 3) := by decide +kernel
theorem dX7_goDay_230 : decode cX7_goDay 230 = .ok (.if_icmp .lt 7, 3) := by decide +kernel
theorem dX7_goDay_233 : decode cX7_goDay 233 = .ok (.iconst 1, 1) := by decide +kernel
theorem dX7_goDay_234 : decode cX7_goDay 234 = .ok (.goto 4, 3) := by decide +kernel
theorem dX7_goDay_237 : decode cX7_goDay 237 = .ok (.iconst 0, 1) := by decide +kernel
theorem dX7_goDay_238 : decode cX7_goDay 238 = .ok (.putfield 182, 3) := by decide +kernel
theorem dX7_goDay_241 : decode cX7_goDay 241 = .ok (.aload_n 0, 1) := by decide +kernel
theorem dX7_goDay_242 : decode cX7_goDay 242 = .ok (.dup, 1) := by decide +kernel
theorem dX7_goDay_243 : decode cX7_goDay 243 = .ok (.getfield 148, 3) := by decide +kernel
theorem dX7_goDay_246 : decode cX7_goDay 246 = .ok (.aload_n 0, 1) := by decide +kernel
theorem dX7_goDay_247 : decode cX7_goDay 247 = .ok (.getfield 182, 3) := by decide +kernel
theorem dX7_goDay_250 : decode cX7_goDay 250 = .ok (.ifCond .eq 10, 3) := by decide +kernel
theorem dX7_goDay_253 : decode cX7_goDay 253 = .ok (.aload_n 0, 1) := by decide +kernel
theorem dX7_goDay_254 : decode cX7_goDay 254 = .ok (.getfield 179, 3) := by decide +kernel
theorem dX7_goDay_257 : decode cX7_goDay 257 = .ok (.goto 4, 3) := by decide +kernel
theorem dX7_goDay_260 : decode cX7_goDay 260 = .ok (.iconst 0, 1) := by decide +kernel
theorem dX7_goDay_261 : decode cX7_goDay 261 = .ok (.isub, 1) := by decide +kernel
theorem dX7_goDay_262 : decode cX7_goDay 262 = .ok (.putfield 148, 3) := by decide +kernel
theorem dX7_goDay_265 : decode cX7_goDay 265 = .ok (.return_, 1) := by decide +kernel
theorem dX7_goDays_0 : decode cX7_goDays 0 = .ok (.aload_n 0, 1) := by decide +kernel
theorem dX7_goDays_1 : decode cX7_goDays 1 = .ok (.aload_n 0, 1) := by decide +kernel
theorem dX7_goDays_2 : decode cX7_goDays 2 = .ok (.getfield 117, 3) := by decide +kernel
theorem dX7_goDays_5 : decode cX7_goDays 5 = .ok (.putfield 148, 3) := by decide +kernel
theorem dX7_goDays_8 : decode cX7_goDays 8 = .ok (.aload_n 0, 1) := by decide +kernel
theorem dX7_goDays_9 : decode cX7_goDays 9 = .ok (.getfield 40, 3) := by decide +kernel
theorem dX7_goDays_12 : decode cX7_goDays 12 = .ok (.iconst 0, 1) := by decide +kernel
theorem dX7_goDays_13 : decode cX7_goDays 13 = .ok (.aload_n 0, 1) := by decide +kernel
theorem dX7_goDays_14 : decode cX7_goDays 14 = .ok (.getfield 117, 3) := by decide +kernel
theorem dX7_goDays_17 : decode cX7_goDays 17 = .ok (.iastore, 1) := by decide +kernel
theorem dX7_goDays_18 : decode cX7_goDays 18 = .ok (.aload_n 0, 1) := by decide +kernel
theorem dX7_goDays_19 : decode cX7_goDays 19 = .ok (.iconst 0, 1) := by decide +kernel
theorem dX7_goDays_20 : decode cX7_goDays 20 = .ok (.putfield 182, 3) := by decide +kernel
theorem dX7_goDays_23 : decode cX7_goDays 23 = .ok (.iconst 0, 1) := by decide +kernel
theorem dX7_goDays_24 : decode cX7_goDays 24 = .ok (.istore_n 2, 1) := by decide +kernel
theorem dX7_goDays_25 : decode cX7_goDays 25 = .ok (.iload_n 2, 1) := by decide +kernel
theorem dX7_goDays_26 : decode cX7_goDays 26 = .ok (.iload_n 1, 1) := by decide +kernel
theorem dX7_goDays_27 : decode cX7_goDays 27 = .ok (.if_icmp .ge 26, 3) := by decide +kernel
theorem dX7_goDays_30 : decode cX7_goDays 30 = .ok (.aload_n 0, 1) := by decide +kernel
theorem dX7_goDays_31 : decode cX7_goDays 31 = .ok (.iload_n 2, 1) := by decide +kernel
theorem dX7_goDays_32 : decode cX7_goDays 32 = .ok (.invokevirtual 185, 3) := by decide +kernel
theorem dX7_goDays_35 : decode cX7_goDays 35 = .ok (.aload_n 0, 1) := by decide +kernel
theorem dX7_goDays_36 : decode cX7_goDays 36 = .ok (.getfield 40, 3) := by decide +kernel
theorem dX7_goDays_39 : decode cX7_goDays 39 = .ok (.iload_n 2, 1) := by decide +kernel
theorem dX7_goDays_40 : decode cX7_goDays 40 = .ok (.iconst 1, 1) := by decide +kernel
theorem dX7_goDays_41 : decode cX7_goDays 41 = .ok (.iadd, 1) := by decide +kernel
theorem dX7_goDays_42 : decode cX7_goDays 42 = .ok (.aload_n 0, 1) := by decide +kernel
theorem dX7_goDays_43 : decode cX7_goDays 43 = .ok (.getfield 148, 3) := by decide +kernel
theorem dX7_goDays_46 : decode cX7_goDays 46 = .ok (.iastore, 1) := by decide +kernel
theorem dX7_goDays_47 : decode cX7_goDays 47 = .ok (.iinc 2 1, 3) := by decide +kernel
theorem dX7_goDays_50 : decode cX7_goDays 50 = .ok (.goto (-25), 3) := by decide +kernel
theorem dX7_goDays_53 : decode cX7_goDays 53 = .ok (.return_, 1) := by decide +kernel
theorem dX7_got_0 : decode cX7_got 0 = .ok (.aload_n 0, 1) := by decide +kernel
theorem dX7_got_1 : decode cX7_got 1 = .ok (.iload_n 1, 1) := by decide +kernel
theorem dX7_got_2 : decode cX7_got 2 = .ok (.invokevirtual 139, 3) := by decide +kernel
theorem dX7_got_5 : decode cX7_got 5 = .ok (.ifCond .eq 10, 3) := by decide +kernel
theorem dX7_got_8 : decode cX7_got 8 = .ok (.iload_n 2, 1) := by decide +kernel
theorem dX7_got_9 : decode cX7_got 9 = .ok (.invokestatic 145, 3) := by decide +kernel
theorem dX7_got_12 : decode cX7_got 12 = .ok (.ifCond .ne 5, 3) := by decide +kernel
theorem dX7_got_15 : decode cX7_got 15 = .ok (.iconst (-1), 1) := by decide +kernel
theorem dX7_got_16 : decode cX7_got 16 = .ok (.ireturn, 1) := by decide +kernel
theorem dX7_got_17 : decode cX7_got 17 = .ok (.aload_n 0, 1) := by decide +kernel
theorem dX7_got_18 : decode cX7_got 18 = .ok (.bipush 10, 2) := by decide +kernel
theorem dX7_got_20 : decode cX7_got 20 = .ok (.invokevirtual 189, 3) := by decide +kernel
theorem dX7_got_23 : decode cX7_got 23 = .ok (.aload_n 0, 1) := by decide +kernel
theorem dX7_got_24 : decode cX7_got 24 = .ok (.getfield 43, 3) := by decide +kernel
theorem dX7_got_27 : decode cX7_got 27 = .ok (.bipush 6, 2) := by decide +kernel
theorem dX7_got_29 : decode cX7_got 29 = .ok (.iload_n 2, 1) := by decide +kernel
theorem dX7_got_30 : decode cX7_got 30 = .ok (.imul, 1) := by decide +kernel
theorem dX7_got_31 : decode cX7_got 31 = .ok (.iload_n 1, 1) := by decide +kernel
theorem dX7_got_32 : decode cX7_got 32 = .ok (.iadd, 1) := by decide +kernel
theorem dX7_got_33 : decode cX7_got 33 = .ok (.iaload, 1) := by decide +kernel
theorem dX7_got_34 : decode cX7_got 34 = .ok (.ireturn, 1) := by decide +kernel
theorem dX7_level_0 : decode cX7_level 0 = .ok (.iload_n 1, 1) := by decide +kernel
theorem dX7_level_1 : decode cX7_level 1 = .ok (.iconst 0, 1) := by decide +kernel
theorem dX7_level_2 : decode cX7_level 2 = .ok (.bipush 10, 2) := by decide +kernel
theorem dX7_level_4 : decode cX7_level 4 = .ok (.invokestatic 74, 3) := by decide +kernel
theorem dX7_level_7 : decode cX7_level 7 = .ok (.ifCond .ne 5, 3) := by decide +kernel
theorem dX7_level_10 : decode cX7_level 10 = .ok (.iconst (-1), 1) := by decide +kernel
theorem dX7_level_11 : decode cX7_level 11 = .ok (.ireturn, 1) := by decide +kernel
theorem dX7_level_12 : decode cX7_level 12 = .ok (.aload_n 0, 1) := by decide +kernel
theorem dX7_level_13 : decode cX7_level 13 = .ok (.getfield 78, 3) := by decide +kernel
theorem dX7_level_16 : decode cX7_level 16 = .ok (.ifCond .ne 6, 3) := by decide +kernel
theorem dX7_level_19 : decode cX7_level 19 = .ok (.bipush (-3), 2) := by decide +kernel
theorem dX7_level_21 : decode cX7_level 21 = .ok (.ireturn, 1) := by decide +kernel
theorem dX7_level_22 : decode cX7_level 22 = .ok (.aload_n 0, 1) := by decide +kernel
theorem dX7_level_23 : decode cX7_level 23 = .ok (.bipush 10, 2) := by decide +kernel
theorem dX7_level_25 : decode cX7_level 25 = .ok (.invokevirtual 189, 3) := by decide +kernel
theorem dX7_level_28 : decode cX7_level 28 = .ok (.aload_n 0, 1) := by decide +kernel
theorem dX7_level_29 : decode cX7_level 29 = .ok (.getfield 40, 3) := by decide +kernel
theorem dX7_level_32 : decode cX7_level 32 = .ok (.iload_n 1, 1) := by decide +kernel
theorem dX7_level_33 : decode cX7_level 33 = .ok (.iaload, 1) := by decide +kernel
theorem dX7_level_34 : decode cX7_level 34 = .ok (.ireturn, 1) := by decide +kernel
theorem dX7_over_0 : decode cX7_over 0 = .ok (.iload_n 1, 1) := by decide +kernel
theorem dX7_over_1 : decode cX7_over 1 = .ok (.invokestatic 145, 3) := by decide +kernel
theorem dX7_over_4 : decode cX7_over 4 = .ok (.ifCond .ne 5, 3) := by decide +kernel
theorem dX7_over_7 : decode cX7_over 7 = .ok (.iconst (-1), 1) := by decide +kernel
theorem dX7_over_8 : decode cX7_over 8 = .ok (.ireturn, 1) := by decide +kernel
theorem dX7_over_9 : decode cX7_over 9 = .ok (.aload_n 0, 1) := by decide +kernel
theorem dX7_over_10 : decode cX7_over 10 = .ok (.getfield 78, 3) := by decide +kernel
theorem dX7_over_13 : decode cX7_over 13 = .ok (.ifCond .ne 6, 3) := by decide +kernel
theorem dX7_over_16 : decode cX7_over 16 = .ok (.bipush (-3), 2) := by decide +kernel
theorem dX7_over_18 : decode cX7_over 18 = .ok (.ireturn, 1) := by decide +kernel
theorem dX7_over_19 : decode cX7_over 19 = .ok (.aload_n 0, 1) := by decide +kernel
theorem dX7_over_20 : decode cX7_over 20 = .ok (.bipush 10, 2) := by decide +kernel
theorem dX7_over_22 : decode cX7_over 22 = .ok (.invokevirtual 189, 3) := by decide +kernel
theorem dX7_over_25 : decode cX7_over 25 = .ok (.aload_n 0, 1) := by decide +kernel
theorem dX7_over_26 : decode cX7_over 26 = .ok (.getfield 46, 3) := by decide +kernel
theorem dX7_over_29 : decode cX7_over 29 = .ok (.iload_n 1, 1) := by decide +kernel
theorem dX7_over_30 : decode cX7_over 30 = .ok (.iaload, 1) := by decide +kernel
theorem dX7_over_31 : decode cX7_over 31 = .ok (.ireturn, 1) := by decide +kernel
theorem dX7_nobody_0 : decode cX7_nobody 0 = .ok (.iload_n 1, 1) := by decide +kernel
theorem dX7_nobody_1 : decode cX7_nobody 1 = .ok (.iconst 0, 1) := by decide +kernel
theorem dX7_nobody_2 : decode cX7_nobody 2 = .ok (.bipush 10, 2) := by decide +kernel
theorem dX7_nobody_4 : decode cX7_nobody 4 = .ok (.invokestatic 74, 3) := by decide +kernel
theorem dX7_nobody_7 : decode cX7_nobody 7 = .ok (.ifCond .ne 5, 3) := by decide +kernel
theorem dX7_nobody_10 : decode cX7_nobody 10 = .ok (.iconst (-1), 1) := by decide +kernel
theorem dX7_nobody_11 : decode cX7_nobody 11 = .ok (.ireturn, 1) := by decide +kernel
theorem dX7_nobody_12 : decode cX7_nobody 12 = .ok (.aload_n 0, 1) := by decide +kernel
theorem dX7_nobody_13 : decode cX7_nobody 13 = .ok (.getfield 78, 3) := by decide +kernel
theorem dX7_nobody_16 : decode cX7_nobody 16 = .ok (.ifCond .ne 6, 3) := by decide +kernel
theorem dX7_nobody_19 : decode cX7_nobody 19 = .ok (.bipush (-3), 2) := by decide +kernel
theorem dX7_nobody_21 : decode cX7_nobody 21 = .ok (.ireturn, 1) := by decide +kernel
theorem dX7_nobody_22 : decode cX7_nobody 22 = .ok (.aload_n 0, 1) := by decide +kernel
theorem dX7_nobody_23 : decode cX7_nobody 23 = .ok (.bipush 10, 2) := by decide +kernel
theorem dX7_nobody_25 : decode cX7_nobody 25 = .ok (.invokevirtual 189, 3) := by decide +kernel
theorem dX7_nobody_28 : decode cX7_nobody 28 = .ok (.aload_n 0, 1) := by decide +kernel
theorem dX7_nobody_29 : decode cX7_nobody 29 = .ok (.getfield 22, 3) := by decide +kernel
theorem dX7_nobody_32 : decode cX7_nobody 32 = .ok (.iconst 0, 1) := by decide +kernel
theorem dX7_nobody_33 : decode cX7_nobody 33 = .ok (.iaload, 1) := by decide +kernel
theorem dX7_nobody_34 : decode cX7_nobody 34 = .ok (.istore_n 2, 1) := by decide +kernel
theorem dX7_nobody_35 : decode cX7_nobody 35 = .ok (.iconst 1, 1) := by decide +kernel
theorem dX7_nobody_36 : decode cX7_nobody 36 = .ok (.istore_n 3, 1) := by decide +kernel
theorem dX7_nobody_37 : decode cX7_nobody 37 = .ok (.iload_n 3, 1) := by decide +kernel
theorem dX7_nobody_38 : decode cX7_nobody 38 = .ok (.aload_n 0, 1) := by decide +kernel
theorem dX7_nobody_39 : decode cX7_nobody 39 = .ok (.getfield 78, 3) := by decide +kernel
theorem dX7_nobody_42 : decode cX7_nobody 42 = .ok (.if_icmp .ge 30, 3) := by decide +kernel
theorem dX7_nobody_45 : decode cX7_nobody 45 = .ok (.aload_n 0, 1) := by decide +kernel
theorem dX7_nobody_46 : decode cX7_nobody 46 = .ok (.getfield 22, 3) := by decide +kernel
theorem dX7_nobody_49 : decode cX7_nobody 49 = .ok (.iload_n 3, 1) := by decide +kernel
theorem dX7_nobody_50 : decode cX7_nobody 50 = .ok (.iaload, 1) := by decide +kernel
theorem dX7_nobody_51 : decode cX7_nobody 51 = .ok (.iload_n 2, 1) := by decide +kernel
theorem dX7_nobody_52 : decode cX7_nobody 52 = .ok (.if_icmp .ge 12, 3) := by decide +kernel
theorem dX7_nobody_55 : decode cX7_nobody 55 = .ok (.aload_n 0, 1) := by decide +kernel
theorem dX7_nobody_56 : decode cX7_nobody 56 = .ok (.getfield 22, 3) := by decide +kernel
theorem dX7_nobody_59 : decode cX7_nobody 59 = .ok (.iload_n 3, 1) := by decide +kernel
theorem dX7_nobody_60 : decode cX7_nobody 60 = .ok (.iaload, 1) := by decide +kernel
theorem dX7_nobody_61 : decode cX7_nobody 61 = .ok (.goto 4, 3) := by decide +kernel
theorem dX7_nobody_64 : decode cX7_nobody 64 = .ok (.iload_n 2, 1) := by decide +kernel
theorem dX7_nobody_65 : decode cX7_nobody 65 = .ok (.istore_n 2, 1) := by decide +kernel
theorem dX7_nobody_66 : decode cX7_nobody 66 = .ok (.iinc 3 1, 3) := by decide +kernel
theorem dX7_nobody_69 : decode cX7_nobody 69 = .ok (.goto (-32), 3) := by decide +kernel
theorem dX7_nobody_72 : decode cX7_nobody 72 = .ok (.aload_n 0, 1) := by decide +kernel
theorem dX7_nobody_73 : decode cX7_nobody 73 = .ok (.getfield 40, 3) := by decide +kernel
theorem dX7_nobody_76 : decode cX7_nobody 76 = .ok (.iload_n 1, 1) := by decide +kernel
theorem dX7_nobody_77 : decode cX7_nobody 77 = .ok (.iaload, 1) := by decide +kernel
theorem dX7_nobody_78 : decode cX7_nobody 78 = .ok (.iload_n 2, 1) := by decide +kernel
theorem dX7_nobody_79 : decode cX7_nobody 79 = .ok (.aload_n 0, 1) := by decide +kernel
theorem dX7_nobody_80 : decode cX7_nobody 80 = .ok (.getfield 111, 3) := by decide +kernel
theorem dX7_nobody_83 : decode cX7_nobody 83 = .ok (.imul, 1) := by decide +kernel
theorem dX7_nobody_84 : decode cX7_nobody 84 = .ok (.if_icmp .ge 12, 3) := by decide +kernel
theorem dX7_nobody_87 : decode cX7_nobody 87 = .ok (.aload_n 0, 1) := by decide +kernel
theorem dX7_nobody_88 : decode cX7_nobody 88 = .ok (.getfield 40, 3) := by decide +kernel
theorem dX7_nobody_91 : decode cX7_nobody 91 = .ok (.iload_n 1, 1) := by decide +kernel
theorem dX7_nobody_92 : decode cX7_nobody 92 = .ok (.iaload, 1) := by decide +kernel
theorem dX7_nobody_93 : decode cX7_nobody 93 = .ok (.goto 9, 3) := by decide +kernel
theorem dX7_nobody_96 : decode cX7_nobody 96 = .ok (.iload_n 2, 1) := by decide +kernel
theorem dX7_nobody_97 : decode cX7_nobody 97 = .ok (.aload_n 0, 1) := by decide +kernel
theorem dX7_nobody_98 : decode cX7_nobody 98 = .ok (.getfield 111, 3) := by decide +kernel
theorem dX7_nobody_101 : decode cX7_nobody 101 = .ok (.imul, 1) := by decide +kernel
theorem dX7_nobody_102 : decode cX7_nobody 102 = .ok (.ireturn, 1) := by decide +kernel
theorem dX7_firstDry_0 : decode cX7_firstDry 0 = .ok (.iconst 0, 1) := by decide +kernel
theorem dX7_firstDry_1 : decode cX7_firstDry 1 = .ok (.istore_n 3, 1) := by decide +kernel
theorem dX7_firstDry_2 : decode cX7_firstDry 2 = .ok (.iload_n 3, 1) := by decide +kernel
theorem dX7_firstDry_3 : decode cX7_firstDry 3 = .ok (.iload_n 2, 1) := by decide +kernel
theorem dX7_firstDry_4 : decode cX7_firstDry 4 = .ok (.if_icmp .ge 31, 3) := by decide +kernel
theorem dX7_firstDry_7 : decode cX7_firstDry 7 = .ok (.aload_n 0, 1) := by decide +kernel
theorem dX7_firstDry_8 : decode cX7_firstDry 8 = .ok (.getfield 43, 3) := by decide +kernel
theorem dX7_firstDry_11 : decode cX7_firstDry 11 = .ok (.bipush 6, 2) := by decide +kernel
theorem dX7_firstDry_13 : decode cX7_firstDry 13 = .ok (.iload_n 3, 1) := by decide +kernel
theorem dX7_firstDry_14 : decode cX7_firstDry 14 = .ok (.imul, 1) := by decide +kernel
theorem dX7_firstDry_15 : decode cX7_firstDry 15 = .ok (.iload_n 1, 1) := by decide +kernel
theorem dX7_firstDry_16 : decode cX7_firstDry 16 = .ok (.iadd, 1) := by decide +kernel
theorem dX7_firstDry_17 : decode cX7_firstDry 17 = .ok (.iaload, 1) := by decide +kernel
theorem dX7_firstDry_18 : decode cX7_firstDry 18 = .ok (.aload_n 0, 1) := by decide +kernel
theorem dX7_firstDry_19 : decode cX7_firstDry 19 = .ok (.getfield 25, 3) := by decide +kernel
theorem dX7_firstDry_22 : decode cX7_firstDry 22 = .ok (.iload_n 1, 1) := by decide +kernel
theorem dX7_firstDry_23 : decode cX7_firstDry 23 = .ok (.iaload, 1) := by decide +kernel
theorem dX7_firstDry_24 : decode cX7_firstDry 24 = .ok (.if_icmp .ge 5, 3) := by decide +kernel
theorem dX7_firstDry_27 : decode cX7_firstDry 27 = .ok (.iload_n 3, 1) := by decide +kernel
theorem dX7_firstDry_28 : decode cX7_firstDry 28 = .ok (.ireturn, 1) := by decide +kernel
theorem dX7_firstDry_29 : decode cX7_firstDry 29 = .ok (.iinc 3 1, 3) := by decide +kernel
theorem dX7_firstDry_32 : decode cX7_firstDry 32 = .ok (.goto (-30), 3) := by decide +kernel
theorem dX7_firstDry_35 : decode cX7_firstDry 35 = .ok (.bipush (-9), 2) := by decide +kernel
theorem dX7_firstDry_37 : decode cX7_firstDry 37 = .ok (.ireturn, 1) := by decide +kernel
theorem dX7_dry_0 : decode cX7_dry 0 = .ok (.aload_n 0, 1) := by decide +kernel
theorem dX7_dry_1 : decode cX7_dry 1 = .ok (.iload_n 1, 1) := by decide +kernel
theorem dX7_dry_2 : decode cX7_dry 2 = .ok (.invokevirtual 139, 3) := by decide +kernel
theorem dX7_dry_5 : decode cX7_dry 5 = .ok (.ifCond .ne 5, 3) := by decide +kernel
theorem dX7_dry_8 : decode cX7_dry 8 = .ok (.iconst (-1), 1) := by decide +kernel
theorem dX7_dry_9 : decode cX7_dry 9 = .ok (.ireturn, 1) := by decide +kernel
theorem dX7_dry_10 : decode cX7_dry 10 = .ok (.aload_n 0, 1) := by decide +kernel
theorem dX7_dry_11 : decode cX7_dry 11 = .ok (.bipush 10, 2) := by decide +kernel
theorem dX7_dry_13 : decode cX7_dry 13 = .ok (.invokevirtual 189, 3) := by decide +kernel
theorem dX7_dry_16 : decode cX7_dry 16 = .ok (.aload_n 0, 1) := by decide +kernel
theorem dX7_dry_17 : decode cX7_dry 17 = .ok (.iload_n 1, 1) := by decide +kernel
theorem dX7_dry_18 : decode cX7_dry 18 = .ok (.bipush 10, 2) := by decide +kernel
theorem dX7_dry_20 : decode cX7_dry 20 = .ok (.invokevirtual 192, 3) := by decide +kernel
theorem dX7_dry_23 : decode cX7_dry 23 = .ok (.ireturn, 1) := by decide +kernel
theorem dX7_wetOn_0 : decode cX7_wetOn 0 = .ok (.iconst 0, 1) := by decide +kernel
theorem dX7_wetOn_1 : decode cX7_wetOn 1 = .ok (.istore_n 2, 1) := by decide +kernel
theorem dX7_wetOn_2 : decode cX7_wetOn 2 = .ok (.iconst 0, 1) := by decide +kernel
theorem dX7_wetOn_3 : decode cX7_wetOn 3 = .ok (.istore_n 3, 1) := by decide +kernel
theorem dX7_wetOn_4 : decode cX7_wetOn 4 = .ok (.iload_n 3, 1) := by decide +kernel
theorem dX7_wetOn_5 : decode cX7_wetOn 5 = .ok (.aload_n 0, 1) := by decide +kernel
theorem dX7_wetOn_6 : decode cX7_wetOn 6 = .ok (.getfield 78, 3) := by decide +kernel
theorem dX7_wetOn_9 : decode cX7_wetOn 9 = .ok (.if_icmp .ge 28, 3) := by decide +kernel
theorem dX7_wetOn_12 : decode cX7_wetOn 12 = .ok (.iload_n 2, 1) := by decide +kernel
theorem dX7_wetOn_13 : decode cX7_wetOn 13 = .ok (.aload_n 0, 1) := by decide +kernel
theorem dX7_wetOn_14 : decode cX7_wetOn 14 = .ok (.iload_n 3, 1) := by decide +kernel
theorem dX7_wetOn_15 : decode cX7_wetOn 15 = .ok (.iload_n 1, 1) := by decide +kernel
theorem dX7_wetOn_16 : decode cX7_wetOn 16 = .ok (.invokevirtual 192, 3) := by decide +kernel
theorem dX7_wetOn_19 : decode cX7_wetOn 19 = .ok (.bipush (-9), 2) := by decide +kernel
theorem dX7_wetOn_21 : decode cX7_wetOn 21 = .ok (.if_icmp .ne 7, 3) := by decide +kernel
theorem dX7_wetOn_24 : decode cX7_wetOn 24 = .ok (.iconst 1, 1) := by decide +kernel
theorem dX7_wetOn_25 : decode cX7_wetOn 25 = .ok (.goto 4, 3) := by decide +kernel
theorem dX7_wetOn_28 : decode cX7_wetOn 28 = .ok (.iconst 0, 1) := by decide +kernel
theorem dX7_wetOn_29 : decode cX7_wetOn 29 = .ok (.iadd, 1) := by decide +kernel
theorem dX7_wetOn_30 : decode cX7_wetOn 30 = .ok (.istore_n 2, 1) := by decide +kernel
theorem dX7_wetOn_31 : decode cX7_wetOn 31 = .ok (.iinc 3 1, 3) := by decide +kernel
theorem dX7_wetOn_34 : decode cX7_wetOn 34 = .ok (.goto (-30), 3) := by decide +kernel
theorem dX7_wetOn_37 : decode cX7_wetOn 37 = .ok (.iload_n 2, 1) := by decide +kernel
theorem dX7_wetOn_38 : decode cX7_wetOn 38 = .ok (.ireturn, 1) := by decide +kernel
theorem dX7_canAll_0 : decode cX7_canAll 0 = .ok (.aload_n 0, 1) := by decide +kernel
theorem dX7_canAll_1 : decode cX7_canAll 1 = .ok (.iconst 1, 1) := by decide +kernel
theorem dX7_canAll_2 : decode cX7_canAll 2 = .ok (.putfield 154, 3) := by decide +kernel
theorem dX7_canAll_5 : decode cX7_canAll 5 = .ok (.aload_n 0, 1) := by decide +kernel
theorem dX7_canAll_6 : decode cX7_canAll 6 = .ok (.iload_n 1, 1) := by decide +kernel
theorem dX7_canAll_7 : decode cX7_canAll 7 = .ok (.invokevirtual 189, 3) := by decide +kernel
theorem dX7_canAll_10 : decode cX7_canAll 10 = .ok (.aload_n 0, 1) := by decide +kernel
theorem dX7_canAll_11 : decode cX7_canAll 11 = .ok (.iconst 0, 1) := by decide +kernel
theorem dX7_canAll_12 : decode cX7_canAll 12 = .ok (.putfield 154, 3) := by decide +kernel
theorem dX7_canAll_15 : decode cX7_canAll 15 = .ok (.aload_n 0, 1) := by decide +kernel
theorem dX7_canAll_16 : decode cX7_canAll 16 = .ok (.iload_n 1, 1) := by decide +kernel
theorem dX7_canAll_17 : decode cX7_canAll 17 = .ok (.invokevirtual 196, 3) := by decide +kernel
theorem dX7_canAll_20 : decode cX7_canAll 20 = .ok (.aload_n 0, 1) := by decide +kernel
theorem dX7_canAll_21 : decode cX7_canAll 21 = .ok (.getfield 78, 3) := by decide +kernel
theorem dX7_canAll_24 : decode cX7_canAll 24 = .ok (.if_icmp .ne 7, 3) := by decide +kernel
theorem dX7_canAll_27 : decode cX7_canAll 27 = .ok (.iconst 1, 1) := by decide +kernel
theorem dX7_canAll_28 : decode cX7_canAll 28 = .ok (.goto 4, 3) := by decide +kernel
theorem dX7_canAll_31 : decode cX7_canAll 31 = .ok (.iconst 0, 1) := by decide +kernel
theorem dX7_canAll_32 : decode cX7_canAll 32 = .ok (.ireturn, 1) := by decide +kernel
theorem dX7_againstDays_0 : decode cX7_againstDays 0 = .ok (.iload_n 1, 1) := by decide +kernel
theorem dX7_againstDays_1 : decode cX7_againstDays 1 = .ok (.iconst 0, 1) := by decide +kernel
theorem dX7_againstDays_2 : decode cX7_againstDays 2 = .ok (.bipush 10, 2) := by decide +kernel
theorem dX7_againstDays_4 : decode cX7_againstDays 4 = .ok (.invokestatic 74, 3) := by decide +kernel
theorem dX7_againstDays_7 : decode cX7_againstDays 7 = .ok (.ifCond .ne 8, 3) := by decide +kernel
theorem dX7_againstDays_10 : decode cX7_againstDays 10 = .ok (.bipush (-2), 2) := by decide +kernel
theorem dX7_againstDays_12 : decode cX7_againstDays 12 = .ok (.goto 16, 3) := by decide +kernel
theorem dX7_againstDays_15 : decode cX7_againstDays 15 = .ok (.aload_n 0, 1) := by decide +kernel
theorem dX7_againstDays_16 : decode cX7_againstDays 16 = .ok (.getfield 78, 3) := by decide +kernel
theorem dX7_againstDays_19 : decode cX7_againstDays 19 = .ok (.ifCond .ne 8, 3) := by decide +kernel
theorem dX7_againstDays_22 : decode cX7_againstDays 22 = .ok (.bipush (-3), 2) := by decide +kernel
theorem dX7_againstDays_24 : decode cX7_againstDays 24 = .ok (.goto 4, 3) := by decide +kernel
theorem dX7_againstDays_27 : decode cX7_againstDays 27 = .ok (.iconst 0, 1) := by decide +kernel
theorem dX7_againstDays_28 : decode cX7_againstDays 28 = .ok (.ireturn, 1) := by decide +kernel
theorem dX7_can_0 : decode cX7_can 0 = .ok (.aload_n 0, 1) := by decide +kernel
theorem dX7_can_1 : decode cX7_can 1 = .ok (.iload_n 1, 1) := by decide +kernel
theorem dX7_can_2 : decode cX7_can 2 = .ok (.invokevirtual 199, 3) := by decide +kernel
theorem dX7_can_5 : decode cX7_can 5 = .ok (.istore_n 2, 1) := by decide +kernel
theorem dX7_can_6 : decode cX7_can 6 = .ok (.iload_n 2, 1) := by decide +kernel
theorem dX7_can_7 : decode cX7_can 7 = .ok (.ifCond .eq 7, 3) := by decide +kernel
theorem dX7_can_10 : decode cX7_can 10 = .ok (.iload_n 2, 1) := by decide +kernel
theorem dX7_can_11 : decode cX7_can 11 = .ok (.goto 16, 3) := by decide +kernel
theorem dX7_can_14 : decode cX7_can 14 = .ok (.aload_n 0, 1) := by decide +kernel
theorem dX7_can_15 : decode cX7_can 15 = .ok (.iload_n 1, 1) := by decide +kernel
theorem dX7_can_16 : decode cX7_can 16 = .ok (.invokevirtual 202, 3) := by decide +kernel
theorem dX7_can_19 : decode cX7_can 19 = .ok (.ifCond .eq 7, 3) := by decide +kernel
theorem dX7_can_22 : decode cX7_can 22 = .ok (.iconst 1, 1) := by decide +kernel
theorem dX7_can_23 : decode cX7_can 23 = .ok (.goto 4, 3) := by decide +kernel
theorem dX7_can_26 : decode cX7_can 26 = .ok (.iconst 0, 1) := by decide +kernel
theorem dX7_can_27 : decode cX7_can 27 = .ok (.ireturn, 1) := by decide +kernel
theorem dX7_start_0 : decode cX7_start 0 = .ok (.aload_n 0, 1) := by decide +kernel
theorem dX7_start_1 : decode cX7_start 1 = .ok (.iload_n 1, 1) := by decide +kernel
theorem dX7_start_2 : decode cX7_start 2 = .ok (.invokevirtual 199, 3) := by decide +kernel
theorem dX7_start_5 : decode cX7_start 5 = .ok (.istore_n 2, 1) := by decide +kernel
theorem dX7_start_6 : decode cX7_start 6 = .ok (.iload_n 2, 1) := by decide +kernel
theorem dX7_start_7 : decode cX7_start 7 = .ok (.ifCond .eq 5, 3) := by decide +kernel
theorem dX7_start_10 : decode cX7_start 10 = .ok (.iload_n 2, 1) := by decide +kernel
theorem dX7_start_11 : decode cX7_start 11 = .ok (.ireturn, 1) := by decide +kernel
theorem dX7_start_12 : decode cX7_start 12 = .ok (.aload_n 0, 1) := by decide +kernel
theorem dX7_start_13 : decode cX7_start 13 = .ok (.getfield 117, 3) := by decide +kernel
theorem dX7_start_16 : decode cX7_start 16 = .ok (.istore_n 3, 1) := by decide +kernel
theorem dX7_start_17 : decode cX7_start 17 = .ok (.bipush (-9), 2) := by decide +kernel
theorem dX7_start_19 : decode cX7_start 19 = .ok (.istore 4, 2) := by decide +kernel
theorem dX7_start_21 : decode cX7_start 21 = .ok (.aload_n 0, 1) := by decide +kernel
theorem dX7_start_22 : decode cX7_start 22 = .ok (.getfield 105, 3) := by decide +kernel
theorem dX7_start_25 : decode cX7_start 25 = .ok (.istore 5, 2) := by decide +kernel
theorem dX7_start_27 : decode cX7_start 27 = .ok (.iload 5, 2) := by decide +kernel
theorem dX7_start_29 : decode cX7_start 29 = .ok (.ifCond .lt 32, 3) := by decide +kernel
theorem dX7_start_32 : decode cX7_start 32 = .ok (.aload_n 0, 1) := by decide +kernel
theorem dX7_start_33 : decode cX7_start 33 = .ok (.iload 5, 2) := by decide +kernel
theorem dX7_start_35 : decode cX7_start 35 = .ok (.putfield 117, 3) := by decide +kernel
theorem dX7_start_38 : decode cX7_start 38 = .ok (.aload_n 0, 1) := by decide +kernel
theorem dX7_start_39 : decode cX7_start 39 = .ok (.iload_n 1, 1) := by decide +kernel
theorem dX7_start_40 : decode cX7_start 40 = .ok (.invokevirtual 202, 3) := by decide +kernel
theorem dX7_start_43 : decode cX7_start 43 = .ok (.ifCond .eq 8, 3) := by decide +kernel
theorem dX7_start_46 : decode cX7_start 46 = .ok (.iload 5, 2) := by decide +kernel
theorem dX7_start_48 : decode cX7_start 48 = .ok (.goto 5, 3) := by decide +kernel
theorem dX7_start_51 : decode cX7_start 51 = .ok (.iload 4, 2) := by decide +kernel
theorem dX7_start_53 : decode cX7_start 53 = .ok (.istore 4, 2) := by decide +kernel
theorem dX7_start_55 : decode cX7_start 55 = .ok (.iinc 5 (-1), 3) := by decide +kernel
theorem dX7_start_58 : decode cX7_start 58 = .ok (.goto (-31), 3) := by decide +kernel
theorem dX7_start_61 : decode cX7_start 61 = .ok (.aload_n 0, 1) := by decide +kernel
theorem dX7_start_62 : decode cX7_start 62 = .ok (.iload_n 3, 1) := by decide +kernel
theorem dX7_start_63 : decode cX7_start 63 = .ok (.putfield 117, 3) := by decide +kernel
theorem dX7_start_66 : decode cX7_start 66 = .ok (.iload 4, 2) := by decide +kernel
theorem dX7_start_68 : decode cX7_start 68 = .ok (.ireturn, 1) := by decide +kernel
theorem dX7_best_0 : decode cX7_best 0 = .ok (.iload_n 2, 1) := by decide +kernel
theorem dX7_best_1 : decode cX7_best 1 = .ok (.iconst 0, 1) := by decide +kernel
theorem dX7_best_2 : decode cX7_best 2 = .ok (.iconst 1, 1) := by decide +kernel
theorem dX7_best_3 : decode cX7_best 3 = .ok (.invokestatic 74, 3) := by decide +kernel
theorem dX7_best_6 : decode cX7_best 6 = .ok (.ifCond .ne 6, 3) := by decide +kernel
theorem dX7_best_9 : decode cX7_best 9 = .ok (.bipush (-2), 2) := by decide +kernel
theorem dX7_best_11 : decode cX7_best 11 = .ok (.ireturn, 1) := by decide +kernel
theorem dX7_best_12 : decode cX7_best 12 = .ok (.aload_n 0, 1) := by decide +kernel
theorem dX7_best_13 : decode cX7_best 13 = .ok (.iload_n 1, 1) := by decide +kernel
theorem dX7_best_14 : decode cX7_best 14 = .ok (.invokevirtual 199, 3) := by decide +kernel
theorem dX7_best_17 : decode cX7_best 17 = .ok (.istore_n 3, 1) := by decide +kernel
theorem dX7_best_18 : decode cX7_best 18 = .ok (.iload_n 3, 1) := by decide +kernel
theorem dX7_best_19 : decode cX7_best 19 = .ok (.ifCond .eq 5, 3) := by decide +kernel
theorem dX7_best_22 : decode cX7_best 22 = .ok (.iload_n 3, 1) := by decide +kernel
theorem dX7_best_23 : decode cX7_best 23 = .ok (.ireturn, 1) := by decide +kernel
theorem dX7_best_24 : decode cX7_best 24 = .ok (.aload_n 0, 1) := by decide +kernel
theorem dX7_best_25 : decode cX7_best 25 = .ok (.getfield 120, 3) := by decide +kernel
theorem dX7_best_28 : decode cX7_best 28 = .ok (.istore 4, 2) := by decide +kernel
theorem dX7_best_30 : decode cX7_best 30 = .ok (.iconst 0, 1) := by decide +kernel
theorem dX7_best_31 : decode cX7_best 31 = .ok (.istore 5, 2) := by decide +kernel
theorem dX7_best_33 : decode cX7_best 33 = .ok (.iconst (-1), 1) := by decide +kernel
theorem dX7_best_34 : decode cX7_best 34 = .ok (.istore 6, 2) := by decide +kernel
theorem dX7_best_36 : decode cX7_best 36 = .ok (.aload_n 0, 1) := by decide +kernel
theorem dX7_best_37 : decode cX7_best 37 = .ok (.iconst 0, 1) := by decide +kernel
theorem dX7_best_38 : decode cX7_best 38 = .ok (.putfield 120, 3) := by decide +kernel
theorem dX7_best_41 : decode cX7_best 41 = .ok (.aload_n 0, 1) := by decide +kernel
theorem dX7_best_42 : decode cX7_best 42 = .ok (.getfield 120, 3) := by decide +kernel
theorem dX7_best_45 : decode cX7_best 45 = .ok (.iconst 3, 1) := by decide +kernel
theorem dX7_best_46 : decode cX7_best 46 = .ok (.if_icmp .ge 44, 3) := by decide +kernel
theorem dX7_best_49 : decode cX7_best 49 = .ok (.aload_n 0, 1) := by decide +kernel
theorem dX7_best_50 : decode cX7_best 50 = .ok (.iload_n 1, 1) := by decide +kernel
theorem dX7_best_51 : decode cX7_best 51 = .ok (.invokevirtual 189, 3) := by decide +kernel
theorem dX7_best_54 : decode cX7_best 54 = .ok (.aload_n 0, 1) := by decide +kernel
theorem dX7_best_55 : decode cX7_best 55 = .ok (.iload_n 1, 1) := by decide +kernel
theorem dX7_best_56 : decode cX7_best 56 = .ok (.invokevirtual 196, 3) := by decide +kernel
theorem dX7_best_59 : decode cX7_best 59 = .ok (.iload 6, 2) := by decide +kernel
theorem dX7_best_61 : decode cX7_best 61 = .ok (.if_icmp .le 16, 3) := by decide +kernel
theorem dX7_best_64 : decode cX7_best 64 = .ok (.aload_n 0, 1) := by decide +kernel
theorem dX7_best_65 : decode cX7_best 65 = .ok (.iload_n 1, 1) := by decide +kernel
theorem dX7_best_66 : decode cX7_best 66 = .ok (.invokevirtual 196, 3) := by decide +kernel
theorem dX7_best_69 : decode cX7_best 69 = .ok (.istore 6, 2) := by decide +kernel
theorem dX7_best_71 : decode cX7_best 71 = .ok (.aload_n 0, 1) := by decide +kernel
theorem dX7_best_72 : decode cX7_best 72 = .ok (.getfield 120, 3) := by decide +kernel
theorem dX7_best_75 : decode cX7_best 75 = .ok (.istore 5, 2) := by decide +kernel
theorem dX7_best_77 : decode cX7_best 77 = .ok (.aload_n 0, 1) := by decide +kernel
theorem dX7_best_78 : decode cX7_best 78 = .ok (.dup, 1) := by decide +kernel
theorem dX7_best_79 : decode cX7_best 79 = .ok (.getfield 120, 3) := by decide +kernel
theorem dX7_best_82 : decode cX7_best 82 = .ok (.iconst 1, 1) := by decide +kernel
theorem dX7_best_83 : decode cX7_best 83 = .ok (.iadd, 1) := by decide +kernel
theorem dX7_best_84 : decode cX7_best 84 = .ok (.putfield 120, 3) := by decide +kernel
theorem dX7_best_87 : decode cX7_best 87 = .ok (.goto (-46), 3) := by decide +kernel
theorem dX7_best_90 : decode cX7_best 90 = .ok (.aload_n 0, 1) := by decide +kernel
theorem dX7_best_91 : decode cX7_best 91 = .ok (.iload 4, 2) := by decide +kernel
theorem dX7_best_93 : decode cX7_best 93 = .ok (.putfield 120, 3) := by decide +kernel
theorem dX7_best_96 : decode cX7_best 96 = .ok (.iload_n 2, 1) := by decide +kernel
theorem dX7_best_97 : decode cX7_best 97 = .ok (.ifCond .ne 8, 3) := by decide +kernel
theorem dX7_best_100 : decode cX7_best 100 = .ok (.iload 5, 2) := by decide +kernel
theorem dX7_best_102 : decode cX7_best 102 = .ok (.goto 5, 3) := by decide +kernel
theorem dX7_best_105 : decode cX7_best 105 = .ok (.iload 6, 2) := by decide +kernel
theorem dX7_best_107 : decode cX7_best 107 = .ok (.ireturn, 1) := by decide +kernel
theorem dX7_highest_0 : decode cX7_highest 0 = .ok (.aload_n 0, 1) := by decide +kernel
theorem dX7_highest_1 : decode cX7_highest 1 = .ok (.iload_n 1, 1) := by decide +kernel
theorem dX7_highest_2 : decode cX7_highest 2 = .ok (.invokevirtual 139, 3) := by decide +kernel
theorem dX7_highest_5 : decode cX7_highest 5 = .ok (.ifCond .ne 5, 3) := by decide +kernel
theorem dX7_highest_8 : decode cX7_highest 8 = .ok (.iconst (-1), 1) := by decide +kernel
theorem dX7_highest_9 : decode cX7_highest 9 = .ok (.ireturn, 1) := by decide +kernel
theorem dX7_highest_10 : decode cX7_highest 10 = .ok (.iload_n 2, 1) := by decide +kernel
theorem dX7_highest_11 : decode cX7_highest 11 = .ok (.iconst 0, 1) := by decide +kernel
theorem dX7_highest_12 : decode cX7_highest 12 = .ok (.bipush 10, 2) := by decide +kernel
theorem dX7_highest_14 : decode cX7_highest 14 = .ok (.invokestatic 74, 3) := by decide +kernel
theorem dX7_highest_17 : decode cX7_highest 17 = .ok (.ifCond .ne 6, 3) := by decide +kernel
theorem dX7_highest_20 : decode cX7_highest 20 = .ok (.bipush (-2), 2) := by decide +kernel
theorem dX7_highest_22 : decode cX7_highest 22 = .ok (.ireturn, 1) := by decide +kernel
theorem dX7_highest_23 : decode cX7_highest 23 = .ok (.aload_n 0, 1) := by decide +kernel
theorem dX7_highest_24 : decode cX7_highest 24 = .ok (.getfield 22, 3) := by decide +kernel
theorem dX7_highest_27 : decode cX7_highest 27 = .ok (.iload_n 1, 1) := by decide +kernel
theorem dX7_highest_28 : decode cX7_highest 28 = .ok (.iaload, 1) := by decide +kernel
theorem dX7_highest_29 : decode cX7_highest 29 = .ok (.istore_n 3, 1) := by decide +kernel
theorem dX7_highest_30 : decode cX7_highest 30 = .ok (.bipush (-9), 2) := by decide +kernel
theorem dX7_highest_32 : decode cX7_highest 32 = .ok (.istore 4, 2) := by decide +kernel
theorem dX7_highest_34 : decode cX7_highest 34 = .ok (.iconst 0, 1) := by decide +kernel
theorem dX7_highest_35 : decode cX7_highest 35 = .ok (.istore 5, 2) := by decide +kernel
theorem dX7_highest_37 : decode cX7_highest 37 = .ok (.iload 5, 2) := by decide +kernel
theorem dX7_highest_39 : decode cX7_highest 39 = .ok (.bipush 9, 2) := by decide +kernel
theorem dX7_highest_41 : decode cX7_highest 41 = .ok (.if_icmp .gt 42, 3) := by decide +kernel
theorem dX7_highest_44 : decode cX7_highest 44 = .ok (.aload_n 0, 1) := by decide +kernel
theorem dX7_highest_45 : decode cX7_highest 45 = .ok (.getfield 22, 3) := by decide +kernel
theorem dX7_highest_48 : decode cX7_highest 48 = .ok (.iload_n 1, 1) := by decide +kernel
theorem dX7_highest_49 : decode cX7_highest 49 = .ok (.iload 5, 2) := by decide +kernel
theorem dX7_highest_51 : decode cX7_highest 51 = .ok (.iastore, 1) := by decide +kernel
theorem dX7_highest_52 : decode cX7_highest 52 = .ok (.aload_n 0, 1) := by decide +kernel
theorem dX7_highest_53 : decode cX7_highest 53 = .ok (.iload_n 2, 1) := by decide +kernel
theorem dX7_highest_54 : decode cX7_highest 54 = .ok (.invokevirtual 189, 3) := by decide +kernel
theorem dX7_highest_57 : decode cX7_highest 57 = .ok (.aload_n 0, 1) := by decide +kernel
theorem dX7_highest_58 : decode cX7_highest 58 = .ok (.iload_n 1, 1) := by decide +kernel
theorem dX7_highest_59 : decode cX7_highest 59 = .ok (.iload_n 2, 1) := by decide +kernel
theorem dX7_highest_60 : decode cX7_highest 60 = .ok (.invokevirtual 192, 3) := by decide +kernel
theorem dX7_highest_63 : decode cX7_highest 63 = .ok (.bipush (-9), 2) := by decide +kernel
theorem dX7_highest_65 : decode cX7_highest 65 = .ok (.if_icmp .ne 8, 3) := by decide +kernel
theorem dX7_highest_68 : decode cX7_highest 68 = .ok (.iload 5, 2) := by decide +kernel
theorem dX7_highest_70 : decode cX7_highest 70 = .ok (.goto 5, 3) := by decide +kernel
theorem dX7_highest_73 : decode cX7_highest 73 = .ok (.iload 4, 2) := by decide +kernel
theorem dX7_highest_75 : decode cX7_highest 75 = .ok (.istore 4, 2) := by decide +kernel
theorem dX7_highest_77 : decode cX7_highest 77 = .ok (.iinc 5 1, 3) := by decide +kernel
theorem dX7_highest_80 : decode cX7_highest 80 = .ok (.goto (-43), 3) := by decide +kernel
theorem dX7_highest_83 : decode cX7_highest 83 = .ok (.aload_n 0, 1) := by decide +kernel
theorem dX7_highest_84 : decode cX7_highest 84 = .ok (.getfield 22, 3) := by decide +kernel
theorem dX7_highest_87 : decode cX7_highest 87 = .ok (.iload_n 1, 1) := by decide +kernel
theorem dX7_highest_88 : decode cX7_highest 88 = .ok (.iload_n 3, 1) := by decide +kernel
theorem dX7_highest_89 : decode cX7_highest 89 = .ok (.iastore, 1) := by decide +kernel
theorem dX7_highest_90 : decode cX7_highest 90 = .ok (.iload 4, 2) := by decide +kernel
theorem dX7_highest_92 : decode cX7_highest 92 = .ok (.ireturn, 1) := by decide +kernel
theorem dX7_inLeastTerms_0 : decode cX7_inLeastTerms 0 = .ok (.lload_n 0, 1) := by decide +kernel
theorem dX7_inLeastTerms_1 : decode cX7_inLeastTerms 1 = .ok (.lstore 5, 2) := by decide +kernel
theorem dX7_inLeastTerms_3 : decode cX7_inLeastTerms 3 = .ok (.lload_n 2, 1) := by decide +kernel
theorem dX7_inLeastTerms_4 : decode cX7_inLeastTerms 4 = .ok (.lstore 7, 2) := by decide +kernel
theorem dX7_inLeastTerms_6 : decode cX7_inLeastTerms 6 = .ok (.lload 7, 2) := by decide +kernel
theorem dX7_inLeastTerms_8 : decode cX7_inLeastTerms 8 = .ok (.lconst 0, 1) := by decide +kernel
theorem dX7_inLeastTerms_9 : decode cX7_inLeastTerms 9 = .ok (.lcmp, 1) := by decide +kernel
theorem dX7_inLeastTerms_10 : decode cX7_inLeastTerms 10 = .ok (.ifCond .eq 21, 3) := by decide +kernel
theorem dX7_inLeastTerms_13 : decode cX7_inLeastTerms 13 = .ok (.lload 5, 2) := by decide +kernel
theorem dX7_inLeastTerms_15 : decode cX7_inLeastTerms 15 = .ok (.lload 7, 2) := by decide +kernel
theorem dX7_inLeastTerms_17 : decode cX7_inLeastTerms 17 = .ok (.lrem, 1) := by decide +kernel
theorem dX7_inLeastTerms_18 : decode cX7_inLeastTerms 18 = .ok (.lstore 9, 2) := by decide +kernel
theorem dX7_inLeastTerms_20 : decode cX7_inLeastTerms 20 = .ok (.lload 7, 2) := by decide +kernel
theorem dX7_inLeastTerms_22 : decode cX7_inLeastTerms 22 = .ok (.lstore 5, 2) := by decide +kernel
theorem dX7_inLeastTerms_24 : decode cX7_inLeastTerms 24 = .ok (.lload 9, 2) := by decide +kernel
theorem dX7_inLeastTerms_26 : decode cX7_inLeastTerms 26 = .ok (.lstore 7, 2) := by decide +kernel
theorem dX7_inLeastTerms_28 : decode cX7_inLeastTerms 28 = .ok (.goto (-22), 3) := by decide +kernel
theorem dX7_inLeastTerms_31 : decode cX7_inLeastTerms 31 = .ok (.iload 4, 2) := by decide +kernel
theorem dX7_inLeastTerms_33 : decode cX7_inLeastTerms 33 = .ok (.ifCond .ne 10, 3) := by decide +kernel
theorem dX7_inLeastTerms_36 : decode cX7_inLeastTerms 36 = .ok (.lload_n 0, 1) := by decide +kernel
theorem dX7_inLeastTerms_37 : decode cX7_inLeastTerms 37 = .ok (.lload 5, 2) := by decide +kernel
theorem dX7_inLeastTerms_39 : decode cX7_inLeastTerms 39 = .ok (.ldiv, 1) := by decide +kernel
theorem dX7_inLeastTerms_40 : decode cX7_inLeastTerms 40 = .ok (.goto 7, 3) := by decide +kernel
theorem dX7_inLeastTerms_43 : decode cX7_inLeastTerms 43 = .ok (.lload_n 2, 1) := by decide +kernel
theorem dX7_inLeastTerms_44 : decode cX7_inLeastTerms 44 = .ok (.lload 5, 2) := by decide +kernel
theorem dX7_inLeastTerms_46 : decode cX7_inLeastTerms 46 = .ok (.ldiv, 1) := by decide +kernel
theorem dX7_inLeastTerms_47 : decode cX7_inLeastTerms 47 = .ok (.lreturn, 1) := by decide +kernel
theorem dX7_worst_0 : decode cX7_worst 0 = .ok (.iload_n 1, 1) := by decide +kernel
theorem dX7_worst_1 : decode cX7_worst 1 = .ok (.iconst 1, 1) := by decide +kernel
theorem dX7_worst_2 : decode cX7_worst 2 = .ok (.bipush 10, 2) := by decide +kernel
theorem dX7_worst_4 : decode cX7_worst 4 = .ok (.invokestatic 74, 3) := by decide +kernel
theorem dX7_worst_7 : decode cX7_worst 7 = .ok (.ifCond .eq 19, 3) := by decide +kernel
theorem dX7_worst_10 : decode cX7_worst 10 = .ok (.iload_n 2, 1) := by decide +kernel
theorem dX7_worst_11 : decode cX7_worst 11 = .ok (.iconst 0, 1) := by decide +kernel
theorem dX7_worst_12 : decode cX7_worst 12 = .ok (.iconst 1, 1) := by decide +kernel
theorem dX7_worst_13 : decode cX7_worst 13 = .ok (.invokestatic 74, 3) := by decide +kernel
theorem dX7_worst_16 : decode cX7_worst 16 = .ok (.ifCond .eq 10, 3) := by decide +kernel
theorem dX7_worst_19 : decode cX7_worst 19 = .ok (.aload_n 0, 1) := by decide +kernel
theorem dX7_worst_20 : decode cX7_worst 20 = .ok (.getfield 78, 3) := by decide +kernel
theorem dX7_worst_23 : decode cX7_worst 23 = .ok (.ifCond .ne 7, 3) := by decide +kernel
theorem dX7_worst_26 : decode cX7_worst 26 = .ok (.ldc2_w 72, 3) := by decide +kernel
theorem dX7_worst_29 : decode cX7_worst 29 = .ok (.lreturn, 1) := by decide +kernel
theorem dX7_worst_30 : decode cX7_worst 30 = .ok (.aload_n 0, 1) := by decide +kernel
theorem dX7_worst_31 : decode cX7_worst 31 = .ok (.iload_n 1, 1) := by decide +kernel
theorem dX7_worst_32 : decode cX7_worst 32 = .ok (.invokevirtual 189, 3) := by decide +kernel
theorem dX7_worst_35 : decode cX7_worst 35 = .ok (.lconst 0, 1) := by decide +kernel
theorem dX7_worst_36 : decode cX7_worst 36 = .ok (.lstore_n 3, 1) := by decide +kernel
theorem dX7_worst_37 : decode cX7_worst 37 = .ok (.lconst 0, 1) := by decide +kernel
theorem dX7_worst_38 : decode cX7_worst 38 = .ok (.lstore 5, 2) := by decide +kernel
theorem dX7_worst_40 : decode cX7_worst 40 = .ok (.iconst 0, 1) := by decide +kernel
theorem dX7_worst_41 : decode cX7_worst 41 = .ok (.istore 7, 2) := by decide +kernel
theorem dX7_worst_43 : decode cX7_worst 43 = .ok (.iload 7, 2) := by decide +kernel
theorem dX7_worst_45 : decode cX7_worst 45 = .ok (.aload_n 0, 1) := by decide +kernel
theorem dX7_worst_46 : decode cX7_worst 46 = .ok (.getfield 78, 3) := by decide +kernel
theorem dX7_worst_49 : decode cX7_worst 49 = .ok (.if_icmp .ge 86, 3) := by decide +kernel
theorem dX7_worst_52 : decode cX7_worst 52 = .ok (.lconst 0, 1) := by decide +kernel
theorem dX7_worst_53 : decode cX7_worst 53 = .ok (.lstore 8, 2) := by decide +kernel
theorem dX7_worst_55 : decode cX7_worst 55 = .ok (.iconst 0, 1) := by decide +kernel
theorem dX7_worst_56 : decode cX7_worst 56 = .ok (.istore 10, 2) := by decide +kernel
theorem dX7_worst_58 : decode cX7_worst 58 = .ok (.iload 10, 2) := by decide +kernel
theorem dX7_worst_60 : decode cX7_worst 60 = .ok (.iload_n 1, 1) := by decide +kernel
theorem dX7_worst_61 : decode cX7_worst 61 = .ok (.if_icmp .ge 28, 3) := by decide +kernel
theorem dX7_worst_64 : decode cX7_worst 64 = .ok (.lload 8, 2) := by decide +kernel
theorem dX7_worst_66 : decode cX7_worst 66 = .ok (.aload_n 0, 1) := by decide +kernel
theorem dX7_worst_67 : decode cX7_worst 67 = .ok (.getfield 43, 3) := by decide +kernel
theorem dX7_worst_70 : decode cX7_worst 70 = .ok (.bipush 6, 2) := by decide +kernel
theorem dX7_worst_72 : decode cX7_worst 72 = .ok (.iload 10, 2) := by decide +kernel
theorem dX7_worst_74 : decode cX7_worst 74 = .ok (.imul, 1) := by decide +kernel
theorem dX7_worst_75 : decode cX7_worst 75 = .ok (.iload 7, 2) := by decide +kernel
theorem dX7_worst_77 : decode cX7_worst 77 = .ok (.iadd, 1) := by decide +kernel
theorem dX7_worst_78 : decode cX7_worst 78 = .ok (.iaload, 1) := by decide +kernel
theorem dX7_worst_79 : decode cX7_worst 79 = .ok (.i2l, 1) := by decide +kernel
theorem dX7_worst_80 : decode cX7_worst 80 = .ok (.ladd, 1) := by decide +kernel
theorem dX7_worst_81 : decode cX7_worst 81 = .ok (.lstore 8, 2) := by decide +kernel
theorem dX7_worst_83 : decode cX7_worst 83 = .ok (.iinc 10 1, 3) := by decide +kernel
theorem dX7_worst_86 : decode cX7_worst 86 = .ok (.goto (-28), 3) := by decide +kernel
theorem dX7_worst_89 : decode cX7_worst 89 = .ok (.iload_n 1, 1) := by decide +kernel
theorem dX7_worst_90 : decode cX7_worst 90 = .ok (.i2l, 1) := by decide +kernel
theorem dX7_worst_91 : decode cX7_worst 91 = .ok (.aload_n 0, 1) := by decide +kernel
theorem dX7_worst_92 : decode cX7_worst 92 = .ok (.getfield 25, 3) := by decide +kernel
theorem dX7_worst_95 : decode cX7_worst 95 = .ok (.iload 7, 2) := by decide +kernel
theorem dX7_worst_97 : decode cX7_worst 97 = .ok (.iaload, 1) := by decide +kernel
theorem dX7_worst_98 : decode cX7_worst 98 = .ok (.i2l, 1) := by decide +kernel
theorem dX7_worst_99 : decode cX7_worst 99 = .ok (.lmul, 1) := by decide +kernel
theorem dX7_worst_100 : decode cX7_worst 100 = .ok (.lstore 10, 2) := by decide +kernel
theorem dX7_worst_102 : decode cX7_worst 102 = .ok (.lload 5, 2) := by decide +kernel
theorem dX7_worst_104 : decode cX7_worst 104 = .ok (.lconst 0, 1) := by decide +kernel
theorem dX7_worst_105 : decode cX7_worst 105 = .ok (.lcmp, 1) := by decide +kernel
theorem dX7_worst_106 : decode cX7_worst 106 = .ok (.ifCond .eq 16, 3) := by decide +kernel
theorem dX7_worst_109 : decode cX7_worst 109 = .ok (.lload 8, 2) := by decide +kernel
theorem dX7_worst_111 : decode cX7_worst 111 = .ok (.lload 5, 2) := by decide +kernel
theorem dX7_worst_113 : decode cX7_worst 113 = .ok (.lmul, 1) := by decide +kernel
theorem dX7_worst_114 : decode cX7_worst 114 = .ok (.lload_n 3, 1) := by decide +kernel
theorem dX7_worst_115 : decode cX7_worst 115 = .ok (.lload 10, 2) := by decide +kernel
theorem dX7_worst_117 : decode cX7_worst 117 = .ok (.lmul, 1) := by decide +kernel
theorem dX7_worst_118 : decode cX7_worst 118 = .ok (.lcmp, 1) := by decide +kernel
theorem dX7_worst_119 : decode cX7_worst 119 = .ok (.ifCond .ge 10, 3) := by decide +kernel
theorem dX7_worst_122 : decode cX7_worst 122 = .ok (.lload 8, 2) := by decide +kernel
theorem dX7_worst_124 : decode cX7_worst 124 = .ok (.lstore_n 3, 1) := by decide +kernel
theorem dX7_worst_125 : decode cX7_worst 125 = .ok (.lload 10, 2) := by decide +kernel
theorem dX7_worst_127 : decode cX7_worst 127 = .ok (.lstore 5, 2) := by decide +kernel
theorem dX7_worst_129 : decode cX7_worst 129 = .ok (.iinc 7 1, 3) := by decide +kernel
theorem dX7_worst_132 : decode cX7_worst 132 = .ok (.goto (-89), 3) := by decide +kernel
theorem dX7_worst_135 : decode cX7_worst 135 = .ok (.lload_n 3, 1) := by decide +kernel
theorem dX7_worst_136 : decode cX7_worst 136 = .ok (.lload 5, 2) := by decide +kernel
theorem dX7_worst_138 : decode cX7_worst 138 = .ok (.iload_n 2, 1) := by decide +kernel
theorem dX7_worst_139 : decode cX7_worst 139 = .ok (.invokestatic 205, 3) := by decide +kernel
theorem dX7_worst_142 : decode cX7_worst 142 = .ok (.lreturn, 1) := by decide +kernel
theorem dX7_risk_0 : decode cX7_risk 0 = .ok (.aload_n 0, 1) := by decide +kernel
theorem dX7_risk_1 : decode cX7_risk 1 = .ok (.iload_n 1, 1) := by decide +kernel
theorem dX7_risk_2 : decode cX7_risk 2 = .ok (.invokevirtual 139, 3) := by decide +kernel
theorem dX7_risk_5 : decode cX7_risk 5 = .ok (.ifCond .eq 44, 3) := by decide +kernel
theorem dX7_risk_8 : decode cX7_risk 8 = .ok (.iload_n 2, 1) := by decide +kernel
theorem dX7_risk_9 : decode cX7_risk 9 = .ok (.iconst 0, 1) := by decide +kernel
theorem dX7_risk_10 : decode cX7_risk 10 = .ok (.bipush 6, 2) := by decide +kernel
theorem dX7_risk_12 : decode cX7_risk 12 = .ok (.invokestatic 74, 3) := by decide +kernel
theorem dX7_risk_15 : decode cX7_risk 15 = .ok (.ifCond .eq 34, 3) := by decide +kernel
theorem dX7_risk_18 : decode cX7_risk 18 = .ok (.iload_n 3, 1) := by decide +kernel
theorem dX7_risk_19 : decode cX7_risk 19 = .ok (.iconst 0, 1) := by decide +kernel
theorem dX7_risk_20 : decode cX7_risk 20 = .ok (.bipush 99, 2) := by decide +kernel
theorem dX7_risk_22 : decode cX7_risk 22 = .ok (.invokestatic 74, 3) := by decide +kernel
theorem dX7_risk_25 : decode cX7_risk 25 = .ok (.ifCond .eq 24, 3) := by decide +kernel
theorem dX7_risk_28 : decode cX7_risk 28 = .ok (.iload 4, 2) := by decide +kernel
theorem dX7_risk_30 : decode cX7_risk 30 = .ok (.iconst 0, 1) := by decide +kernel
theorem dX7_risk_31 : decode cX7_risk 31 = .ok (.bipush 99, 2) := by decide +kernel
theorem dX7_risk_33 : decode cX7_risk 33 = .ok (.invokestatic 74, 3) := by decide +kernel
theorem dX7_risk_36 : decode cX7_risk 36 = .ok (.ifCond .eq 13, 3) := by decide +kernel
theorem dX7_risk_39 : decode cX7_risk 39 = .ok (.iload 5, 2) := by decide +kernel
theorem dX7_risk_41 : decode cX7_risk 41 = .ok (.iconst 0, 1) := by decide +kernel
theorem dX7_risk_42 : decode cX7_risk 42 = .ok (.iconst 1, 1) := by decide +kernel
theorem dX7_risk_43 : decode cX7_risk 43 = .ok (.invokestatic 74, 3) := by decide +kernel
theorem dX7_risk_46 : decode cX7_risk 46 = .ok (.ifCond .ne 7, 3) := by decide +kernel
theorem dX7_risk_49 : decode cX7_risk 49 = .ok (.ldc2_w 72, 3) := by decide +kernel
theorem dX7_risk_52 : decode cX7_risk 52 = .ok (.lreturn, 1) := by decide +kernel
theorem dX7_risk_53 : decode cX7_risk 53 = .ok (.iconst 0, 1) := by decide +kernel
theorem dX7_risk_54 : decode cX7_risk 54 = .ok (.istore 6, 2) := by decide +kernel
theorem dX7_risk_56 : decode cX7_risk 56 = .ok (.iload 6, 2) := by decide +kernel
theorem dX7_risk_58 : decode cX7_risk 58 = .ok (.bipush 10, 2) := by decide +kernel
theorem dX7_risk_60 : decode cX7_risk 60 = .ok (.if_icmp .ge 23, 3) := by decide +kernel
theorem dX7_risk_63 : decode cX7_risk 63 = .ok (.aload_n 0, 1) := by decide +kernel
theorem dX7_risk_64 : decode cX7_risk 64 = .ok (.getfield 60, 3) := by decide +kernel
theorem dX7_risk_67 : decode cX7_risk 67 = .ok (.iload 6, 2) := by decide +kernel
theorem dX7_risk_69 : decode cX7_risk 69 = .ok (.aload_n 0, 1) := by decide +kernel
theorem dX7_risk_70 : decode cX7_risk 70 = .ok (.getfield 31, 3) := by decide +kernel
theorem dX7_risk_73 : decode cX7_risk 73 = .ok (.iload 6, 2) := by decide +kernel
theorem dX7_risk_75 : decode cX7_risk 75 = .ok (.iaload, 1) := by decide +kernel
theorem dX7_risk_76 : decode cX7_risk 76 = .ok (.iastore, 1) := by decide +kernel
theorem dX7_risk_77 : decode cX7_risk 77 = .ok (.iinc 6 1, 3) := by decide +kernel
theorem dX7_risk_80 : decode cX7_risk 80 = .ok (.goto (-24), 3) := by decide +kernel
theorem dX7_risk_83 : decode cX7_risk 83 = .ok (.iconst 0, 1) := by decide +kernel
theorem dX7_risk_84 : decode cX7_risk 84 = .ok (.istore 6, 2) := by decide +kernel
theorem dX7_risk_86 : decode cX7_risk 86 = .ok (.iconst 0, 1) := by decide +kernel
theorem dX7_risk_87 : decode cX7_risk 87 = .ok (.istore 7, 2) := by decide +kernel
theorem dX7_risk_89 : decode cX7_risk 89 = .ok (.iload 7, 2) := by decide +kernel
theorem dX7_risk_91 : decode cX7_risk 91 = .ok (.iconst 1, 1) := by decide +kernel
theorem dX7_risk_92 : decode cX7_risk 92 = .ok (.iload_n 2, 1) := by decide +kernel
theorem dX7_risk_93 : decode cX7_risk 93 = .ok (.ishl, 1) := by decide +kernel
theorem dX7_risk_94 : decode cX7_risk 94 = .ok (.if_icmp .ge 73, 3) := by decide +kernel
theorem dX7_risk_97 : decode cX7_risk 97 = .ok (.iconst 0, 1) := by decide +kernel
theorem dX7_risk_98 : decode cX7_risk 98 = .ok (.istore 8, 2) := by decide +kernel
theorem dX7_risk_100 : decode cX7_risk 100 = .ok (.iload 8, 2) := by decide +kernel
theorem dX7_risk_102 : decode cX7_risk 102 = .ok (.iload_n 2, 1) := by decide +kernel
theorem dX7_risk_103 : decode cX7_risk 103 = .ok (.if_icmp .ge 32, 3) := by decide +kernel
theorem dX7_risk_106 : decode cX7_risk 106 = .ok (.aload_n 0, 1) := by decide +kernel
theorem dX7_risk_107 : decode cX7_risk 107 = .ok (.getfield 31, 3) := by decide +kernel
theorem dX7_risk_110 : decode cX7_risk 110 = .ok (.iload 8, 2) := by decide +kernel
theorem dX7_risk_112 : decode cX7_risk 112 = .ok (.iload 7, 2) := by decide +kernel
theorem dX7_risk_114 : decode cX7_risk 114 = .ok (.iload 8, 2) := by decide +kernel
theorem dX7_risk_116 : decode cX7_risk 116 = .ok (.ishr, 1) := by decide +kernel
theorem dX7_risk_117 : decode cX7_risk 117 = .ok (.iconst 1, 1) := by decide +kernel
theorem dX7_risk_118 : decode cX7_risk 118 = .ok (.iand, 1) := by decide +kernel
theorem dX7_risk_119 : decode cX7_risk 119 = .ok (.ifCond .ne 7, 3) := by decide +kernel
theorem dX7_risk_122 : decode cX7_risk 122 = .ok (.iload_n 3, 1) := by decide +kernel
theorem dX7_risk_123 : decode cX7_risk 123 = .ok (.goto 5, 3) := by decide +kernel
theorem dX7_risk_126 : decode cX7_risk 126 = .ok (.iload 4, 2) := by decide +kernel
theorem dX7_risk_128 : decode cX7_risk 128 = .ok (.iastore, 1) := by decide +kernel
theorem dX7_risk_129 : decode cX7_risk 129 = .ok (.iinc 8 1, 3) := by decide +kernel
theorem dX7_risk_132 : decode cX7_risk 132 = .ok (.goto (-32), 3) := by decide +kernel
theorem dX7_risk_135 : decode cX7_risk 135 = .ok (.aload_n 0, 1) := by decide +kernel
theorem dX7_risk_136 : decode cX7_risk 136 = .ok (.iload_n 2, 1) := by decide +kernel
theorem dX7_risk_137 : decode cX7_risk 137 = .ok (.invokevirtual 189, 3) := by decide +kernel
theorem dX7_risk_140 : decode cX7_risk 140 = .ok (.iload 6, 2) := by decide +kernel
theorem dX7_risk_142 : decode cX7_risk 142 = .ok (.aload_n 0, 1) := by decide +kernel
theorem dX7_risk_143 : decode cX7_risk 143 = .ok (.iload_n 1, 1) := by decide +kernel
theorem dX7_risk_144 : decode cX7_risk 144 = .ok (.iload_n 2, 1) := by decide +kernel
theorem dX7_risk_145 : decode cX7_risk 145 = .ok (.invokevirtual 192, 3) := by decide +kernel
theorem dX7_risk_148 : decode cX7_risk 148 = .ok (.bipush (-9), 2) := by decide +kernel
theorem dX7_risk_150 : decode cX7_risk 150 = .ok (.if_icmp .ne 7, 3) := by decide +kernel
theorem dX7_risk_153 : decode cX7_risk 153 = .ok (.iconst 0, 1) := by decide +kernel
theorem dX7_risk_154 : decode cX7_risk 154 = .ok (.goto 4, 3) := by decide +kernel
theorem dX7_risk_157 : decode cX7_risk 157 = .ok (.iconst 1, 1) := by decide +kernel
theorem dX7_risk_158 : decode cX7_risk 158 = .ok (.iadd, 1) := by decide +kernel
theorem dX7_risk_159 : decode cX7_risk 159 = .ok (.istore 6, 2) := by decide +kernel
theorem dX7_risk_161 : decode cX7_risk 161 = .ok (.iinc 7 1, 3) := by decide +kernel
theorem dX7_risk_164 : decode cX7_risk 164 = .ok (.goto (-75), 3) := by decide +kernel
theorem dX7_risk_167 : decode cX7_risk 167 = .ok (.iconst 0, 1) := by decide +kernel
theorem dX7_risk_168 : decode cX7_risk 168 = .ok (.istore 7, 2) := by decide +kernel
theorem dX7_risk_170 : decode cX7_risk 170 = .ok (.iload 7, 2) := by decide +kernel
theorem dX7_risk_172 : decode cX7_risk 172 = .ok (.bipush 10, 2) := by decide +kernel
theorem dX7_risk_174 : decode cX7_risk 174 = .ok (.if_icmp .ge 23, 3) := by decide +kernel
theorem dX7_risk_177 : decode cX7_risk 177 = .ok (.aload_n 0, 1) := by decide +kernel
theorem dX7_risk_178 : decode cX7_risk 178 = .ok (.getfield 31, 3) := by decide +kernel
theorem dX7_risk_181 : decode cX7_risk 181 = .ok (.iload 7, 2) := by decide +kernel
theorem dX7_risk_183 : decode cX7_risk 183 = .ok (.aload_n 0, 1) := by decide +kernel
theorem dX7_risk_184 : decode cX7_risk 184 = .ok (.getfield 60, 3) := by decide +kernel
theorem dX7_risk_187 : decode cX7_risk 187 = .ok (.iload 7, 2) := by decide +kernel
theorem dX7_risk_189 : decode cX7_risk 189 = .ok (.iaload, 1) := by decide +kernel
theorem dX7_risk_190 : decode cX7_risk 190 = .ok (.iastore, 1) := by decide +kernel
theorem dX7_risk_191 : decode cX7_risk 191 = .ok (.iinc 7 1, 3) := by decide +kernel
theorem dX7_risk_194 : decode cX7_risk 194 = .ok (.goto (-24), 3) := by decide +kernel
theorem dX7_risk_197 : decode cX7_risk 197 = .ok (.iload 6, 2) := by decide +kernel
theorem dX7_risk_199 : decode cX7_risk 199 = .ok (.i2l, 1) := by decide +kernel
theorem dX7_risk_200 : decode cX7_risk 200 = .ok (.lconst 1, 1) := by decide +kernel
theorem dX7_risk_201 : decode cX7_risk 201 = .ok (.iload_n 2, 1) := by decide +kernel
theorem dX7_risk_202 : decode cX7_risk 202 = .ok (.lshl, 1) := by decide +kernel
theorem dX7_risk_203 : decode cX7_risk 203 = .ok (.iload 5, 2) := by decide +kernel
theorem dX7_risk_205 : decode cX7_risk 205 = .ok (.invokestatic 205, 3) := by decide +kernel
theorem dX7_risk_208 : decode cX7_risk 208 = .ok (.lreturn, 1) := by decide +kernel
theorem dX7_mark_0 : decode cX7_mark 0 = .ok (.iload_n 1, 1) := by decide +kernel
theorem dX7_mark_1 : decode cX7_mark 1 = .ok (.iconst 0, 1) := by decide +kernel
theorem dX7_mark_2 : decode cX7_mark 2 = .ok (.bipush 10, 2) := by decide +kernel
theorem dX7_mark_4 : decode cX7_mark 4 = .ok (.invokestatic 74, 3) := by decide +kernel
theorem dX7_mark_7 : decode cX7_mark 7 = .ok (.ifCond .ne 5, 3) := by decide +kernel
theorem dX7_mark_10 : decode cX7_mark 10 = .ok (.iconst (-1), 1) := by decide +kernel
theorem dX7_mark_11 : decode cX7_mark 11 = .ok (.ireturn, 1) := by decide +kernel
theorem dX7_mark_12 : decode cX7_mark 12 = .ok (.iload_n 2, 1) := by decide +kernel
theorem dX7_mark_13 : decode cX7_mark 13 = .ok (.iconst 0, 1) := by decide +kernel
theorem dX7_mark_14 : decode cX7_mark 14 = .ok (.bipush 99, 2) := by decide +kernel
theorem dX7_mark_16 : decode cX7_mark 16 = .ok (.invokestatic 74, 3) := by decide +kernel
theorem dX7_mark_19 : decode cX7_mark 19 = .ok (.ifCond .ne 6, 3) := by decide +kernel
theorem dX7_mark_22 : decode cX7_mark 22 = .ok (.bipush (-2), 2) := by decide +kernel
theorem dX7_mark_24 : decode cX7_mark 24 = .ok (.ireturn, 1) := by decide +kernel
theorem dX7_mark_25 : decode cX7_mark 25 = .ok (.aload_n 0, 1) := by decide +kernel
theorem dX7_mark_26 : decode cX7_mark 26 = .ok (.getfield 78, 3) := by decide +kernel
theorem dX7_mark_29 : decode cX7_mark 29 = .ok (.ifCond .ne 6, 3) := by decide +kernel
theorem dX7_mark_32 : decode cX7_mark 32 = .ok (.bipush (-3), 2) := by decide +kernel
theorem dX7_mark_34 : decode cX7_mark 34 = .ok (.ireturn, 1) := by decide +kernel
theorem dX7_mark_35 : decode cX7_mark 35 = .ok (.aload_n 0, 1) := by decide +kernel
theorem dX7_mark_36 : decode cX7_mark 36 = .ok (.getfield 129, 3) := by decide +kernel
theorem dX7_mark_39 : decode cX7_mark 39 = .ok (.bipush 8, 2) := by decide +kernel
theorem dX7_mark_41 : decode cX7_mark 41 = .ok (.if_icmp .ne 6, 3) := by decide +kernel
theorem dX7_mark_44 : decode cX7_mark 44 = .ok (.bipush (-4), 2) := by decide +kernel
theorem dX7_mark_46 : decode cX7_mark 46 = .ok (.ireturn, 1) := by decide +kernel
theorem dX7_mark_47 : decode cX7_mark 47 = .ok (.aload_n 0, 1) := by decide +kernel
theorem dX7_mark_48 : decode cX7_mark 48 = .ok (.getfield 63, 3) := by decide +kernel
theorem dX7_mark_51 : decode cX7_mark 51 = .ok (.aload_n 0, 1) := by decide +kernel
theorem dX7_mark_52 : decode cX7_mark 52 = .ok (.getfield 129, 3) := by decide +kernel
theorem dX7_mark_55 : decode cX7_mark 55 = .ok (.iload_n 1, 1) := by decide +kernel
theorem dX7_mark_56 : decode cX7_mark 56 = .ok (.iastore, 1) := by decide +kernel
theorem dX7_mark_57 : decode cX7_mark 57 = .ok (.aload_n 0, 1) := by decide +kernel
theorem dX7_mark_58 : decode cX7_mark 58 = .ok (.getfield 66, 3) := by decide +kernel
theorem dX7_mark_61 : decode cX7_mark 61 = .ok (.aload_n 0, 1) := by decide +kernel
theorem dX7_mark_62 : decode cX7_mark 62 = .ok (.getfield 129, 3) := by decide +kernel
theorem dX7_mark_65 : decode cX7_mark 65 = .ok (.iload_n 2, 1) := by decide +kernel
theorem dX7_mark_66 : decode cX7_mark 66 = .ok (.iastore, 1) := by decide +kernel
theorem dX7_mark_67 : decode cX7_mark 67 = .ok (.aload_n 0, 1) := by decide +kernel
theorem dX7_mark_68 : decode cX7_mark 68 = .ok (.dup, 1) := by decide +kernel
theorem dX7_mark_69 : decode cX7_mark 69 = .ok (.getfield 129, 3) := by decide +kernel
theorem dX7_mark_72 : decode cX7_mark 72 = .ok (.iconst 1, 1) := by decide +kernel
theorem dX7_mark_73 : decode cX7_mark 73 = .ok (.iadd, 1) := by decide +kernel
theorem dX7_mark_74 : decode cX7_mark 74 = .ok (.putfield 129, 3) := by decide +kernel
theorem dX7_mark_77 : decode cX7_mark 77 = .ok (.aload_n 0, 1) := by decide +kernel
theorem dX7_mark_78 : decode cX7_mark 78 = .ok (.getfield 129, 3) := by decide +kernel
theorem dX7_mark_81 : decode cX7_mark 81 = .ok (.iconst 1, 1) := by decide +kernel
theorem dX7_mark_82 : decode cX7_mark 82 = .ok (.isub, 1) := by decide +kernel
theorem dX7_mark_83 : decode cX7_mark 83 = .ok (.ireturn, 1) := by decide +kernel
theorem dX7_back_0 : decode cX7_back 0 = .ok (.iload_n 1, 1) := by decide +kernel
theorem dX7_back_1 : decode cX7_back 1 = .ok (.iconst 0, 1) := by decide +kernel
theorem dX7_back_2 : decode cX7_back 2 = .ok (.aload_n 0, 1) := by decide +kernel
theorem dX7_back_3 : decode cX7_back 3 = .ok (.getfield 129, 3) := by decide +kernel
theorem dX7_back_6 : decode cX7_back 6 = .ok (.invokestatic 74, 3) := by decide +kernel
theorem dX7_back_9 : decode cX7_back 9 = .ok (.ifCond .ne 6, 3) := by decide +kernel
theorem dX7_back_12 : decode cX7_back 12 = .ok (.bipush (-2), 2) := by decide +kernel
theorem dX7_back_14 : decode cX7_back 14 = .ok (.ireturn, 1) := by decide +kernel
theorem dX7_back_15 : decode cX7_back 15 = .ok (.aload_n 0, 1) := by decide +kernel
theorem dX7_back_16 : decode cX7_back 16 = .ok (.dup, 1) := by decide +kernel
theorem dX7_back_17 : decode cX7_back 17 = .ok (.getfield 129, 3) := by decide +kernel
theorem dX7_back_20 : decode cX7_back 20 = .ok (.iload_n 1, 1) := by decide +kernel
theorem dX7_back_21 : decode cX7_back 21 = .ok (.isub, 1) := by decide +kernel
theorem dX7_back_22 : decode cX7_back 22 = .ok (.putfield 129, 3) := by decide +kernel
theorem dX7_back_25 : decode cX7_back 25 = .ok (.aload_n 0, 1) := by decide +kernel
theorem dX7_back_26 : decode cX7_back 26 = .ok (.getfield 129, 3) := by decide +kernel
theorem dX7_back_29 : decode cX7_back 29 = .ok (.ireturn, 1) := by decide +kernel
theorem dX7_areSo_0 : decode cX7_areSo 0 = .ok (.aload_n 0, 1) := by decide +kernel
theorem dX7_areSo_1 : decode cX7_areSo 1 = .ok (.bipush 10, 2) := by decide +kernel
theorem dX7_areSo_3 : decode cX7_areSo 3 = .ok (.invokevirtual 189, 3) := by decide +kernel
theorem dX7_areSo_6 : decode cX7_areSo 6 = .ok (.iconst 0, 1) := by decide +kernel
theorem dX7_areSo_7 : decode cX7_areSo 7 = .ok (.istore_n 1, 1) := by decide +kernel
theorem dX7_areSo_8 : decode cX7_areSo 8 = .ok (.iload_n 1, 1) := by decide +kernel
theorem dX7_areSo_9 : decode cX7_areSo 9 = .ok (.aload_n 0, 1) := by decide +kernel
theorem dX7_areSo_10 : decode cX7_areSo 10 = .ok (.getfield 129, 3) := by decide +kernel
theorem dX7_areSo_13 : decode cX7_areSo 13 = .ok (.if_icmp .ge 31, 3) := by decide +kernel
theorem dX7_areSo_16 : decode cX7_areSo 16 = .ok (.aload_n 0, 1) := by decide +kernel
theorem dX7_areSo_17 : decode cX7_areSo 17 = .ok (.getfield 40, 3) := by decide +kernel
theorem dX7_areSo_20 : decode cX7_areSo 20 = .ok (.aload_n 0, 1) := by decide +kernel
theorem dX7_areSo_21 : decode cX7_areSo 21 = .ok (.getfield 63, 3) := by decide +kernel
theorem dX7_areSo_24 : decode cX7_areSo 24 = .ok (.iload_n 1, 1) := by decide +kernel
theorem dX7_areSo_25 : decode cX7_areSo 25 = .ok (.iaload, 1) := by decide +kernel
theorem dX7_areSo_26 : decode cX7_areSo 26 = .ok (.iaload, 1) := by decide +kernel
theorem dX7_areSo_27 : decode cX7_areSo 27 = .ok (.aload_n 0, 1) := by decide +kernel
theorem dX7_areSo_28 : decode cX7_areSo 28 = .ok (.getfield 66, 3) := by decide +kernel
theorem dX7_areSo_31 : decode cX7_areSo 31 = .ok (.iload_n 1, 1) := by decide +kernel
theorem dX7_areSo_32 : decode cX7_areSo 32 = .ok (.iaload, 1) := by decide +kernel
theorem dX7_areSo_33 : decode cX7_areSo 33 = .ok (.if_icmp .eq 5, 3) := by decide +kernel
theorem dX7_areSo_36 : decode cX7_areSo 36 = .ok (.iconst 0, 1) := by decide +kernel
theorem dX7_areSo_37 : decode cX7_areSo 37 = .ok (.ireturn, 1) := by decide +kernel
theorem dX7_areSo_38 : decode cX7_areSo 38 = .ok (.iinc 1 1, 3) := by decide +kernel
theorem dX7_areSo_41 : decode cX7_areSo 41 = .ok (.goto (-33), 3) := by decide +kernel
theorem dX7_areSo_44 : decode cX7_areSo 44 = .ok (.iconst 1, 1) := by decide +kernel
theorem dX7_areSo_45 : decode cX7_areSo 45 = .ok (.ireturn, 1) := by decide +kernel
theorem dX7_rains_0 : decode cX7_rains 0 = .ok (.iload_n 1, 1) := by decide +kernel
theorem dX7_rains_1 : decode cX7_rains 1 = .ok (.invokestatic 145, 3) := by decide +kernel
theorem dX7_rains_4 : decode cX7_rains 4 = .ok (.ifCond .eq 8, 3) := by decide +kernel
theorem dX7_rains_7 : decode cX7_rains 7 = .ok (.iload_n 2, 1) := by decide +kernel
theorem dX7_rains_8 : decode cX7_rains 8 = .ok (.iconst (-1), 1) := by decide +kernel
theorem dX7_rains_9 : decode cX7_rains 9 = .ok (.if_icmp .ge 5, 3) := by decide +kernel
theorem dX7_rains_12 : decode cX7_rains 12 = .ok (.iconst (-1), 1) := by decide +kernel
theorem dX7_rains_13 : decode cX7_rains 13 = .ok (.ireturn, 1) := by decide +kernel
theorem dX7_rains_14 : decode cX7_rains 14 = .ok (.aload_n 0, 1) := by decide +kernel
theorem dX7_rains_15 : decode cX7_rains 15 = .ok (.getfield 78, 3) := by decide +kernel
theorem dX7_rains_18 : decode cX7_rains 18 = .ok (.ifCond .ne 6, 3) := by decide +kernel
theorem dX7_rains_21 : decode cX7_rains 21 = .ok (.bipush (-3), 2) := by decide +kernel
theorem dX7_rains_23 : decode cX7_rains 23 = .ok (.ireturn, 1) := by decide +kernel
theorem dX7_rains_24 : decode cX7_rains 24 = .ok (.aload_n 0, 1) := by decide +kernel
theorem dX7_rains_25 : decode cX7_rains 25 = .ok (.getfield 31, 3) := by decide +kernel
theorem dX7_rains_28 : decode cX7_rains 28 = .ok (.iload_n 1, 1) := by decide +kernel
theorem dX7_rains_29 : decode cX7_rains 29 = .ok (.iaload, 1) := by decide +kernel
theorem dX7_rains_30 : decode cX7_rains 30 = .ok (.istore_n 3, 1) := by decide +kernel
theorem dX7_rains_31 : decode cX7_rains 31 = .ok (.iconst 0, 1) := by decide +kernel
theorem dX7_rains_32 : decode cX7_rains 32 = .ok (.istore 4, 2) := by decide +kernel
theorem dX7_rains_34 : decode cX7_rains 34 = .ok (.bipush (-9), 2) := by decide +kernel
theorem dX7_rains_36 : decode cX7_rains 36 = .ok (.istore 5, 2) := by decide +kernel
theorem dX7_rains_38 : decode cX7_rains 38 = .ok (.iconst 0, 1) := by decide +kernel
theorem dX7_rains_39 : decode cX7_rains 39 = .ok (.istore 6, 2) := by decide +kernel
theorem dX7_rains_41 : decode cX7_rains 41 = .ok (.iload 6, 2) := by decide +kernel
theorem dX7_rains_43 : decode cX7_rains 43 = .ok (.bipush 99, 2) := by decide +kernel
theorem dX7_rains_45 : decode cX7_rains 45 = .ok (.if_icmp .gt 58, 3) := by decide +kernel
theorem dX7_rains_48 : decode cX7_rains 48 = .ok (.aload_n 0, 1) := by decide +kernel
theorem dX7_rains_49 : decode cX7_rains 49 = .ok (.getfield 31, 3) := by decide +kernel
theorem dX7_rains_52 : decode cX7_rains 52 = .ok (.iload_n 1, 1) := by decide +kernel
theorem dX7_rains_53 : decode cX7_rains 53 = .ok (.iload 6, 2) := by decide +kernel
theorem dX7_rains_55 : decode cX7_rains 55 = .ok (.iastore, 1) := by decide +kernel
theorem dX7_rains_56 : decode cX7_rains 56 = .ok (.aload_n 0, 1) := by decide +kernel
theorem dX7_rains_57 : decode cX7_rains 57 = .ok (.invokevirtual 209, 3) := by decide +kernel
theorem dX7_rains_60 : decode cX7_rains 60 = .ok (.istore 7, 2) := by decide +kernel
theorem dX7_rains_62 : decode cX7_rains 62 = .ok (.iload 7, 2) := by decide +kernel
theorem dX7_rains_64 : decode cX7_rains 64 = .ok (.ifCond .eq 14, 3) := by decide +kernel
theorem dX7_rains_67 : decode cX7_rains 67 = .ok (.iload 4, 2) := by decide +kernel
theorem dX7_rains_69 : decode cX7_rains 69 = .ok (.iload_n 2, 1) := by decide +kernel
theorem dX7_rains_70 : decode cX7_rains 70 = .ok (.if_icmp .ne 8, 3) := by decide +kernel
theorem dX7_rains_73 : decode cX7_rains 73 = .ok (.iload 6, 2) := by decide +kernel
theorem dX7_rains_75 : decode cX7_rains 75 = .ok (.goto 5, 3) := by decide +kernel
theorem dX7_rains_78 : decode cX7_rains 78 = .ok (.iload 5, 2) := by decide +kernel
theorem dX7_rains_80 : decode cX7_rains 80 = .ok (.istore 5, 2) := by decide +kernel
theorem dX7_rains_82 : decode cX7_rains 82 = .ok (.iload 4, 2) := by decide +kernel
theorem dX7_rains_84 : decode cX7_rains 84 = .ok (.iload 7, 2) := by decide +kernel
theorem dX7_rains_86 : decode cX7_rains 86 = .ok (.ifCond .eq 7, 3) := by decide +kernel
theorem dX7_rains_89 : decode cX7_rains 89 = .ok (.iconst 1, 1) := by decide +kernel
theorem dX7_rains_90 : decode cX7_rains 90 = .ok (.goto 4, 3) := by decide +kernel
theorem dX7_rains_93 : decode cX7_rains 93 = .ok (.iconst 0, 1) := by decide +kernel
theorem dX7_rains_94 : decode cX7_rains 94 = .ok (.iadd, 1) := by decide +kernel
theorem dX7_rains_95 : decode cX7_rains 95 = .ok (.istore 4, 2) := by decide +kernel
theorem dX7_rains_97 : decode cX7_rains 97 = .ok (.iinc 6 1, 3) := by decide +kernel
theorem dX7_rains_100 : decode cX7_rains 100 = .ok (.goto (-59), 3) := by decide +kernel
theorem dX7_rains_103 : decode cX7_rains 103 = .ok (.aload_n 0, 1) := by decide +kernel
theorem dX7_rains_104 : decode cX7_rains 104 = .ok (.getfield 31, 3) := by decide +kernel
theorem dX7_rains_107 : decode cX7_rains 107 = .ok (.iload_n 1, 1) := by decide +kernel
theorem dX7_rains_108 : decode cX7_rains 108 = .ok (.iload_n 3, 1) := by decide +kernel
theorem dX7_rains_109 : decode cX7_rains 109 = .ok (.iastore, 1) := by decide +kernel
theorem dX7_rains_110 : decode cX7_rains 110 = .ok (.iload_n 2, 1) := by decide +kernel
theorem dX7_rains_111 : decode cX7_rains 111 = .ok (.iconst (-1), 1) := by decide +kernel
theorem dX7_rains_112 : decode cX7_rains 112 = .ok (.if_icmp .ne 8, 3) := by decide +kernel
theorem dX7_rains_115 : decode cX7_rains 115 = .ok (.iload 4, 2) := by decide +kernel
theorem dX7_rains_117 : decode cX7_rains 117 = .ok (.goto 5, 3) := by decide +kernel
theorem dX7_rains_120 : decode cX7_rains 120 = .ok (.iload 5, 2) := by decide +kernel
theorem dX7_rains_122 : decode cX7_rains 122 = .ok (.ireturn, 1) := by decide +kernel
theorem dX7_thief_0 : decode cX7_thief 0 = .ok (.iload_n 1, 1) := by decide +kernel
theorem dX7_thief_1 : decode cX7_thief 1 = .ok (.invokestatic 145, 3) := by decide +kernel
theorem dX7_thief_4 : decode cX7_thief 4 = .ok (.ifCond .ne 5, 3) := by decide +kernel
theorem dX7_thief_7 : decode cX7_thief 7 = .ok (.iconst (-1), 1) := by decide +kernel
theorem dX7_thief_8 : decode cX7_thief 8 = .ok (.ireturn, 1) := by decide +kernel
theorem dX7_thief_9 : decode cX7_thief 9 = .ok (.iload_n 2, 1) := by decide +kernel
theorem dX7_thief_10 : decode cX7_thief 10 = .ok (.iconst 1, 1) := by decide +kernel
theorem dX7_thief_11 : decode cX7_thief 11 = .ok (.bipush 9, 2) := by decide +kernel
theorem dX7_thief_13 : decode cX7_thief 13 = .ok (.invokestatic 74, 3) := by decide +kernel
theorem dX7_thief_16 : decode cX7_thief 16 = .ok (.ifCond .ne 6, 3) := by decide +kernel
theorem dX7_thief_19 : decode cX7_thief 19 = .ok (.bipush (-2), 2) := by decide +kernel
theorem dX7_thief_21 : decode cX7_thief 21 = .ok (.ireturn, 1) := by decide +kernel
theorem dX7_thief_22 : decode cX7_thief 22 = .ok (.aload_n 0, 1) := by decide +kernel
theorem dX7_thief_23 : decode cX7_thief 23 = .ok (.getfield 78, 3) := by decide +kernel
theorem dX7_thief_26 : decode cX7_thief 26 = .ok (.ifCond .ne 6, 3) := by decide +kernel
theorem dX7_thief_29 : decode cX7_thief 29 = .ok (.bipush (-3), 2) := by decide +kernel
theorem dX7_thief_31 : decode cX7_thief 31 = .ok (.ireturn, 1) := by decide +kernel
theorem dX7_thief_32 : decode cX7_thief 32 = .ok (.iconst 0, 1) := by decide +kernel
theorem dX7_thief_33 : decode cX7_thief 33 = .ok (.istore_n 3, 1) := by decide +kernel
theorem dX7_thief_34 : decode cX7_thief 34 = .ok (.aload_n 0, 1) := by decide +kernel
theorem dX7_thief_35 : decode cX7_thief 35 = .ok (.iload_n 1, 1) := by decide +kernel
theorem dX7_thief_36 : decode cX7_thief 36 = .ok (.putfield 56, 3) := by decide +kernel
theorem dX7_thief_39 : decode cX7_thief 39 = .ok (.aload_n 0, 1) := by decide +kernel
theorem dX7_thief_40 : decode cX7_thief 40 = .ok (.iload_n 2, 1) := by decide +kernel
theorem dX7_thief_41 : decode cX7_thief 41 = .ok (.putfield 179, 3) := by decide +kernel
theorem dX7_thief_44 : decode cX7_thief 44 = .ok (.aload_n 0, 1) := by decide +kernel
theorem dX7_thief_45 : decode cX7_thief 45 = .ok (.iconst 0, 1) := by decide +kernel
theorem dX7_thief_46 : decode cX7_thief 46 = .ok (.putfield 176, 3) := by decide +kernel
theorem dX7_thief_49 : decode cX7_thief 49 = .ok (.aload_n 0, 1) := by decide +kernel
theorem dX7_thief_50 : decode cX7_thief 50 = .ok (.getfield 176, 3) := by decide +kernel
theorem dX7_thief_53 : decode cX7_thief 53 = .ok (.aload_n 0, 1) := by decide +kernel
theorem dX7_thief_54 : decode cX7_thief 54 = .ok (.getfield 78, 3) := by decide +kernel
theorem dX7_thief_57 : decode cX7_thief 57 = .ok (.if_icmp .ge 47, 3) := by decide +kernel
theorem dX7_thief_60 : decode cX7_thief 60 = .ok (.aload_n 0, 1) := by decide +kernel
theorem dX7_thief_61 : decode cX7_thief 61 = .ok (.invokevirtual 209, 3) := by decide +kernel
theorem dX7_thief_64 : decode cX7_thief 64 = .ok (.istore 4, 2) := by decide +kernel
theorem dX7_thief_66 : decode cX7_thief 66 = .ok (.iload_n 3, 1) := by decide +kernel
theorem dX7_thief_67 : decode cX7_thief 67 = .ok (.iload 4, 2) := by decide +kernel
theorem dX7_thief_69 : decode cX7_thief 69 = .ok (.ifCond .eq 19, 3) := by decide +kernel
theorem dX7_thief_72 : decode cX7_thief 72 = .ok (.aload_n 0, 1) := by decide +kernel
theorem dX7_thief_73 : decode cX7_thief 73 = .ok (.getfield 182, 3) := by decide +kernel
theorem dX7_thief_76 : decode cX7_thief 76 = .ok (.ifCond .eq 12, 3) := by decide +kernel
theorem dX7_thief_79 : decode cX7_thief 79 = .ok (.iconst 1, 1) := by decide +kernel
theorem dX7_thief_80 : decode cX7_thief 80 = .ok (.aload_n 0, 1) := by decide +kernel
theorem dX7_thief_81 : decode cX7_thief 81 = .ok (.getfield 176, 3) := by decide +kernel
theorem dX7_thief_84 : decode cX7_thief 84 = .ok (.ishl, 1) := by decide +kernel
theorem dX7_thief_85 : decode cX7_thief 85 = .ok (.goto 4, 3) := by decide +kernel
theorem dX7_thief_88 : decode cX7_thief 88 = .ok (.iconst 0, 1) := by decide +kernel
theorem dX7_thief_89 : decode cX7_thief 89 = .ok (.ior, 1) := by decide +kernel
theorem dX7_thief_90 : decode cX7_thief 90 = .ok (.istore_n 3, 1) := by decide +kernel
theorem dX7_thief_91 : decode cX7_thief 91 = .ok (.aload_n 0, 1) := by decide +kernel
theorem dX7_thief_92 : decode cX7_thief 92 = .ok (.dup, 1) := by decide +kernel
theorem dX7_thief_93 : decode cX7_thief 93 = .ok (.getfield 176, 3) := by decide +kernel
theorem dX7_thief_96 : decode cX7_thief 96 = .ok (.iconst 1, 1) := by decide +kernel
theorem dX7_thief_97 : decode cX7_thief 97 = .ok (.iadd, 1) := by decide +kernel
theorem dX7_thief_98 : decode cX7_thief 98 = .ok (.putfield 176, 3) := by decide +kernel
theorem dX7_thief_101 : decode cX7_thief 101 = .ok (.goto (-52), 3) := by decide +kernel
theorem dX7_thief_104 : decode cX7_thief 104 = .ok (.aload_n 0, 1) := by decide +kernel
theorem dX7_thief_105 : decode cX7_thief 105 = .ok (.bipush (-9), 2) := by decide +kernel
theorem dX7_thief_107 : decode cX7_thief 107 = .ok (.putfield 56, 3) := by decide +kernel
theorem dX7_thief_110 : decode cX7_thief 110 = .ok (.iload_n 3, 1) := by decide +kernel
theorem dX7_thief_111 : decode cX7_thief 111 = .ok (.ireturn, 1) := by decide +kernel
theorem dX7_sheet_0 : decode cX7_sheet 0 = .ok (.aload_n 0, 1) := by decide +kernel
theorem dX7_sheet_1 : decode cX7_sheet 1 = .ok (.iconst 0, 1) := by decide +kernel
theorem dX7_sheet_2 : decode cX7_sheet 2 = .ok (.putfield 69, 3) := by decide +kernel
theorem dX7_sheet_5 : decode cX7_sheet 5 = .ok (.iload_n 1, 1) := by decide +kernel
theorem dX7_sheet_6 : decode cX7_sheet 6 = .ok (.invokestatic 81, 3) := by decide +kernel
theorem dX7_sheet_9 : decode cX7_sheet 9 = .ok (.ifCond .ne 5, 3) := by decide +kernel
theorem dX7_sheet_12 : decode cX7_sheet 12 = .ok (.iconst (-1), 1) := by decide +kernel
theorem dX7_sheet_13 : decode cX7_sheet 13 = .ok (.ireturn, 1) := by decide +kernel
theorem dX7_sheet_14 : decode cX7_sheet 14 = .ok (.iload_n 2, 1) := by decide +kernel
theorem dX7_sheet_15 : decode cX7_sheet 15 = .ok (.invokestatic 85, 3) := by decide +kernel
theorem dX7_sheet_18 : decode cX7_sheet 18 = .ok (.ifCond .eq 9, 3) := by decide +kernel
theorem dX7_sheet_21 : decode cX7_sheet 21 = .ok (.iload_n 3, 1) := by decide +kernel
theorem dX7_sheet_22 : decode cX7_sheet 22 = .ok (.bipush 60, 2) := by decide +kernel
theorem dX7_sheet_24 : decode cX7_sheet 24 = .ok (.if_icmp .le 6, 3) := by decide +kernel
theorem dX7_sheet_27 : decode cX7_sheet 27 = .ok (.bipush (-2), 2) := by decide +kernel
theorem dX7_sheet_29 : decode cX7_sheet 29 = .ok (.ireturn, 1) := by decide +kernel
theorem dX7_sheet_30 : decode cX7_sheet 30 = .ok (.iload_n 3, 1) := by decide +kernel
theorem dX7_sheet_31 : decode cX7_sheet 31 = .ok (.ifCond .ge 9, 3) := by decide +kernel
theorem dX7_sheet_34 : decode cX7_sheet 34 = .ok (.aload_n 0, 1) := by decide +kernel
theorem dX7_sheet_35 : decode cX7_sheet 35 = .ok (.iconst 4, 1) := by decide +kernel
theorem dX7_sheet_36 : decode cX7_sheet 36 = .ok (.invokevirtual 92, 3) := by decide +kernel
theorem dX7_sheet_39 : decode cX7_sheet 39 = .ok (.ireturn, 1) := by decide +kernel
theorem dX7_sheet_40 : decode cX7_sheet 40 = .ok (.aload_n 0, 1) := by decide +kernel
theorem dX7_sheet_41 : decode cX7_sheet 41 = .ok (.getfield 9, 3) := by decide +kernel
theorem dX7_sheet_44 : decode cX7_sheet 44 = .ok (.iload_n 1, 1) := by decide +kernel
theorem dX7_sheet_45 : decode cX7_sheet 45 = .ok (.iload_n 2, 1) := by decide +kernel
theorem dX7_sheet_46 : decode cX7_sheet 46 = .ok (.iastore, 1) := by decide +kernel
theorem dX7_sheet_47 : decode cX7_sheet 47 = .ok (.aload_n 0, 1) := by decide +kernel
theorem dX7_sheet_48 : decode cX7_sheet 48 = .ok (.getfield 13, 3) := by decide +kernel
theorem dX7_sheet_51 : decode cX7_sheet 51 = .ok (.iload_n 1, 1) := by decide +kernel
theorem dX7_sheet_52 : decode cX7_sheet 52 = .ok (.iload_n 3, 1) := by decide +kernel
theorem dX7_sheet_53 : decode cX7_sheet 53 = .ok (.iastore, 1) := by decide +kernel
theorem dX7_sheet_54 : decode cX7_sheet 54 = .ok (.iconst 0, 1) := by decide +kernel
theorem dX7_sheet_55 : decode cX7_sheet 55 = .ok (.istore 4, 2) := by decide +kernel
theorem dX7_sheet_57 : decode cX7_sheet 57 = .ok (.iload 4, 2) := by decide +kernel
theorem dX7_sheet_59 : decode cX7_sheet 59 = .ok (.bipush 60, 2) := by decide +kernel
theorem dX7_sheet_61 : decode cX7_sheet 61 = .ok (.if_icmp .ge 22, 3) := by decide +kernel
theorem dX7_sheet_64 : decode cX7_sheet 64 = .ok (.aload_n 0, 1) := by decide +kernel
theorem dX7_sheet_65 : decode cX7_sheet 65 = .ok (.getfield 16, 3) := by decide +kernel
theorem dX7_sheet_68 : decode cX7_sheet 68 = .ok (.bipush 60, 2) := by decide +kernel
theorem dX7_sheet_70 : decode cX7_sheet 70 = .ok (.iload_n 1, 1) := by decide +kernel
theorem dX7_sheet_71 : decode cX7_sheet 71 = .ok (.imul, 1) := by decide +kernel
theorem dX7_sheet_72 : decode cX7_sheet 72 = .ok (.iload 4, 2) := by decide +kernel
theorem dX7_sheet_74 : decode cX7_sheet 74 = .ok (.iadd, 1) := by decide +kernel
theorem dX7_sheet_75 : decode cX7_sheet 75 = .ok (.iconst 0, 1) := by decide +kernel
theorem dX7_sheet_76 : decode cX7_sheet 76 = .ok (.iastore, 1) := by decide +kernel
theorem dX7_sheet_77 : decode cX7_sheet 77 = .ok (.iinc 4 1, 3) := by decide +kernel
theorem dX7_sheet_80 : decode cX7_sheet 80 = .ok (.goto (-23), 3) := by decide +kernel
theorem dX7_sheet_83 : decode cX7_sheet 83 = .ok (.iconst 1, 1) := by decide +kernel
theorem dX7_sheet_84 : decode cX7_sheet 84 = .ok (.ireturn, 1) := by decide +kernel
theorem dX7_lose_0 : decode cX7_lose 0 = .ok (.iload_n 1, 1) := by decide +kernel
theorem dX7_lose_1 : decode cX7_lose 1 = .ok (.invokestatic 81, 3) := by decide +kernel
theorem dX7_lose_4 : decode cX7_lose 4 = .ok (.ifCond .ne 5, 3) := by decide +kernel
theorem dX7_lose_7 : decode cX7_lose 7 = .ok (.iconst (-1), 1) := by decide +kernel
theorem dX7_lose_8 : decode cX7_lose 8 = .ok (.ireturn, 1) := by decide +kernel
theorem dX7_lose_9 : decode cX7_lose 9 = .ok (.aload_n 0, 1) := by decide +kernel
theorem dX7_lose_10 : decode cX7_lose 10 = .ok (.getfield 9, 3) := by decide +kernel
theorem dX7_lose_13 : decode cX7_lose 13 = .ok (.iload_n 1, 1) := by decide +kernel
theorem dX7_lose_14 : decode cX7_lose 14 = .ok (.iaload, 1) := by decide +kernel
theorem dX7_lose_15 : decode cX7_lose 15 = .ok (.bipush (-9), 2) := by decide +kernel
theorem dX7_lose_17 : decode cX7_lose 17 = .ok (.if_icmp .ne 7, 3) := by decide +kernel
theorem dX7_lose_20 : decode cX7_lose 20 = .ok (.iconst 0, 1) := by decide +kernel
theorem dX7_lose_21 : decode cX7_lose 21 = .ok (.goto 4, 3) := by decide +kernel
theorem dX7_lose_24 : decode cX7_lose 24 = .ok (.iconst 1, 1) := by decide +kernel
theorem dX7_lose_25 : decode cX7_lose 25 = .ok (.istore_n 2, 1) := by decide +kernel
theorem dX7_lose_26 : decode cX7_lose 26 = .ok (.aload_n 0, 1) := by decide +kernel
theorem dX7_lose_27 : decode cX7_lose 27 = .ok (.getfield 9, 3) := by decide +kernel
theorem dX7_lose_30 : decode cX7_lose 30 = .ok (.iload_n 1, 1) := by decide +kernel
theorem dX7_lose_31 : decode cX7_lose 31 = .ok (.bipush (-9), 2) := by decide +kernel
theorem dX7_lose_33 : decode cX7_lose 33 = .ok (.iastore, 1) := by decide +kernel
theorem dX7_lose_34 : decode cX7_lose 34 = .ok (.iload_n 2, 1) := by decide +kernel
theorem dX7_lose_35 : decode cX7_lose 35 = .ok (.ireturn, 1) := by decide +kernel
theorem dX7_put_0 : decode cX7_put 0 = .ok (.aload_n 0, 1) := by decide +kernel
theorem dX7_put_1 : decode cX7_put 1 = .ok (.iconst 0, 1) := by decide +kernel
theorem dX7_put_2 : decode cX7_put 2 = .ok (.putfield 69, 3) := by decide +kernel
theorem dX7_put_5 : decode cX7_put 5 = .ok (.iload_n 1, 1) := by decide +kernel
theorem dX7_put_6 : decode cX7_put 6 = .ok (.invokestatic 81, 3) := by decide +kernel
theorem dX7_put_9 : decode cX7_put 9 = .ok (.ifCond .ne 5, 3) := by decide +kernel
theorem dX7_put_12 : decode cX7_put 12 = .ok (.iconst (-1), 1) := by decide +kernel
theorem dX7_put_13 : decode cX7_put 13 = .ok (.ireturn, 1) := by decide +kernel
theorem dX7_put_14 : decode cX7_put 14 = .ok (.aload_n 0, 1) := by decide +kernel
theorem dX7_put_15 : decode cX7_put 15 = .ok (.getfield 9, 3) := by decide +kernel
theorem dX7_put_18 : decode cX7_put 18 = .ok (.iload_n 1, 1) := by decide +kernel
theorem dX7_put_19 : decode cX7_put 19 = .ok (.iaload, 1) := by decide +kernel
theorem dX7_put_20 : decode cX7_put 20 = .ok (.bipush (-9), 2) := by decide +kernel
theorem dX7_put_22 : decode cX7_put 22 = .ok (.if_icmp .ne 9, 3) := by decide +kernel
theorem dX7_put_25 : decode cX7_put 25 = .ok (.aload_n 0, 1) := by decide +kernel
theorem dX7_put_26 : decode cX7_put 26 = .ok (.iconst 1, 1) := by decide +kernel
theorem dX7_put_27 : decode cX7_put 27 = .ok (.invokevirtual 92, 3) := by decide +kernel
theorem dX7_put_30 : decode cX7_put 30 = .ok (.ireturn, 1) := by decide +kernel
theorem dX7_put_31 : decode cX7_put 31 = .ok (.iload_n 2, 1) := by decide +kernel
theorem dX7_put_32 : decode cX7_put 32 = .ok (.iconst 0, 1) := by decide +kernel
theorem dX7_put_33 : decode cX7_put 33 = .ok (.aload_n 0, 1) := by decide +kernel
theorem dX7_put_34 : decode cX7_put 34 = .ok (.getfield 13, 3) := by decide +kernel
theorem dX7_put_37 : decode cX7_put 37 = .ok (.iload_n 1, 1) := by decide +kernel
theorem dX7_put_38 : decode cX7_put 38 = .ok (.iaload, 1) := by decide +kernel
theorem dX7_put_39 : decode cX7_put 39 = .ok (.iconst 1, 1) := by decide +kernel
theorem dX7_put_40 : decode cX7_put 40 = .ok (.isub, 1) := by decide +kernel
theorem dX7_put_41 : decode cX7_put 41 = .ok (.invokestatic 74, 3) := by decide +kernel
theorem dX7_put_44 : decode cX7_put 44 = .ok (.ifCond .ne 9, 3) := by decide +kernel
theorem dX7_put_47 : decode cX7_put 47 = .ok (.aload_n 0, 1) := by decide +kernel
theorem dX7_put_48 : decode cX7_put 48 = .ok (.iconst 3, 1) := by decide +kernel
theorem dX7_put_49 : decode cX7_put 49 = .ok (.invokevirtual 92, 3) := by decide +kernel
theorem dX7_put_52 : decode cX7_put 52 = .ok (.ireturn, 1) := by decide +kernel
theorem dX7_put_53 : decode cX7_put 53 = .ok (.aload_n 0, 1) := by decide +kernel
theorem dX7_put_54 : decode cX7_put 54 = .ok (.getfield 16, 3) := by decide +kernel
theorem dX7_put_57 : decode cX7_put 57 = .ok (.bipush 60, 2) := by decide +kernel
theorem dX7_put_59 : decode cX7_put 59 = .ok (.iload_n 1, 1) := by decide +kernel
theorem dX7_put_60 : decode cX7_put 60 = .ok (.imul, 1) := by decide +kernel
theorem dX7_put_61 : decode cX7_put 61 = .ok (.iload_n 2, 1) := by decide +kernel
theorem dX7_put_62 : decode cX7_put 62 = .ok (.iadd, 1) := by decide +kernel
theorem dX7_put_63 : decode cX7_put 63 = .ok (.aload_n 0, 1) := by decide +kernel
theorem dX7_put_64 : decode cX7_put 64 = .ok (.getfield 9, 3) := by decide +kernel
theorem dX7_put_67 : decode cX7_put 67 = .ok (.iload_n 1, 1) := by decide +kernel
theorem dX7_put_68 : decode cX7_put 68 = .ok (.iaload, 1) := by decide +kernel
theorem dX7_put_69 : decode cX7_put 69 = .ok (.ifCond .ne 8, 3) := by decide +kernel
theorem dX7_put_72 : decode cX7_put 72 = .ok (.iload_n 3, 1) := by decide +kernel
theorem dX7_put_73 : decode cX7_put 73 = .ok (.i2b, 1) := by decide +kernel
theorem dX7_put_74 : decode cX7_put 74 = .ok (.goto 19, 3) := by decide +kernel
theorem dX7_put_77 : decode cX7_put 77 = .ok (.aload_n 0, 1) := by decide +kernel
theorem dX7_put_78 : decode cX7_put 78 = .ok (.getfield 9, 3) := by decide +kernel
theorem dX7_put_81 : decode cX7_put 81 = .ok (.iload_n 1, 1) := by decide +kernel
theorem dX7_put_82 : decode cX7_put 82 = .ok (.iaload, 1) := by decide +kernel
theorem dX7_put_83 : decode cX7_put 83 = .ok (.iconst 1, 1) := by decide +kernel
theorem dX7_put_84 : decode cX7_put 84 = .ok (.if_icmp .ne 8, 3) := by decide +kernel
theorem dX7_put_87 : decode cX7_put 87 = .ok (.iload_n 3, 1) := by decide +kernel
theorem dX7_put_88 : decode cX7_put 88 = .ok (.i2s, 1) := by decide +kernel
theorem dX7_put_89 : decode cX7_put 89 = .ok (.goto 4, 3) := by decide +kernel
theorem dX7_put_92 : decode cX7_put 92 = .ok (.iload_n 3, 1) := by decide +kernel
theorem dX7_put_93 : decode cX7_put 93 = .ok (.iastore, 1) := by decide +kernel
theorem dX7_put_94 : decode cX7_put 94 = .ok (.iconst 1, 1) := by decide +kernel
theorem dX7_put_95 : decode cX7_put 95 = .ok (.ireturn, 1) := by decide +kernel
theorem dX7_cell_0 : decode cX7_cell 0 = .ok (.aload_n 0, 1) := by decide +kernel
theorem dX7_cell_1 : decode cX7_cell 1 = .ok (.iconst 0, 1) := by decide +kernel
theorem dX7_cell_2 : decode cX7_cell 2 = .ok (.putfield 69, 3) := by decide +kernel
theorem dX7_cell_5 : decode cX7_cell 5 = .ok (.iload_n 1, 1) := by decide +kernel
theorem dX7_cell_6 : decode cX7_cell 6 = .ok (.invokestatic 81, 3) := by decide +kernel
theorem dX7_cell_9 : decode cX7_cell 9 = .ok (.ifCond .eq 10, 3) := by decide +kernel
theorem dX7_cell_12 : decode cX7_cell 12 = .ok (.iload_n 3, 1) := by decide +kernel
theorem dX7_cell_13 : decode cX7_cell 13 = .ok (.invokestatic 85, 3) := by decide +kernel
theorem dX7_cell_16 : decode cX7_cell 16 = .ok (.ifCond .ne 7, 3) := by decide +kernel
theorem dX7_cell_19 : decode cX7_cell 19 = .ok (.ldc2_w 72, 3) := by decide +kernel
theorem dX7_cell_22 : decode cX7_cell 22 = .ok (.lreturn, 1) := by decide +kernel
theorem dX7_cell_23 : decode cX7_cell 23 = .ok (.aload_n 0, 1) := by decide +kernel
theorem dX7_cell_24 : decode cX7_cell 24 = .ok (.getfield 9, 3) := by decide +kernel
theorem dX7_cell_27 : decode cX7_cell 27 = .ok (.iload_n 1, 1) := by decide +kernel
theorem dX7_cell_28 : decode cX7_cell 28 = .ok (.iaload, 1) := by decide +kernel
theorem dX7_cell_29 : decode cX7_cell 29 = .ok (.bipush (-9), 2) := by decide +kernel
theorem dX7_cell_31 : decode cX7_cell 31 = .ok (.if_icmp .eq 19, 3) := by decide +kernel
theorem dX7_cell_34 : decode cX7_cell 34 = .ok (.aload_n 0, 1) := by decide +kernel
theorem dX7_cell_35 : decode cX7_cell 35 = .ok (.getfield 9, 3) := by decide +kernel
theorem dX7_cell_38 : decode cX7_cell 38 = .ok (.iload_n 1, 1) := by decide +kernel
theorem dX7_cell_39 : decode cX7_cell 39 = .ok (.iaload, 1) := by decide +kernel
theorem dX7_cell_40 : decode cX7_cell 40 = .ok (.iload_n 3, 1) := by decide +kernel
theorem dX7_cell_41 : decode cX7_cell 41 = .ok (.if_icmp .eq 9, 3) := by decide +kernel
theorem dX7_cell_44 : decode cX7_cell 44 = .ok (.aload_n 0, 1) := by decide +kernel
theorem dX7_cell_45 : decode cX7_cell 45 = .ok (.iconst 2, 1) := by decide +kernel
theorem dX7_cell_46 : decode cX7_cell 46 = .ok (.invokevirtual 213, 3) := by decide +kernel
theorem dX7_cell_49 : decode cX7_cell 49 = .ok (.lreturn, 1) := by decide +kernel
theorem dX7_cell_50 : decode cX7_cell 50 = .ok (.aload_n 0, 1) := by decide +kernel
theorem dX7_cell_51 : decode cX7_cell 51 = .ok (.getfield 9, 3) := by decide +kernel
theorem dX7_cell_54 : decode cX7_cell 54 = .ok (.iload_n 1, 1) := by decide +kernel
theorem dX7_cell_55 : decode cX7_cell 55 = .ok (.iaload, 1) := by decide +kernel
theorem dX7_cell_56 : decode cX7_cell 56 = .ok (.bipush (-9), 2) := by decide +kernel
theorem dX7_cell_58 : decode cX7_cell 58 = .ok (.if_icmp .ne 9, 3) := by decide +kernel
theorem dX7_cell_61 : decode cX7_cell 61 = .ok (.aload_n 0, 1) := by decide +kernel
theorem dX7_cell_62 : decode cX7_cell 62 = .ok (.iconst 1, 1) := by decide +kernel
theorem dX7_cell_63 : decode cX7_cell 63 = .ok (.invokevirtual 213, 3) := by decide +kernel
theorem dX7_cell_66 : decode cX7_cell 66 = .ok (.lreturn, 1) := by decide +kernel
theorem dX7_cell_67 : decode cX7_cell 67 = .ok (.iload_n 2, 1) := by decide +kernel
theorem dX7_cell_68 : decode cX7_cell 68 = .ok (.iconst 0, 1) := by decide +kernel
theorem dX7_cell_69 : decode cX7_cell 69 = .ok (.aload_n 0, 1) := by decide +kernel
theorem dX7_cell_70 : decode cX7_cell 70 = .ok (.getfield 13, 3) := by decide +kernel
theorem dX7_cell_73 : decode cX7_cell 73 = .ok (.iload_n 1, 1) := by decide +kernel
theorem dX7_cell_74 : decode cX7_cell 74 = .ok (.iaload, 1) := by decide +kernel
theorem dX7_cell_75 : decode cX7_cell 75 = .ok (.iconst 1, 1) := by decide +kernel
theorem dX7_cell_76 : decode cX7_cell 76 = .ok (.isub, 1) := by decide +kernel
theorem dX7_cell_77 : decode cX7_cell 77 = .ok (.invokestatic 74, 3) := by decide +kernel
theorem dX7_cell_80 : decode cX7_cell 80 = .ok (.ifCond .ne 9, 3) := by decide +kernel
theorem dX7_cell_83 : decode cX7_cell 83 = .ok (.aload_n 0, 1) := by decide +kernel
theorem dX7_cell_84 : decode cX7_cell 84 = .ok (.iconst 3, 1) := by decide +kernel
theorem dX7_cell_85 : decode cX7_cell 85 = .ok (.invokevirtual 213, 3) := by decide +kernel
theorem dX7_cell_88 : decode cX7_cell 88 = .ok (.lreturn, 1) := by decide +kernel
theorem dX7_cell_89 : decode cX7_cell 89 = .ok (.aload_n 0, 1) := by decide +kernel
theorem dX7_cell_90 : decode cX7_cell 90 = .ok (.getfield 16, 3) := by decide +kernel
theorem dX7_cell_93 : decode cX7_cell 93 = .ok (.bipush 60, 2) := by decide +kernel
theorem dX7_cell_95 : decode cX7_cell 95 = .ok (.iload_n 1, 1) := by decide +kernel
theorem dX7_cell_96 : decode cX7_cell 96 = .ok (.imul, 1) := by decide +kernel
theorem dX7_cell_97 : decode cX7_cell 97 = .ok (.iload_n 2, 1) := by decide +kernel
theorem dX7_cell_98 : decode cX7_cell 98 = .ok (.iadd, 1) := by decide +kernel
theorem dX7_cell_99 : decode cX7_cell 99 = .ok (.iaload, 1) := by decide +kernel
theorem dX7_cell_100 : decode cX7_cell 100 = .ok (.i2l, 1) := by decide +kernel
theorem dX7_cell_101 : decode cX7_cell 101 = .ok (.lreturn, 1) := by decide +kernel
theorem dX7_copy_0 : decode cX7_copy 0 = .ok (.aload_n 0, 1) := by decide +kernel
theorem dX7_copy_1 : decode cX7_copy 1 = .ok (.iconst 0, 1) := by decide +kernel
theorem dX7_copy_2 : decode cX7_copy 2 = .ok (.putfield 69, 3) := by decide +kernel
theorem dX7_copy_5 : decode cX7_copy 5 = .ok (.iload_n 1, 1) := by decide +kernel
theorem dX7_copy_6 : decode cX7_copy 6 = .ok (.invokestatic 81, 3) := by decide +kernel
theorem dX7_copy_9 : decode cX7_copy 9 = .ok (.ifCond .eq 10, 3) := by decide +kernel
theorem dX7_copy_12 : decode cX7_copy 12 = .ok (.iload_n 3, 1) := by decide +kernel
theorem dX7_copy_13 : decode cX7_copy 13 = .ok (.invokestatic 81, 3) := by decide +kernel
theorem dX7_copy_16 : decode cX7_copy 16 = .ok (.ifCond .ne 5, 3) := by decide +kernel
theorem dX7_copy_19 : decode cX7_copy 19 = .ok (.iconst (-1), 1) := by decide +kernel
theorem dX7_copy_20 : decode cX7_copy 20 = .ok (.ireturn, 1) := by decide +kernel
theorem dX7_copy_21 : decode cX7_copy 21 = .ok (.aload_n 0, 1) := by decide +kernel
theorem dX7_copy_22 : decode cX7_copy 22 = .ok (.getfield 9, 3) := by decide +kernel
theorem dX7_copy_25 : decode cX7_copy 25 = .ok (.iload_n 1, 1) := by decide +kernel
theorem dX7_copy_26 : decode cX7_copy 26 = .ok (.iaload, 1) := by decide +kernel
theorem dX7_copy_27 : decode cX7_copy 27 = .ok (.bipush (-9), 2) := by decide +kernel
theorem dX7_copy_29 : decode cX7_copy 29 = .ok (.if_icmp .eq 14, 3) := by decide +kernel
theorem dX7_copy_32 : decode cX7_copy 32 = .ok (.aload_n 0, 1) := by decide +kernel
theorem dX7_copy_33 : decode cX7_copy 33 = .ok (.getfield 9, 3) := by decide +kernel
theorem dX7_copy_36 : decode cX7_copy 36 = .ok (.iload_n 3, 1) := by decide +kernel
theorem dX7_copy_37 : decode cX7_copy 37 = .ok (.iaload, 1) := by decide +kernel
theorem dX7_copy_38 : decode cX7_copy 38 = .ok (.bipush (-9), 2) := by decide +kernel
theorem dX7_copy_40 : decode cX7_copy 40 = .ok (.if_icmp .ne 9, 3) := by decide +kernel
theorem dX7_copy_43 : decode cX7_copy 43 = .ok (.aload_n 0, 1) := by decide +kernel
theorem dX7_copy_44 : decode cX7_copy 44 = .ok (.iconst 1, 1) := by decide +kernel
theorem dX7_copy_45 : decode cX7_copy 45 = .ok (.invokevirtual 92, 3) := by decide +kernel
theorem dX7_copy_48 : decode cX7_copy 48 = .ok (.ireturn, 1) := by decide +kernel
theorem dX7_copy_49 : decode cX7_copy 49 = .ok (.aload_n 0, 1) := by decide +kernel
theorem dX7_copy_50 : decode cX7_copy 50 = .ok (.getfield 9, 3) := by decide +kernel
theorem dX7_copy_53 : decode cX7_copy 53 = .ok (.iload_n 1, 1) := by decide +kernel
theorem dX7_copy_54 : decode cX7_copy 54 = .ok (.iaload, 1) := by decide +kernel
theorem dX7_copy_55 : decode cX7_copy 55 = .ok (.aload_n 0, 1) := by decide +kernel
theorem dX7_copy_56 : decode cX7_copy 56 = .ok (.getfield 9, 3) := by decide +kernel
theorem dX7_copy_59 : decode cX7_copy 59 = .ok (.iload_n 3, 1) := by decide +kernel
theorem dX7_copy_60 : decode cX7_copy 60 = .ok (.iaload, 1) := by decide +kernel
theorem dX7_copy_61 : decode cX7_copy 61 = .ok (.if_icmp .eq 9, 3) := by decide +kernel
theorem dX7_copy_64 : decode cX7_copy 64 = .ok (.aload_n 0, 1) := by decide +kernel
theorem dX7_copy_65 : decode cX7_copy 65 = .ok (.iconst 2, 1) := by decide +kernel
theorem dX7_copy_66 : decode cX7_copy 66 = .ok (.invokevirtual 92, 3) := by decide +kernel
theorem dX7_copy_69 : decode cX7_copy 69 = .ok (.ireturn, 1) := by decide +kernel
theorem dX7_copy_70 : decode cX7_copy 70 = .ok (.iload_n 2, 1) := by decide +kernel
theorem dX7_copy_71 : decode cX7_copy 71 = .ok (.ifCond .lt 38, 3) := by decide +kernel
theorem dX7_copy_74 : decode cX7_copy 74 = .ok (.iload 4, 2) := by decide +kernel
theorem dX7_copy_76 : decode cX7_copy 76 = .ok (.ifCond .lt 33, 3) := by decide +kernel
theorem dX7_copy_79 : decode cX7_copy 79 = .ok (.iload 5, 2) := by decide +kernel
theorem dX7_copy_81 : decode cX7_copy 81 = .ok (.ifCond .lt 28, 3) := by decide +kernel
theorem dX7_copy_84 : decode cX7_copy 84 = .ok (.iload_n 2, 1) := by decide +kernel
theorem dX7_copy_85 : decode cX7_copy 85 = .ok (.aload_n 0, 1) := by decide +kernel
theorem dX7_copy_86 : decode cX7_copy 86 = .ok (.getfield 13, 3) := by decide +kernel
theorem dX7_copy_89 : decode cX7_copy 89 = .ok (.iload_n 1, 1) := by decide +kernel
theorem dX7_copy_90 : decode cX7_copy 90 = .ok (.iaload, 1) := by decide +kernel
theorem dX7_copy_91 : decode cX7_copy 91 = .ok (.if_icmp .gt 18, 3) := by decide +kernel
theorem dX7_copy_94 : decode cX7_copy 94 = .ok (.iload 4, 2) := by decide +kernel
theorem dX7_copy_96 : decode cX7_copy 96 = .ok (.aload_n 0, 1) := by decide +kernel
theorem dX7_copy_97 : decode cX7_copy 97 = .ok (.getfield 13, 3) := by decide +kernel
theorem dX7_copy_100 : decode cX7_copy 100 = .ok (.iload_n 3, 1) := by decide +kernel
theorem dX7_copy_101 : decode cX7_copy 101 = .ok (.iaload, 1) := by decide +kernel
theorem dX7_copy_102 : decode cX7_copy 102 = .ok (.if_icmp .gt 7, 3) := by decide +kernel
theorem dX7_copy_105 : decode cX7_copy 105 = .ok (.iconst 1, 1) := by decide +kernel
theorem dX7_copy_106 : decode cX7_copy 106 = .ok (.goto 4, 3) := by decide +kernel
theorem dX7_copy_109 : decode cX7_copy 109 = .ok (.iconst 0, 1) := by decide +kernel
theorem dX7_copy_110 : decode cX7_copy 110 = .ok (.istore 6, 2) := by decide +kernel
theorem dX7_copy_112 : decode cX7_copy 112 = .ok (.iload 6, 2) := by decide +kernel
theorem dX7_copy_114 : decode cX7_copy 114 = .ok (.ifCond .eq 30, 3) := by decide +kernel
theorem dX7_copy_117 : decode cX7_copy 117 = .ok (.iload 5, 2) := by decide +kernel
theorem dX7_copy_119 : decode cX7_copy 119 = .ok (.aload_n 0, 1) := by decide +kernel
theorem dX7_copy_120 : decode cX7_copy 120 = .ok (.getfield 13, 3) := by decide +kernel
theorem dX7_copy_123 : decode cX7_copy 123 = .ok (.iload_n 1, 1) := by decide +kernel
theorem dX7_copy_124 : decode cX7_copy 124 = .ok (.iaload, 1) := by decide +kernel
theorem dX7_copy_125 : decode cX7_copy 125 = .ok (.iload_n 2, 1) := by decide +kernel
theorem dX7_copy_126 : decode cX7_copy 126 = .ok (.isub, 1) := by decide +kernel
theorem dX7_copy_127 : decode cX7_copy 127 = .ok (.if_icmp .gt 17, 3) := by decide +kernel
theorem dX7_copy_130 : decode cX7_copy 130 = .ok (.iload 5, 2) := by decide +kernel
theorem dX7_copy_132 : decode cX7_copy 132 = .ok (.aload_n 0, 1) := by decide +kernel
theorem dX7_copy_133 : decode cX7_copy 133 = .ok (.getfield 13, 3) := by decide +kernel
theorem dX7_copy_136 : decode cX7_copy 136 = .ok (.iload_n 3, 1) := by decide +kernel
theorem dX7_copy_137 : decode cX7_copy 137 = .ok (.iaload, 1) := by decide +kernel
theorem dX7_copy_138 : decode cX7_copy 138 = .ok (.iload 4, 2) := by decide +kernel
theorem dX7_copy_140 : decode cX7_copy 140 = .ok (.isub, 1) := by decide +kernel
theorem dX7_copy_141 : decode cX7_copy 141 = .ok (.if_icmp .le 9, 3) := by decide +kernel
theorem dX7_copy_144 : decode cX7_copy 144 = .ok (.aload_n 0, 1) := by decide +kernel
theorem dX7_copy_145 : decode cX7_copy 145 = .ok (.iconst 3, 1) := by decide +kernel
theorem dX7_copy_146 : decode cX7_copy 146 = .ok (.invokevirtual 92, 3) := by decide +kernel
theorem dX7_copy_149 : decode cX7_copy 149 = .ok (.ireturn, 1) := by decide +kernel
theorem dX7_copy_150 : decode cX7_copy 150 = .ok (.iload_n 2, 1) := by decide +kernel
theorem dX7_copy_151 : decode cX7_copy 151 = .ok (.iload 4, 2) := by decide +kernel
theorem dX7_copy_153 : decode cX7_copy 153 = .ok (.if_icmp .ge 7, 3) := by decide +kernel
theorem dX7_copy_156 : decode cX7_copy 156 = .ok (.iconst 1, 1) := by decide +kernel
theorem dX7_copy_157 : decode cX7_copy 157 = .ok (.goto 4, 3) := by decide +kernel
theorem dX7_copy_160 : decode cX7_copy 160 = .ok (.iconst 0, 1) := by decide +kernel
theorem dX7_copy_161 : decode cX7_copy 161 = .ok (.istore 7, 2) := by decide +kernel
theorem dX7_copy_163 : decode cX7_copy 163 = .ok (.iconst 0, 1) := by decide +kernel
theorem dX7_copy_164 : decode cX7_copy 164 = .ok (.istore 8, 2) := by decide +kernel
theorem dX7_copy_166 : decode cX7_copy 166 = .ok (.iload 8, 2) := by decide +kernel
theorem dX7_copy_168 : decode cX7_copy 168 = .ok (.iload 5, 2) := by decide +kernel
theorem dX7_copy_170 : decode cX7_copy 170 = .ok (.if_icmp .ge 57, 3) := by decide +kernel
theorem dX7_copy_173 : decode cX7_copy 173 = .ok (.iload 7, 2) := by decide +kernel
theorem dX7_copy_175 : decode cX7_copy 175 = .ok (.ifCond .eq 13, 3) := by decide +kernel
theorem dX7_copy_178 : decode cX7_copy 178 = .ok (.iload 5, 2) := by decide +kernel
theorem dX7_copy_180 : decode cX7_copy 180 = .ok (.iconst 1, 1) := by decide +kernel
theorem dX7_copy_181 : decode cX7_copy 181 = .ok (.isub, 1) := by decide +kernel
theorem dX7_copy_182 : decode cX7_copy 182 = .ok (.iload 8, 2) := by decide +kernel
theorem dX7_copy_184 : decode cX7_copy 184 = .ok (.isub, 1) := by decide +kernel
theorem dX7_copy_185 : decode cX7_copy 185 = .ok (.goto 5, 3) := by decide +kernel
theorem dX7_copy_188 : decode cX7_copy 188 = .ok (.iload 8, 2) := by decide +kernel
theorem dX7_copy_190 : decode cX7_copy 190 = .ok (.istore 9, 2) := by decide +kernel
theorem dX7_copy_192 : decode cX7_copy 192 = .ok (.aload_n 0, 1) := by decide +kernel
theorem dX7_copy_193 : decode cX7_copy 193 = .ok (.getfield 16, 3) := by decide +kernel
theorem dX7_copy_196 : decode cX7_copy 196 = .ok (.bipush 60, 2) := by decide +kernel
theorem dX7_copy_198 : decode cX7_copy 198 = .ok (.iload_n 3, 1) := by decide +kernel
theorem dX7_copy_199 : decode cX7_copy 199 = .ok (.imul, 1) := by decide +kernel
theorem dX7_copy_200 : decode cX7_copy 200 = .ok (.iload 4, 2) := by decide +kernel
theorem dX7_copy_202 : decode cX7_copy 202 = .ok (.iadd, 1) := by decide +kernel
theorem dX7_copy_203 : decode cX7_copy 203 = .ok (.iload 9, 2) := by decide +kernel
theorem dX7_copy_205 : decode cX7_copy 205 = .ok (.iadd, 1) := by decide +kernel
theorem dX7_copy_206 : decode cX7_copy 206 = .ok (.aload_n 0, 1) := by decide +kernel
theorem dX7_copy_207 : decode cX7_copy 207 = .ok (.getfield 16, 3) := by decide +kernel
theorem dX7_copy_210 : decode cX7_copy 210 = .ok (.bipush 60, 2) := by decide +kernel
theorem dX7_copy_212 : decode cX7_copy 212 = .ok (.iload_n 1, 1) := by decide +kernel
theorem dX7_copy_213 : decode cX7_copy 213 = .ok (.imul, 1) := by decide +kernel
theorem dX7_copy_214 : decode cX7_copy 214 = .ok (.iload_n 2, 1) := by decide +kernel
theorem dX7_copy_215 : decode cX7_copy 215 = .ok (.iadd, 1) := by decide +kernel
theorem dX7_copy_216 : decode cX7_copy 216 = .ok (.iload 9, 2) := by decide +kernel
theorem dX7_copy_218 : decode cX7_copy 218 = .ok (.iadd, 1) := by decide +kernel
theorem dX7_copy_219 : decode cX7_copy 219 = .ok (.iaload, 1) := by decide +kernel
theorem dX7_copy_220 : decode cX7_copy 220 = .ok (.iastore, 1) := by decide +kernel
theorem dX7_copy_221 : decode cX7_copy 221 = .ok (.iinc 8 1, 3) := by decide +kernel
theorem dX7_copy_224 : decode cX7_copy 224 = .ok (.goto (-58), 3) := by decide +kernel
theorem dX7_copy_227 : decode cX7_copy 227 = .ok (.iload 5, 2) := by decide +kernel
theorem dX7_copy_229 : decode cX7_copy 229 = .ok (.ireturn, 1) := by decide +kernel
theorem dX7_begins_0 : decode cX7_begins 0 = .ok (.aload_n 0, 1) := by decide +kernel
theorem dX7_begins_1 : decode cX7_begins 1 = .ok (.bipush 31, 2) := by decide +kernel
theorem dX7_begins_3 : decode cX7_begins 3 = .ok (.aload_n 0, 1) := by decide +kernel
theorem dX7_begins_4 : decode cX7_begins 4 = .ok (.getfield 217, 3) := by decide +kernel
theorem dX7_begins_7 : decode cX7_begins 7 = .ok (.imul, 1) := by decide +kernel
theorem dX7_begins_8 : decode cX7_begins 8 = .ok (.iload_n 1, 1) := by decide +kernel
theorem dX7_begins_9 : decode cX7_begins 9 = .ok (.iadd, 1) := by decide +kernel
theorem dX7_begins_10 : decode cX7_begins 10 = .ok (.putfield 217, 3) := by decide +kernel
theorem dX7_begins_13 : decode cX7_begins 13 = .ok (.return_, 1) := by decide +kernel
theorem dX7_tell_0 : decode cX7_tell 0 = .ok (.aload_n 0, 1) := by decide +kernel
theorem dX7_tell_1 : decode cX7_tell 1 = .ok (.iload_n 1, 1) := by decide +kernel
theorem dX7_tell_2 : decode cX7_tell 2 = .ok (.invokevirtual 139, 3) := by decide +kernel
theorem dX7_tell_5 : decode cX7_tell 5 = .ok (.ifCond .ne 5, 3) := by decide +kernel
theorem dX7_tell_8 : decode cX7_tell 8 = .ok (.iconst (-1), 1) := by decide +kernel
theorem dX7_tell_9 : decode cX7_tell 9 = .ok (.ireturn, 1) := by decide +kernel
theorem dX7_tell_10 : decode cX7_tell 10 = .ok (.aload_n 0, 1) := by decide +kernel
theorem dX7_tell_11 : decode cX7_tell 11 = .ok (.getfield 25, 3) := by decide +kernel
theorem dX7_tell_14 : decode cX7_tell 14 = .ok (.iload_n 1, 1) := by decide +kernel
theorem dX7_tell_15 : decode cX7_tell 15 = .ok (.iaload, 1) := by decide +kernel
theorem dX7_tell_16 : decode cX7_tell 16 = .ok (.istore_n 2, 1) := by decide +kernel
theorem dX7_tell_17 : decode cX7_tell 17 = .ok (.aload_n 0, 1) := by decide +kernel
theorem dX7_tell_18 : decode cX7_tell 18 = .ok (.getfield 19, 3) := by decide +kernel
theorem dX7_tell_21 : decode cX7_tell 21 = .ok (.iload_n 1, 1) := by decide +kernel
theorem dX7_tell_22 : decode cX7_tell 22 = .ok (.iaload, 1) := by decide +kernel
theorem dX7_tell_23 : decode cX7_tell 23 = .ok (.lookupswitch 67 #[(1, 25), (2, 40)], 25) := by decide +kernel
theorem dX7_tell_48 : decode cX7_tell 48 = .ok (.aload_n 0, 1) := by decide +kernel
theorem dX7_tell_49 : decode cX7_tell 49 = .ok (.iconst 2, 1) := by decide +kernel
theorem dX7_tell_50 : decode cX7_tell 50 = .ok (.invokevirtual 220, 3) := by decide +kernel
theorem dX7_tell_53 : decode cX7_tell 53 = .ok (.aload_n 0, 1) := by decide +kernel
theorem dX7_tell_54 : decode cX7_tell 54 = .ok (.iconst 1, 1) := by decide +kernel
theorem dX7_tell_55 : decode cX7_tell 55 = .ok (.invokevirtual 220, 3) := by decide +kernel
theorem dX7_tell_58 : decode cX7_tell 58 = .ok (.iload_n 2, 1) := by decide +kernel
theorem dX7_tell_59 : decode cX7_tell 59 = .ok (.bipush 100, 2) := by decide +kernel
theorem dX7_tell_61 : decode cX7_tell 61 = .ok (.iadd, 1) := by decide +kernel
theorem dX7_tell_62 : decode cX7_tell 62 = .ok (.ireturn, 1) := by decide +kernel
theorem dX7_tell_63 : decode cX7_tell 63 = .ok (.aload_n 0, 1) := by decide +kernel
theorem dX7_tell_64 : decode cX7_tell 64 = .ok (.iconst 3, 1) := by decide +kernel
theorem dX7_tell_65 : decode cX7_tell 65 = .ok (.invokevirtual 220, 3) := by decide +kernel
theorem dX7_tell_68 : decode cX7_tell 68 = .ok (.aload_n 0, 1) := by decide +kernel
theorem dX7_tell_69 : decode cX7_tell 69 = .ok (.iconst 2, 1) := by decide +kernel
theorem dX7_tell_70 : decode cX7_tell 70 = .ok (.invokevirtual 220, 3) := by decide +kernel
theorem dX7_tell_73 : decode cX7_tell 73 = .ok (.aload_n 0, 1) := by decide +kernel
theorem dX7_tell_74 : decode cX7_tell 74 = .ok (.iconst 1, 1) := by decide +kernel
theorem dX7_tell_75 : decode cX7_tell 75 = .ok (.invokevirtual 220, 3) := by decide +kernel
theorem dX7_tell_78 : decode cX7_tell 78 = .ok (.aload_n 0, 1) := by decide +kernel
theorem dX7_tell_79 : decode cX7_tell 79 = .ok (.iconst 1, 1) := by decide +kernel
theorem dX7_tell_80 : decode cX7_tell 80 = .ok (.invokevirtual 220, 3) := by decide +kernel
theorem dX7_tell_83 : decode cX7_tell 83 = .ok (.iconst 2, 1) := by decide +kernel
theorem dX7_tell_84 : decode cX7_tell 84 = .ok (.iload_n 2, 1) := by decide +kernel
theorem dX7_tell_85 : decode cX7_tell 85 = .ok (.imul, 1) := by decide +kernel
theorem dX7_tell_86 : decode cX7_tell 86 = .ok (.bipush 100, 2) := by decide +kernel
theorem dX7_tell_88 : decode cX7_tell 88 = .ok (.iadd, 1) := by decide +kernel
theorem dX7_tell_89 : decode cX7_tell 89 = .ok (.ireturn, 1) := by decide +kernel
theorem dX7_tell_90 : decode cX7_tell 90 = .ok (.aload_n 0, 1) := by decide +kernel
theorem dX7_tell_91 : decode cX7_tell 91 = .ok (.iconst 1, 1) := by decide +kernel
theorem dX7_tell_92 : decode cX7_tell 92 = .ok (.invokevirtual 220, 3) := by decide +kernel
theorem dX7_tell_95 : decode cX7_tell 95 = .ok (.iload_n 2, 1) := by decide +kernel
theorem dX7_tell_96 : decode cX7_tell 96 = .ok (.ireturn, 1) := by decide +kernel
theorem dX7_knock_0 : decode cX7_knock 0 = .ok (.aload_n 0, 1) := by decide +kernel
theorem dX7_knock_1 : decode cX7_knock 1 = .ok (.iload_n 1, 1) := by decide +kernel
theorem dX7_knock_2 : decode cX7_knock 2 = .ok (.invokevirtual 139, 3) := by decide +kernel
theorem dX7_knock_5 : decode cX7_knock 5 = .ok (.ifCond .ne 5, 3) := by decide +kernel
theorem dX7_knock_8 : decode cX7_knock 8 = .ok (.iconst (-1), 1) := by decide +kernel
theorem dX7_knock_9 : decode cX7_knock 9 = .ok (.ireturn, 1) := by decide +kernel
theorem dX7_knock_10 : decode cX7_knock 10 = .ok (.aload_n 0, 1) := by decide +kernel
theorem dX7_knock_11 : decode cX7_knock 11 = .ok (.aload_n 0, 1) := by decide +kernel
theorem dX7_knock_12 : decode cX7_knock 12 = .ok (.getfield 19, 3) := by decide +kernel
theorem dX7_knock_15 : decode cX7_knock 15 = .ok (.iload_n 1, 1) := by decide +kernel
theorem dX7_knock_16 : decode cX7_knock 16 = .ok (.iaload, 1) := by decide +kernel
theorem dX7_knock_17 : decode cX7_knock 17 = .ok (.iconst 2, 1) := by decide +kernel
theorem dX7_knock_18 : decode cX7_knock 18 = .ok (.if_icmp .ne 7, 3) := by decide +kernel
theorem dX7_knock_21 : decode cX7_knock 21 = .ok (.iconst 5, 1) := by decide +kernel
theorem dX7_knock_22 : decode cX7_knock 22 = .ok (.goto 4, 3) := by decide +kernel
theorem dX7_knock_25 : decode cX7_knock 25 = .ok (.iconst 4, 1) := by decide +kernel
theorem dX7_knock_26 : decode cX7_knock 26 = .ok (.invokevirtual 220, 3) := by decide +kernel
theorem dX7_knock_29 : decode cX7_knock 29 = .ok (.aload_n 0, 1) := by decide +kernel
theorem dX7_knock_30 : decode cX7_knock 30 = .ok (.getfield 19, 3) := by decide +kernel
theorem dX7_knock_33 : decode cX7_knock 33 = .ok (.iload_n 1, 1) := by decide +kernel
theorem dX7_knock_34 : decode cX7_knock 34 = .ok (.iaload, 1) := by decide +kernel
theorem dX7_knock_35 : decode cX7_knock 35 = .ok (.iconst 2, 1) := by decide +kernel
theorem dX7_knock_36 : decode cX7_knock 36 = .ok (.if_icmp .ne 8, 3) := by decide +kernel
theorem dX7_knock_39 : decode cX7_knock 39 = .ok (.bipush 70, 2) := by decide +kernel
theorem dX7_knock_41 : decode cX7_knock 41 = .ok (.goto 4, 3) := by decide +kernel
theorem dX7_knock_44 : decode cX7_knock 44 = .ok (.iload_n 1, 1) := by decide +kernel
theorem dX7_knock_45 : decode cX7_knock 45 = .ok (.ireturn, 1) := by decide +kernel
theorem dX7_as_0 : decode cX7_as 0 = .ok (.aload_n 0, 1) := by decide +kernel
theorem dX7_as_1 : decode cX7_as 1 = .ok (.iconst 0, 1) := by decide +kernel
theorem dX7_as_2 : decode cX7_as 2 = .ok (.putfield 69, 3) := by decide +kernel
theorem dX7_as_5 : decode cX7_as 5 = .ok (.aload_n 0, 1) := by decide +kernel
theorem dX7_as_6 : decode cX7_as 6 = .ok (.iload_n 1, 1) := by decide +kernel
theorem dX7_as_7 : decode cX7_as 7 = .ok (.invokevirtual 139, 3) := by decide +kernel
theorem dX7_as_10 : decode cX7_as 10 = .ok (.ifCond .ne 5, 3) := by decide +kernel
theorem dX7_as_13 : decode cX7_as 13 = .ok (.iconst (-1), 1) := by decide +kernel
theorem dX7_as_14 : decode cX7_as 14 = .ok (.ireturn, 1) := by decide +kernel
theorem dX7_as_15 : decode cX7_as 15 = .ok (.iload_n 2, 1) := by decide +kernel
theorem dX7_as_16 : decode cX7_as 16 = .ok (.iconst 0, 1) := by decide +kernel
theorem dX7_as_17 : decode cX7_as 17 = .ok (.iconst 2, 1) := by decide +kernel
theorem dX7_as_18 : decode cX7_as 18 = .ok (.invokestatic 74, 3) := by decide +kernel
theorem dX7_as_21 : decode cX7_as 21 = .ok (.ifCond .ne 6, 3) := by decide +kernel
theorem dX7_as_24 : decode cX7_as 24 = .ok (.bipush (-2), 2) := by decide +kernel
theorem dX7_as_26 : decode cX7_as 26 = .ok (.ireturn, 1) := by decide +kernel
theorem dX7_as_27 : decode cX7_as 27 = .ok (.aload_n 0, 1) := by decide +kernel
theorem dX7_as_28 : decode cX7_as 28 = .ok (.getfield 19, 3) := by decide +kernel
theorem dX7_as_31 : decode cX7_as 31 = .ok (.iload_n 1, 1) := by decide +kernel
theorem dX7_as_32 : decode cX7_as 32 = .ok (.iaload, 1) := by decide +kernel
theorem dX7_as_33 : decode cX7_as 33 = .ok (.iload_n 2, 1) := by decide +kernel
theorem dX7_as_34 : decode cX7_as 34 = .ok (.if_icmp .lt 7, 3) := by decide +kernel
theorem dX7_as_37 : decode cX7_as 37 = .ok (.iconst 1, 1) := by decide +kernel
theorem dX7_as_38 : decode cX7_as 38 = .ok (.goto 8, 3) := by decide +kernel
theorem dX7_as_41 : decode cX7_as 41 = .ok (.aload_n 0, 1) := by decide +kernel
theorem dX7_as_42 : decode cX7_as 42 = .ok (.iconst 2, 1) := by decide +kernel
theorem dX7_as_43 : decode cX7_as 43 = .ok (.invokevirtual 92, 3) := by decide +kernel
theorem dX7_as_46 : decode cX7_as 46 = .ok (.ireturn, 1) := by decide +kernel
theorem dX7_trace_0 : decode cX7_trace 0 = .ok (.aload_n 0, 1) := by decide +kernel
theorem dX7_trace_1 : decode cX7_trace 1 = .ok (.getfield 217, 3) := by decide +kernel
theorem dX7_trace_4 : decode cX7_trace 4 = .ok (.ireturn, 1) := by decide +kernel
theorem dX7_fault_0 : decode cX7_fault 0 = .ok (.aload_n 0, 1) := by decide +kernel
theorem dX7_fault_1 : decode cX7_fault 1 = .ok (.getfield 69, 3) := by decide +kernel
theorem dX7_fault_4 : decode cX7_fault 4 = .ok (.ireturn, 1) := by decide +kernel
theorem dX7_many_0 : decode cX7_many 0 = .ok (.iload_n 1, 1) := by decide +kernel
theorem dX7_many_1 : decode cX7_many 1 = .ok (.tableswitch 60 0 4 #[35, 40, 45, 50, 55], 35) := by decide +kernel
theorem dX7_many_36 : decode cX7_many 36 = .ok (.aload_n 0, 1) := by decide +kernel
theorem dX7_many_37 : decode cX7_many 37 = .ok (.getfield 78, 3) := by decide +kernel
theorem dX7_many_40 : decode cX7_many 40 = .ok (.ireturn, 1) := by decide +kernel
theorem dX7_many_41 : decode cX7_many 41 = .ok (.aload_n 0, 1) := by decide +kernel
theorem dX7_many_42 : decode cX7_many 42 = .ok (.getfield 105, 3) := by decide +kernel
theorem dX7_many_45 : decode cX7_many 45 = .ok (.ireturn, 1) := by decide +kernel
theorem dX7_many_46 : decode cX7_many 46 = .ok (.aload_n 0, 1) := by decide +kernel
theorem dX7_many_47 : decode cX7_many 47 = .ok (.getfield 111, 3) := by decide +kernel
theorem dX7_many_50 : decode cX7_many 50 = .ok (.ireturn, 1) := by decide +kernel
theorem dX7_many_51 : decode cX7_many 51 = .ok (.aload_n 0, 1) := by decide +kernel
theorem dX7_many_52 : decode cX7_many 52 = .ok (.getfield 120, 3) := by decide +kernel
theorem dX7_many_55 : decode cX7_many 55 = .ok (.ireturn, 1) := by decide +kernel
theorem dX7_many_56 : decode cX7_many 56 = .ok (.aload_n 0, 1) := by decide +kernel
theorem dX7_many_57 : decode cX7_many 57 = .ok (.getfield 129, 3) := by decide +kernel
theorem dX7_many_60 : decode cX7_many 60 = .ok (.ireturn, 1) := by decide +kernel
theorem dX7_many_61 : decode cX7_many 61 = .ok (.bipush (-2), 2) := by decide +kernel
theorem dX7_many_63 : decode cX7_many 63 = .ok (.ireturn, 1) := by decide +kernel
