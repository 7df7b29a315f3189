set_option maxRecDepth 20000 in
theorem ggX6_init_X6_year : GoodIn wsX6_init wsX6_year := goodIn_r _ [26, 27, 9, 10, 28, 29, 30, 31, 32, 33, 34, 35, 36, 37, 38, 39, 40, 41, 42, 43, 44, 45, 46, 47, 48, 49, 50, 51] (by decide +kernel) (by decide +kernel)
set_option maxRecDepth 20000 in
theorem gX6_init_X6_year : GoodIn wsX6_init (wsV RX6 56 RX6 yX6_year wsX6_year) := goodIn_app (goodIn_of _ (by decide +kernel)) ggX6_init_X6_year
theorem dX6_init_0 : decode cX6_init 0 = .ok (.aload_n 0, 1) := by decide +kernel
theorem dX6_init_1 : decode cX6_init 1 = .ok (.invokespecial 1, 3) := by decide +kernel
theorem dX6_init_4 : decode cX6_init 4 = .ok (.aload_n 0, 1) := by decide +kernel
theorem dX6_init_5 : decode cX6_init 5 = .ok (.iconst 4, 1) := by decide +kernel
theorem dX6_init_6 : decode cX6_init 6 = .ok (.newarray .int, 2) := by decide +kernel
theorem dX6_init_8 : decode cX6_init 8 = .ok (.putfield 7, 3) := by decide +kernel
theorem dX6_init_11 : decode cX6_init 11 = .ok (.aload_n 0, 1) := by decide +kernel
theorem dX6_init_12 : decode cX6_init 12 = .ok (.iconst 4, 1) := by decide +kernel
theorem dX6_init_13 : decode cX6_init 13 = .ok (.newarray .int, 2) := by decide +kernel
theorem dX6_init_15 : decode cX6_init 15 = .ok (.putfield 13, 3) := by decide +kernel
theorem dX6_init_18 : decode cX6_init 18 = .ok (.aload_n 0, 1) := by decide +kernel
theorem dX6_init_19 : decode cX6_init 19 = .ok (.iconst 4, 1) := by decide +kernel
theorem dX6_init_20 : decode cX6_init 20 = .ok (.newarray .int, 2) := by decide +kernel
theorem dX6_init_22 : decode cX6_init 22 = .ok (.putfield 16, 3) := by decide +kernel
theorem dX6_init_25 : decode cX6_init 25 = .ok (.aload_n 0, 1) := by decide +kernel
theorem dX6_init_26 : decode cX6_init 26 = .ok (.iconst 4, 1) := by decide +kernel
theorem dX6_init_27 : decode cX6_init 27 = .ok (.newarray .int, 2) := by decide +kernel
theorem dX6_init_29 : decode cX6_init 29 = .ok (.putfield 19, 3) := by decide +kernel
theorem dX6_init_32 : decode cX6_init 32 = .ok (.aload_n 0, 1) := by decide +kernel
theorem dX6_init_33 : decode cX6_init 33 = .ok (.bipush 21, 2) := by decide +kernel
theorem dX6_init_35 : decode cX6_init 35 = .ok (.newarray .int, 2) := by decide +kernel
theorem dX6_init_37 : decode cX6_init 37 = .ok (.putfield 22, 3) := by decide +kernel
theorem dX6_init_40 : decode cX6_init 40 = .ok (.aload_n 0, 1) := by decide +kernel
theorem dX6_init_41 : decode cX6_init 41 = .ok (.bipush 21, 2) := by decide +kernel
theorem dX6_init_43 : decode cX6_init 43 = .ok (.newarray .int, 2) := by decide +kernel
theorem dX6_init_45 : decode cX6_init 45 = .ok (.putfield 25, 3) := by decide +kernel
theorem dX6_init_48 : decode cX6_init 48 = .ok (.aload_n 0, 1) := by decide +kernel
theorem dX6_init_49 : decode cX6_init 49 = .ok (.bipush 80, 2) := by decide +kernel
theorem dX6_init_51 : decode cX6_init 51 = .ok (.newarray .int, 2) := by decide +kernel
theorem dX6_init_53 : decode cX6_init 53 = .ok (.putfield 28, 3) := by decide +kernel
theorem dX6_init_56 : decode cX6_init 56 = .ok (.aload_n 0, 1) := by decide +kernel
theorem dX6_init_57 : decode cX6_init 57 = .ok (.bipush 20, 2) := by decide +kernel
theorem dX6_init_59 : decode cX6_init 59 = .ok (.newarray .int, 2) := by decide +kernel
theorem dX6_init_61 : decode cX6_init 61 = .ok (.putfield 31, 3) := by decide +kernel
theorem dX6_init_64 : decode cX6_init 64 = .ok (.aload_n 0, 1) := by decide +kernel
theorem dX6_init_65 : decode cX6_init 65 = .ok (.bipush 7, 2) := by decide +kernel
theorem dX6_init_67 : decode cX6_init 67 = .ok (.newarray .int, 2) := by decide +kernel
theorem dX6_init_69 : decode cX6_init 69 = .ok (.putfield 34, 3) := by decide +kernel
theorem dX6_init_72 : decode cX6_init 72 = .ok (.aload_n 0, 1) := by decide +kernel
theorem dX6_init_73 : decode cX6_init 73 = .ok (.bipush 61, 2) := by decide +kernel
theorem dX6_init_75 : decode cX6_init 75 = .ok (.newarray .int, 2) := by decide +kernel
theorem dX6_init_77 : decode cX6_init 77 = .ok (.putfield 37, 3) := by decide +kernel
theorem dX6_init_80 : decode cX6_init 80 = .ok (.aload_n 0, 1) := by decide +kernel
theorem dX6_init_81 : decode cX6_init 81 = .ok (.bipush 61, 2) := by decide +kernel
theorem dX6_init_83 : decode cX6_init 83 = .ok (.newarray .int, 2) := by decide +kernel
theorem dX6_init_85 : decode cX6_init 85 = .ok (.putfield 40, 3) := by decide +kernel
theorem dX6_init_88 : decode cX6_init 88 = .ok (.aload_n 0, 1) := by decide +kernel
theorem dX6_init_89 : decode cX6_init 89 = .ok (.sipush 1848, 3) := by decide +kernel
theorem dX6_init_92 : decode cX6_init 92 = .ok (.newarray .int, 2) := by decide +kernel
theorem dX6_init_94 : decode cX6_init 94 = .ok (.putfield 43, 3) := by decide +kernel
theorem dX6_init_97 : decode cX6_init 97 = .ok (.aload_n 0, 1) := by decide +kernel
theorem dX6_init_98 : decode cX6_init 98 = .ok (.bipush 20, 2) := by decide +kernel
theorem dX6_init_100 : decode cX6_init 100 = .ok (.newarray .int, 2) := by decide +kernel
theorem dX6_init_102 : decode cX6_init 102 = .ok (.putfield 46, 3) := by decide +kernel
theorem dX6_init_105 : decode cX6_init 105 = .ok (.aload_n 0, 1) := by decide +kernel
theorem dX6_init_106 : decode cX6_init 106 = .ok (.sipush 1764, 3) := by decide +kernel
theorem dX6_init_109 : decode cX6_init 109 = .ok (.newarray .long, 2) := by decide +kernel
theorem dX6_init_111 : decode cX6_init 111 = .ok (.putfield 49, 3) := by decide +kernel
theorem dX6_init_114 : decode cX6_init 114 = .ok (.aload_n 0, 1) := by decide +kernel
theorem dX6_init_115 : decode cX6_init 115 = .ok (.sipush 1764, 3) := by decide +kernel
theorem dX6_init_118 : decode cX6_init 118 = .ok (.newarray .long, 2) := by decide +kernel
theorem dX6_init_120 : decode cX6_init 120 = .ok (.putfield 53, 3) := by decide +kernel
theorem dX6_init_123 : decode cX6_init 123 = .ok (.aload_n 0, 1) := by decide +kernel
theorem dX6_init_124 : decode cX6_init 124 = .ok (.bipush 10, 2) := by decide +kernel
theorem dX6_init_126 : decode cX6_init 126 = .ok (.invokevirtual 56, 3) := by decide +kernel
theorem dX6_init_129 : decode cX6_init 129 = .ok (.aload_n 0, 1) := by decide +kernel
theorem dX6_init_130 : decode cX6_init 130 = .ok (.iconst 1, 1) := by decide +kernel
theorem dX6_init_131 : decode cX6_init 131 = .ok (.putfield 60, 3) := by decide +kernel
theorem dX6_init_134 : decode cX6_init 134 = .ok (.return_, 1) := by decide +kernel
theorem dX6_no_0 : decode cX6_no 0 = .ok (.aload_n 0, 1) := by decide +kernel
theorem dX6_no_1 : decode cX6_no 1 = .ok (.getfield 34, 3) := by decide +kernel
theorem dX6_no_4 : decode cX6_no 4 = .ok (.iload_n 1, 1) := by decide +kernel
theorem dX6_no_5 : decode cX6_no 5 = .ok (.ineg, 1) := by decide +kernel
theorem dX6_no_6 : decode cX6_no 6 = .ok (.dup2, 1) := by decide +kernel
theorem dX6_no_7 : decode cX6_no 7 = .ok (.iaload, 1) := by decide +kernel
theorem dX6_no_8 : decode cX6_no 8 = .ok (.iconst 1, 1) := by decide +kernel
theorem dX6_no_9 : decode cX6_no 9 = .ok (.iadd, 1) := by decide +kernel
theorem dX6_no_10 : decode cX6_no 10 = .ok (.iastore, 1) := by decide +kernel
theorem dX6_no_11 : decode cX6_no 11 = .ok (.iload_n 1, 1) := by decide +kernel
theorem dX6_no_12 : decode cX6_no 12 = .ok (.ireturn, 1) := by decide +kernel
set_option maxRecDepth 20000 in
theorem ggX6_noFar_X6_no : GoodIn wsX6_noFar wsX6_no := goodIn_r _ [6, 7, 8, 9, 10, 11, 12, 13, 14, 15, 16, 17, 18, 19, 20, 21, 22, 23, 24, 25, 26, 27, 28, 29, 30, 31] (by decide +kernel) (by decide +kernel)
set_option maxRecDepth 20000 in
theorem gX6_noFar_X6_no : GoodIn wsX6_noFar (wsV RX6 65 RX6 yX6_no wsX6_no) := goodIn_app (goodIn_of _ (by decide +kernel)) ggX6_noFar_X6_no
theorem dX6_noFar_0 : decode cX6_noFar 0 = .ok (.ldc 64, 2) := by decide +kernel
theorem dX6_noFar_2 : decode cX6_noFar 2 = .ok (.aload_n 0, 1) := by decide +kernel
theorem dX6_noFar_3 : decode cX6_noFar 3 = .ok (.iload_n 1, 1) := by decide +kernel
theorem dX6_noFar_4 : decode cX6_noFar 4 = .ok (.invokevirtual 65, 3) := by decide +kernel
theorem dX6_noFar_7 : decode cX6_noFar 7 = .ok (.isub, 1) := by decide +kernel
theorem dX6_noFar_8 : decode cX6_noFar 8 = .ok (.ireturn, 1) := by decide +kernel
set_option maxRecDepth 20000 in
theorem ggX6_noLong_X6_no : GoodIn wsX6_noLong wsX6_no := goodIn_r _ [6, 7, 8, 9, 10, 11, 12, 13, 14, 15, 16, 17, 18, 19, 20, 21, 22, 23, 24, 25, 26, 27, 28, 29, 30, 31] (by decide +kernel) (by decide +kernel)
set_option maxRecDepth 20000 in
theorem gX6_noLong_X6_no : GoodIn wsX6_noLong (wsV RX6 65 RX6 yX6_no wsX6_no) := goodIn_app (goodIn_of _ (by decide +kernel)) ggX6_noLong_X6_no
theorem dX6_noLong_0 : decode cX6_noLong 0 = .ok (.ldc2_w 69, 3) := by decide +kernel
theorem dX6_noLong_3 : decode cX6_noLong 3 = .ok (.aload_n 0, 1) := by decide +kernel
theorem dX6_noLong_4 : decode cX6_noLong 4 = .ok (.iload_n 1, 1) := by decide +kernel
theorem dX6_noLong_5 : decode cX6_noLong 5 = .ok (.invokevirtual 65, 3) := by decide +kernel
theorem dX6_noLong_8 : decode cX6_noLong 8 = .ok (.i2l, 1) := by decide +kernel
theorem dX6_noLong_9 : decode cX6_noLong 9 = .ok (.lsub, 1) := by decide +kernel
theorem dX6_noLong_10 : decode cX6_noLong 10 = .ok (.lreturn, 1) := by decide +kernel
theorem dX6_within_0 : decode cX6_within 0 = .ok (.iload_n 0, 1) := by decide +kernel
theorem dX6_within_1 : decode cX6_within 1 = .ok (.iload_n 1, 1) := by decide +kernel
theorem dX6_within_2 : decode cX6_within 2 = .ok (.if_icmp .lt 12, 3) := by decide +kernel
theorem dX6_within_5 : decode cX6_within 5 = .ok (.iload_n 0, 1) := by decide +kernel
theorem dX6_within_6 : decode cX6_within 6 = .ok (.iload_n 2, 1) := by decide +kernel
theorem dX6_within_7 : decode cX6_within 7 = .ok (.if_icmp .gt 7, 3) := by decide +kernel
theorem dX6_within_10 : decode cX6_within 10 = .ok (.iconst 1, 1) := by decide +kernel
theorem dX6_within_11 : decode cX6_within 11 = .ok (.goto 4, 3) := by decide +kernel
theorem dX6_within_14 : decode cX6_within 14 = .ok (.iconst 0, 1) := by decide +kernel
theorem dX6_within_15 : decode cX6_within 15 = .ok (.ireturn, 1) := by decide +kernel
set_option maxRecDepth 20000 in
theorem ggX6_isThing_X6_within : GoodIn wsX6_isThing wsX6_within := goodIn_r _ [5] (by decide +kernel) (by decide +kernel)
set_option maxRecDepth 20000 in
theorem gX6_isThing_X6_within : GoodIn wsX6_isThing (va_wsS RX6 74 yX6_within wsX6_within) := goodIn_app (goodIn_of _ (by decide +kernel)) ggX6_isThing_X6_within
theorem dX6_isThing_0 : decode cX6_isThing 0 = .ok (.iload_n 1, 1) := by decide +kernel
theorem dX6_isThing_1 : decode cX6_isThing 1 = .ok (.iconst 0, 1) := by decide +kernel
theorem dX6_isThing_2 : decode cX6_isThing 2 = .ok (.aload_n 0, 1) := by decide +kernel
theorem dX6_isThing_3 : decode cX6_isThing 3 = .ok (.getfield 71, 3) := by decide +kernel
theorem dX6_isThing_6 : decode cX6_isThing 6 = .ok (.iconst 1, 1) := by decide +kernel
theorem dX6_isThing_7 : decode cX6_isThing 7 = .ok (.isub, 1) := by decide +kernel
theorem dX6_isThing_8 : decode cX6_isThing 8 = .ok (.invokestatic 74, 3) := by decide +kernel
theorem dX6_isThing_11 : decode cX6_isThing 11 = .ok (.ireturn, 1) := by decide +kernel
set_option maxRecDepth 20000 in
theorem ggX6_isDay_X6_within : GoodIn wsX6_isDay wsX6_within := goodIn_r _ [5] (by decide +kernel) (by decide +kernel)
set_option maxRecDepth 20000 in
theorem gX6_isDay_X6_within : GoodIn wsX6_isDay (va_wsS RX6 74 yX6_within wsX6_within) := goodIn_app (goodIn_of _ (by decide +kernel)) ggX6_isDay_X6_within
theorem dX6_isDay_0 : decode cX6_isDay 0 = .ok (.iload_n 1, 1) := by decide +kernel
theorem dX6_isDay_1 : decode cX6_isDay 1 = .ok (.iconst 0, 1) := by decide +kernel
theorem dX6_isDay_2 : decode cX6_isDay 2 = .ok (.aload_n 0, 1) := by decide +kernel
theorem dX6_isDay_3 : decode cX6_isDay 3 = .ok (.getfield 78, 3) := by decide +kernel
theorem dX6_isDay_6 : decode cX6_isDay 6 = .ok (.iconst 1, 1) := by decide +kernel
theorem dX6_isDay_7 : decode cX6_isDay 7 = .ok (.isub, 1) := by decide +kernel
theorem dX6_isDay_8 : decode cX6_isDay 8 = .ok (.invokestatic 74, 3) := by decide +kernel
theorem dX6_isDay_11 : decode cX6_isDay 11 = .ok (.ireturn, 1) := by decide +kernel
theorem dX6_year_0 : decode cX6_year 0 = .ok (.aload_n 0, 1) := by decide +kernel
theorem dX6_year_1 : decode cX6_year 1 = .ok (.iload_n 1, 1) := by decide +kernel
theorem dX6_year_2 : decode cX6_year 2 = .ok (.putfield 78, 3) := by decide +kernel
theorem dX6_year_5 : decode cX6_year 5 = .ok (.iconst 0, 1) := by decide +kernel
theorem dX6_year_6 : decode cX6_year 6 = .ok (.istore_n 2, 1) := by decide +kernel
theorem dX6_year_7 : decode cX6_year 7 = .ok (.iload_n 2, 1) := by decide +kernel
theorem dX6_year_8 : decode cX6_year 8 = .ok (.bipush 21, 2) := by decide +kernel
theorem dX6_year_10 : decode cX6_year 10 = .ok (.if_icmp .ge 24, 3) := by decide +kernel
theorem dX6_year_13 : decode cX6_year 13 = .ok (.aload_n 0, 1) := by decide +kernel
theorem dX6_year_14 : decode cX6_year 14 = .ok (.getfield 22, 3) := by decide +kernel
theorem dX6_year_17 : decode cX6_year 17 = .ok (.iload_n 2, 1) := by decide +kernel
theorem dX6_year_18 : decode cX6_year 18 = .ok (.iconst 0, 1) := by decide +kernel
theorem dX6_year_19 : decode cX6_year 19 = .ok (.iastore, 1) := by decide +kernel
theorem dX6_year_20 : decode cX6_year 20 = .ok (.aload_n 0, 1) := by decide +kernel
theorem dX6_year_21 : decode cX6_year 21 = .ok (.getfield 25, 3) := by decide +kernel
theorem dX6_year_24 : decode cX6_year 24 = .ok (.iload_n 2, 1) := by decide +kernel
theorem dX6_year_25 : decode cX6_year 25 = .ok (.bipush (-9), 2) := by decide +kernel
theorem dX6_year_27 : decode cX6_year 27 = .ok (.iastore, 1) := by decide +kernel
theorem dX6_year_28 : decode cX6_year 28 = .ok (.iinc 2 1, 3) := by decide +kernel
theorem dX6_year_31 : decode cX6_year 31 = .ok (.goto (-24), 3) := by decide +kernel
theorem dX6_year_34 : decode cX6_year 34 = .ok (.return_, 1) := by decide +kernel
set_option maxRecDepth 20000 in
theorem ggX6_letter_X6_no : GoodIn wsX6_letter wsX6_no := goodIn_r _ [7, 8, 9, 10, 11, 12, 13, 14, 15, 16, 17, 18, 19, 20, 21, 22, 23, 24, 25, 26, 27, 28, 29, 30, 31, 32] (by decide +kernel) (by decide +kernel)
set_option maxRecDepth 20000 in
theorem gX6_letter_X6_no : GoodIn wsX6_letter (wsV RX6 65 RX6 yX6_no wsX6_no) := goodIn_app (goodIn_of _ (by decide +kernel)) ggX6_letter_X6_no
theorem dX6_letter_0 : decode cX6_letter 0 = .ok (.iload_n 1, 1) := by decide +kernel
theorem dX6_letter_1 : decode cX6_letter 1 = .ok (.ifCond .ge 10, 3) := by decide +kernel
theorem dX6_letter_4 : decode cX6_letter 4 = .ok (.aload_n 0, 1) := by decide +kernel
theorem dX6_letter_5 : decode cX6_letter 5 = .ok (.bipush (-4), 2) := by decide +kernel
theorem dX6_letter_7 : decode cX6_letter 7 = .ok (.invokevirtual 65, 3) := by decide +kernel
theorem dX6_letter_10 : decode cX6_letter 10 = .ok (.ireturn, 1) := by decide +kernel
theorem dX6_letter_11 : decode cX6_letter 11 = .ok (.iload_n 1, 1) := by decide +kernel
theorem dX6_letter_12 : decode cX6_letter 12 = .ok (.sipush 255, 3) := by decide +kernel
theorem dX6_letter_15 : decode cX6_letter 15 = .ok (.if_icmp .gt 12, 3) := by decide +kernel
theorem dX6_letter_18 : decode cX6_letter 18 = .ok (.aload_n 0, 1) := by decide +kernel
theorem dX6_letter_19 : decode cX6_letter 19 = .ok (.getfield 81, 3) := by decide +kernel
theorem dX6_letter_22 : decode cX6_letter 22 = .ok (.bipush 80, 2) := by decide +kernel
theorem dX6_letter_24 : decode cX6_letter 24 = .ok (.if_icmp .ne 10, 3) := by decide +kernel
theorem dX6_letter_27 : decode cX6_letter 27 = .ok (.aload_n 0, 1) := by decide +kernel
theorem dX6_letter_28 : decode cX6_letter 28 = .ok (.bipush (-6), 2) := by decide +kernel
theorem dX6_letter_30 : decode cX6_letter 30 = .ok (.invokevirtual 65, 3) := by decide +kernel
theorem dX6_letter_33 : decode cX6_letter 33 = .ok (.ireturn, 1) := by decide +kernel
theorem dX6_letter_34 : decode cX6_letter 34 = .ok (.aload_n 0, 1) := by decide +kernel
theorem dX6_letter_35 : decode cX6_letter 35 = .ok (.getfield 28, 3) := by decide +kernel
theorem dX6_letter_38 : decode cX6_letter 38 = .ok (.aload_n 0, 1) := by decide +kernel
theorem dX6_letter_39 : decode cX6_letter 39 = .ok (.dup, 1) := by decide +kernel
theorem dX6_letter_40 : decode cX6_letter 40 = .ok (.getfield 81, 3) := by decide +kernel
theorem dX6_letter_43 : decode cX6_letter 43 = .ok (.dup_x1, 1) := by decide +kernel
theorem dX6_letter_44 : decode cX6_letter 44 = .ok (.iconst 1, 1) := by decide +kernel
theorem dX6_letter_45 : decode cX6_letter 45 = .ok (.iadd, 1) := by decide +kernel
theorem dX6_letter_46 : decode cX6_letter 46 = .ok (.putfield 81, 3) := by decide +kernel
theorem dX6_letter_49 : decode cX6_letter 49 = .ok (.iload_n 1, 1) := by decide +kernel
theorem dX6_letter_50 : decode cX6_letter 50 = .ok (.iastore, 1) := by decide +kernel
theorem dX6_letter_51 : decode cX6_letter 51 = .ok (.aload_n 0, 1) := by decide +kernel
theorem dX6_letter_52 : decode cX6_letter 52 = .ok (.getfield 81, 3) := by decide +kernel
theorem dX6_letter_55 : decode cX6_letter 55 = .ok (.ireturn, 1) := by decide +kernel
theorem dX6_is_0 : decode cX6_is 0 = .ok (.aload_n 0, 1) := by decide +kernel
theorem dX6_is_1 : decode cX6_is 1 = .ok (.getfield 84, 3) := by decide +kernel
theorem dX6_is_4 : decode cX6_is 4 = .ok (.aload_n 0, 1) := by decide +kernel
theorem dX6_is_5 : decode cX6_is 5 = .ok (.getfield 81, 3) := by decide +kernel
theorem dX6_is_8 : decode cX6_is 8 = .ok (.if_icmp .eq 16, 3) := by decide +kernel
theorem dX6_is_11 : decode cX6_is 11 = .ok (.aload_n 0, 1) := by decide +kernel
theorem dX6_is_12 : decode cX6_is 12 = .ok (.getfield 28, 3) := by decide +kernel
theorem dX6_is_15 : decode cX6_is 15 = .ok (.aload_n 0, 1) := by decide +kernel
theorem dX6_is_16 : decode cX6_is 16 = .ok (.getfield 84, 3) := by decide +kernel
theorem dX6_is_19 : decode cX6_is 19 = .ok (.iaload, 1) := by decide +kernel
theorem dX6_is_20 : decode cX6_is 20 = .ok (.iload_n 1, 1) := by decide +kernel
theorem dX6_is_21 : decode cX6_is 21 = .ok (.if_icmp .eq 5, 3) := by decide +kernel
theorem dX6_is_24 : decode cX6_is 24 = .ok (.iconst 0, 1) := by decide +kernel
theorem dX6_is_25 : decode cX6_is 25 = .ok (.ireturn, 1) := by decide +kernel
theorem dX6_is_26 : decode cX6_is 26 = .ok (.aload_n 0, 1) := by decide +kernel
theorem dX6_is_27 : decode cX6_is 27 = .ok (.dup, 1) := by decide +kernel
theorem dX6_is_28 : decode cX6_is 28 = .ok (.getfield 84, 3) := by decide +kernel
theorem dX6_is_31 : decode cX6_is 31 = .ok (.iconst 1, 1) := by decide +kernel
theorem dX6_is_32 : decode cX6_is 32 = .ok (.iadd, 1) := by decide +kernel
theorem dX6_is_33 : decode cX6_is 33 = .ok (.putfield 84, 3) := by decide +kernel
theorem dX6_is_36 : decode cX6_is 36 = .ok (.iconst 1, 1) := by decide +kernel
theorem dX6_is_37 : decode cX6_is 37 = .ok (.ireturn, 1) := by decide +kernel
theorem dX6_isDigit_0 : decode cX6_isDigit 0 = .ok (.aload_n 0, 1) := by decide +kernel
theorem dX6_isDigit_1 : decode cX6_isDigit 1 = .ok (.getfield 84, 3) := by decide +kernel
theorem dX6_isDigit_4 : decode cX6_isDigit 4 = .ok (.aload_n 0, 1) := by decide +kernel
theorem dX6_isDigit_5 : decode cX6_isDigit 5 = .ok (.getfield 81, 3) := by decide +kernel
theorem dX6_isDigit_8 : decode cX6_isDigit 8 = .ok (.if_icmp .ge 35, 3) := by decide +kernel
theorem dX6_isDigit_11 : decode cX6_isDigit 11 = .ok (.aload_n 0, 1) := by decide +kernel
theorem dX6_isDigit_12 : decode cX6_isDigit 12 = .ok (.getfield 28, 3) := by decide +kernel
theorem dX6_isDigit_15 : decode cX6_isDigit 15 = .ok (.aload_n 0, 1) := by decide +kernel
theorem dX6_isDigit_16 : decode cX6_isDigit 16 = .ok (.getfield 84, 3) := by decide +kernel
theorem dX6_isDigit_19 : decode cX6_isDigit 19 = .ok (.iaload, 1) := by decide +kernel
theorem dX6_isDigit_20 : decode cX6_isDigit 20 = .ok (.bipush 48, 2) := by decide +kernel
theorem dX6_isDigit_22 : decode cX6_isDigit 22 = .ok (.if_icmp .lt 21, 3) := by decide +kernel
theorem dX6_isDigit_25 : decode cX6_isDigit 25 = .ok (.aload_n 0, 1) := by decide +kernel
theorem dX6_isDigit_26 : decode cX6_isDigit 26 = .ok (.getfield 28, 3) := by decide +kernel
theorem dX6_isDigit_29 : decode cX6_isDigit 29 = .ok (.aload_n 0, 1) := by decide +kernel
theorem dX6_isDigit_30 : decode cX6_isDigit 30 = .ok (.getfield 84, 3) := by decide +kernel
theorem dX6_isDigit_33 : decode cX6_isDigit 33 = .ok (.iaload, 1) := by decide +kernel
theorem dX6_isDigit_34 : decode cX6_isDigit 34 = .ok (.bipush 57, 2) := by decide +kernel
theorem dX6_isDigit_36 : decode cX6_isDigit 36 = .ok (.if_icmp .gt 7, 3) := by decide +kernel
theorem dX6_isDigit_39 : decode cX6_isDigit 39 = .ok (.iconst 1, 1) := by decide +kernel
theorem dX6_isDigit_40 : decode cX6_isDigit 40 = .ok (.goto 4, 3) := by decide +kernel
theorem dX6_isDigit_43 : decode cX6_isDigit 43 = .ok (.iconst 0, 1) := by decide +kernel
theorem dX6_isDigit_44 : decode cX6_isDigit 44 = .ok (.ireturn, 1) := by decide +kernel
set_option maxRecDepth 20000 in
theorem ggX6_digit_X6_isDigit : GoodIn wsX6_digit wsX6_isDigit := goodIn_r _ [8, 2, 9, 1, 10, 11, 12, 13, 14, 15, 16, 17, 18, 19, 20, 21, 22, 23, 24, 25, 26, 27, 28, 29, 30, 31, 32, 33] (by decide +kernel) (by decide +kernel)
set_option maxRecDepth 20000 in
theorem gX6_digit_X6_isDigit : GoodIn wsX6_digit (wsV RX6 87 RX6 yX6_isDigit wsX6_isDigit) := goodIn_app (goodIn_of _ (by decide +kernel)) ggX6_digit_X6_isDigit
theorem dX6_digit_0 : decode cX6_digit 0 = .ok (.aload_n 0, 1) := by decide +kernel
theorem dX6_digit_1 : decode cX6_digit 1 = .ok (.invokevirtual 87, 3) := by decide +kernel
theorem dX6_digit_4 : decode cX6_digit 4 = .ok (.ifCond .ne 5, 3) := by decide +kernel
theorem dX6_digit_7 : decode cX6_digit 7 = .ok (.iconst 0, 1) := by decide +kernel
theorem dX6_digit_8 : decode cX6_digit 8 = .ok (.ireturn, 1) := by decide +kernel
theorem dX6_digit_9 : decode cX6_digit 9 = .ok (.aload_n 0, 1) := by decide +kernel
theorem dX6_digit_10 : decode cX6_digit 10 = .ok (.aload_n 0, 1) := by decide +kernel
theorem dX6_digit_11 : decode cX6_digit 11 = .ok (.getfield 28, 3) := by decide +kernel
theorem dX6_digit_14 : decode cX6_digit 14 = .ok (.aload_n 0, 1) := by decide +kernel
theorem dX6_digit_15 : decode cX6_digit 15 = .ok (.dup, 1) := by decide +kernel
theorem dX6_digit_16 : decode cX6_digit 16 = .ok (.getfield 84, 3) := by decide +kernel
theorem dX6_digit_19 : decode cX6_digit 19 = .ok (.dup_x1, 1) := by decide +kernel
theorem dX6_digit_20 : decode cX6_digit 20 = .ok (.iconst 1, 1) := by decide +kernel
theorem dX6_digit_21 : decode cX6_digit 21 = .ok (.iadd, 1) := by decide +kernel
theorem dX6_digit_22 : decode cX6_digit 22 = .ok (.putfield 84, 3) := by decide +kernel
theorem dX6_digit_25 : decode cX6_digit 25 = .ok (.iaload, 1) := by decide +kernel
theorem dX6_digit_26 : decode cX6_digit 26 = .ok (.bipush 48, 2) := by decide +kernel
theorem dX6_digit_28 : decode cX6_digit 28 = .ok (.isub, 1) := by decide +kernel
theorem dX6_digit_29 : decode cX6_digit 29 = .ok (.putfield 91, 3) := by decide +kernel
theorem dX6_digit_32 : decode cX6_digit 32 = .ok (.iconst 1, 1) := by decide +kernel
theorem dX6_digit_33 : decode cX6_digit 33 = .ok (.ireturn, 1) := by decide +kernel
set_option maxRecDepth 20000 in
theorem ggX6_number_X6_digit : GoodIn wsX6_number wsX6_digit := goodIn_r _ [8, 2, 3, 1, 9, 10, 11, 7, 12, 13, 14, 15, 16, 17, 18, 19, 20, 21, 22, 23, 24, 25, 26, 27, 28, 29, 30, 31, 32, 33, 34, 35, 36, 37] (by decide +kernel) (by decide +kernel)
set_option maxRecDepth 20000 in
theorem gX6_number_X6_digit : GoodIn wsX6_number (wsV RX6 94 RX6 yX6_digit wsX6_digit) := goodIn_app (goodIn_of _ (by decide +kernel)) ggX6_number_X6_digit
set_option maxRecDepth 20000 in
theorem ggX6_number_X6_isDigit : GoodIn wsX6_number wsX6_isDigit := goodIn_r _ [12, 3, 13, 2, 14, 15, 16, 17, 18, 19, 20, 21, 22, 23, 24, 25, 26, 27, 28, 29, 30, 31, 32, 33, 34, 35, 36, 37] (by decide +kernel) (by decide +kernel)
set_option maxRecDepth 20000 in
theorem gX6_number_X6_isDigit : GoodIn wsX6_number (wsV RX6 87 RX6 yX6_isDigit wsX6_isDigit) := goodIn_app (goodIn_of _ (by decide +kernel)) ggX6_number_X6_isDigit
theorem dX6_number_0 : decode cX6_number 0 = .ok (.aload_n 0, 1) := by decide +kernel
theorem dX6_number_1 : decode cX6_number 1 = .ok (.invokevirtual 94, 3) := by decide +kernel
theorem dX6_number_4 : decode cX6_number 4 = .ok (.ifCond .ne 5, 3) := by decide +kernel
theorem dX6_number_7 : decode cX6_number 7 = .ok (.iconst 0, 1) := by decide +kernel
theorem dX6_number_8 : decode cX6_number 8 = .ok (.ireturn, 1) := by decide +kernel
theorem dX6_number_9 : decode cX6_number 9 = .ok (.aload_n 0, 1) := by decide +kernel
theorem dX6_number_10 : decode cX6_number 10 = .ok (.invokevirtual 87, 3) := by decide +kernel
theorem dX6_number_13 : decode cX6_number 13 = .ok (.ifCond .eq 37, 3) := by decide +kernel
theorem dX6_number_16 : decode cX6_number 16 = .ok (.aload_n 0, 1) := by decide +kernel
theorem dX6_number_17 : decode cX6_number 17 = .ok (.bipush 10, 2) := by decide +kernel
theorem dX6_number_19 : decode cX6_number 19 = .ok (.aload_n 0, 1) := by decide +kernel
theorem dX6_number_20 : decode cX6_number 20 = .ok (.getfield 91, 3) := by decide +kernel
theorem dX6_number_23 : decode cX6_number 23 = .ok (.imul, 1) := by decide +kernel
theorem dX6_number_24 : decode cX6_number 24 = .ok (.aload_n 0, 1) := by decide +kernel
theorem dX6_number_25 : decode cX6_number 25 = .ok (.getfield 28, 3) := by decide +kernel
theorem dX6_number_28 : decode cX6_number 28 = .ok (.aload_n 0, 1) := by decide +kernel
theorem dX6_number_29 : decode cX6_number 29 = .ok (.getfield 84, 3) := by decide +kernel
theorem dX6_number_32 : decode cX6_number 32 = .ok (.iaload, 1) := by decide +kernel
theorem dX6_number_33 : decode cX6_number 33 = .ok (.iadd, 1) := by decide +kernel
theorem dX6_number_34 : decode cX6_number 34 = .ok (.bipush 48, 2) := by decide +kernel
theorem dX6_number_36 : decode cX6_number 36 = .ok (.isub, 1) := by decide +kernel
theorem dX6_number_37 : decode cX6_number 37 = .ok (.putfield 91, 3) := by decide +kernel
theorem dX6_number_40 : decode cX6_number 40 = .ok (.aload_n 0, 1) := by decide +kernel
theorem dX6_number_41 : decode cX6_number 41 = .ok (.dup, 1) := by decide +kernel
theorem dX6_number_42 : decode cX6_number 42 = .ok (.getfield 84, 3) := by decide +kernel
theorem dX6_number_45 : decode cX6_number 45 = .ok (.iconst 1, 1) := by decide +kernel
theorem dX6_number_46 : decode cX6_number 46 = .ok (.iadd, 1) := by decide +kernel
theorem dX6_number_47 : decode cX6_number 47 = .ok (.putfield 84, 3) := by decide +kernel
theorem dX6_number_50 : decode cX6_number 50 = .ok (.iconst 1, 1) := by decide +kernel
theorem dX6_number_51 : decode cX6_number 51 = .ok (.ireturn, 1) := by decide +kernel
set_option maxRecDepth 20000 in
theorem ggX6_kindOf_J0_indexOf_0f7a4 : GoodIn wsX6_kindOf wsJ0_indexOf_0f7a4 := goodIn_r _ [5, 6, 7, 8, 4, 9, 10, 11, 12, 13, 14, 15, 16, 17, 18, 19, 20, 21, 22, 23, 24, 25, 26, 27, 28, 29, 30, 31, 32, 33, 34, 35, 36, 37, 38, 39, 40, 41, 42, 43, 44, 45, 46, 47, 48, 49, 50, 51, 52, 53, 54, 55, 56, 57, 58, 59, 60, 61, 62, 63, 64, 65, 66, 67, 68, 69, 70, 71, 72, 73, 74, 75, 76, 77, 78, 79, 80, 81, 82, 83, 84, 85, 86, 87, 88, 89] (by decide +kernel) (by decide +kernel)
set_option maxRecDepth 20000 in
theorem gX6_kindOf_J0_indexOf_0f7a4 : GoodIn wsX6_kindOf (wsV RX6 99 RJ0 yJ0_indexOf_0f7a4 wsJ0_indexOf_0f7a4) := goodIn_app (goodIn_of _ (by decide +kernel)) ggX6_kindOf_J0_indexOf_0f7a4
theorem dX6_kindOf_0 : decode cX6_kindOf 0 = .ok (.iload_n 0, 1) := by decide +kernel
theorem dX6_kindOf_1 : decode cX6_kindOf 1 = .ok (.ifCond .ne 7, 3) := by decide +kernel
theorem dX6_kindOf_4 : decode cX6_kindOf 4 = .ok (.iconst (-1), 1) := by decide +kernel
theorem dX6_kindOf_5 : decode cX6_kindOf 5 = .ok (.goto 9, 3) := by decide +kernel
theorem dX6_kindOf_8 : decode cX6_kindOf 8 = .ok (.ldc 97, 2) := by decide +kernel
theorem dX6_kindOf_10 : decode cX6_kindOf 10 = .ok (.iload_n 0, 1) := by decide +kernel
theorem dX6_kindOf_11 : decode cX6_kindOf 11 = .ok (.invokevirtual 99, 3) := by decide +kernel
theorem dX6_kindOf_14 : decode cX6_kindOf 14 = .ok (.ireturn, 1) := by decide +kernel
set_option maxRecDepth 20000 in
theorem ggX6_statement_X6_is : GoodIn wsX6_statement wsX6_is := goodIn_r _ [18, 1, 2, 3, 139, 140, 141, 142, 143, 144, 145, 146, 147, 148, 149, 150, 151, 152, 153, 154, 155, 156, 157, 158, 159, 160, 161, 162] (by decide +kernel) (by decide +kernel)
set_option maxRecDepth 20000 in
theorem gX6_statement_X6_is : GoodIn wsX6_statement (wsV RX6 104 RX6 yX6_is wsX6_is) := goodIn_app (goodIn_of _ (by decide +kernel)) ggX6_statement_X6_is
set_option maxRecDepth 20000 in
theorem ggX6_statement_X6_kindOf : GoodIn wsX6_statement wsX6_kindOf := goodIn_r _ [21, 22, 23, 24, 25, 26, 27, 28, 29, 30, 31, 32, 33, 34, 35, 36, 37, 38, 39, 40, 41, 42, 43, 44, 45, 46, 47, 48, 49, 50, 51, 52, 53, 54, 55, 56, 57, 58, 59, 60, 61, 62, 63, 64, 65, 66, 67, 68, 69, 70, 71, 72, 73, 74, 75, 76, 77, 78, 79, 80, 81, 82, 83, 84, 85, 86, 87, 88, 89, 90, 91, 92, 93, 94, 95, 96, 97, 98, 99, 100, 101, 102, 103, 104, 105, 106, 107, 108, 109, 110] (by decide +kernel) (by decide +kernel)
set_option maxRecDepth 20000 in
theorem gX6_statement_X6_kindOf : GoodIn wsX6_statement (va_wsS RX6 108 yX6_kindOf wsX6_kindOf) := goodIn_app (goodIn_of _ (by decide +kernel)) ggX6_statement_X6_kindOf
set_option maxRecDepth 20000 in
theorem ggX6_statement_X6_digit : GoodIn wsX6_statement wsX6_digit := goodIn_r _ [114, 3, 1, 4, 115, 116, 117, 17, 118, 2, 139, 140, 141, 142, 143, 144, 145, 146, 147, 148, 149, 150, 151, 152, 153, 154, 155, 156, 157, 158, 159, 160, 161, 162] (by decide +kernel) (by decide +kernel)
set_option maxRecDepth 20000 in
theorem gX6_statement_X6_digit : GoodIn wsX6_statement (wsV RX6 94 RX6 yX6_digit wsX6_digit) := goodIn_app (goodIn_of _ (by decide +kernel)) ggX6_statement_X6_digit
set_option maxRecDepth 20000 in
theorem ggX6_statement_X6_number : GoodIn wsX6_statement wsX6_number := goodIn_r _ [122, 4, 3, 1, 111, 112, 113, 17, 114, 115, 116, 117, 118, 2, 139, 140, 141, 142, 143, 144, 145, 146, 147, 148, 149, 150, 151, 152, 153, 154, 155, 156, 157, 158, 159, 160, 161, 162] (by decide +kernel) (by decide +kernel)
set_option maxRecDepth 20000 in
theorem gX6_statement_X6_number : GoodIn wsX6_statement (wsV RX6 111 RX6 yX6_number wsX6_number) := goodIn_app (goodIn_of _ (by decide +kernel)) ggX6_statement_X6_number
set_option maxRecDepth 20000 in
theorem ggX6_statement_X6_within : GoodIn wsX6_statement wsX6_within := goodIn_r _ [125] (by decide +kernel) (by decide +kernel)
set_option maxRecDepth 20000 in
theorem gX6_statement_X6_within : GoodIn wsX6_statement (va_wsS RX6 74 yX6_within wsX6_within) := goodIn_app (goodIn_of _ (by decide +kernel)) ggX6_statement_X6_within
set_option maxRecDepth 20000 in
theorem ggX6_statement_X6_year : GoodIn wsX6_statement wsX6_year := goodIn_r _ [129, 130, 13, 12, 139, 140, 141, 142, 143, 144, 145, 146, 147, 148, 149, 150, 151, 152, 153, 154, 155, 156, 157, 158, 159, 160, 161, 162] (by decide +kernel) (by decide +kernel)
set_option maxRecDepth 20000 in
theorem gX6_statement_X6_year : GoodIn wsX6_statement (wsV RX6 56 RX6 yX6_year wsX6_year) := goodIn_app (goodIn_of _ (by decide +kernel)) ggX6_statement_X6_year
set_option maxRecDepth 20000 in
theorem ggX6_statement_X6_isDay : GoodIn wsX6_statement wsX6_isDay := goodIn_r _ [134, 130, 123, 124, 17, 125, 139, 140, 141, 142, 143, 144, 145, 146, 147, 148, 149, 150, 151, 152, 153, 154, 155, 156, 157, 158, 159, 160, 161, 162] (by decide +kernel) (by decide +kernel)
set_option maxRecDepth 20000 in
theorem gX6_statement_X6_isDay : GoodIn wsX6_statement (wsV RX6 117 RX6 yX6_isDay wsX6_isDay) := goodIn_app (goodIn_of _ (by decide +kernel)) ggX6_statement_X6_isDay
set_option maxRecDepth 20000 in
theorem ggX6_statement_X6_isThing : GoodIn wsX6_statement wsX6_isThing := goodIn_r _ [138, 5, 123, 124, 17, 125, 139, 140, 141, 142, 143, 144, 145, 146, 147, 148, 149, 150, 151, 152, 153, 154, 155, 156, 157, 158, 159, 160, 161, 162] (by decide +kernel) (by decide +kernel)
set_option maxRecDepth 20000 in
theorem gX6_statement_X6_isThing : GoodIn wsX6_statement (wsV RX6 120 RX6 yX6_isThing wsX6_isThing) := goodIn_app (goodIn_of _ (by decide +kernel)) ggX6_statement_X6_isThing
theorem dX6_statement_0 : decode cX6_statement 0 = .ok (.aload_n 0, 1) := by decide +kernel
theorem dX6_statement_1 : decode cX6_statement 1 = .ok (.bipush 116, 2) := by decide +kernel
theorem dX6_statement_3 : decode cX6_statement 3 = .ok (.invokevirtual 104, 3) := by decide +kernel
theorem dX6_statement_6 : decode cX6_statement 6 = .ok (.ifCond .eq 168, 3) := by decide +kernel
theorem dX6_statement_9 : decode cX6_statement 9 = .ok (.aload_n 0, 1) := by decide +kernel
theorem dX6_statement_10 : decode cX6_statement 10 = .ok (.getfield 84, 3) := by decide +kernel
theorem dX6_statement_13 : decode cX6_statement 13 = .ok (.aload_n 0, 1) := by decide +kernel
theorem dX6_statement_14 : decode cX6_statement 14 = .ok (.getfield 81, 3) := by decide +kernel
theorem dX6_statement_17 : decode cX6_statement 17 = .ok (.if_icmp .ge 18, 3) := by decide +kernel
theorem dX6_statement_20 : decode cX6_statement 20 = .ok (.aload_n 0, 1) := by decide +kernel
theorem dX6_statement_21 : decode cX6_statement 21 = .ok (.getfield 28, 3) := by decide +kernel
theorem dX6_statement_24 : decode cX6_statement 24 = .ok (.aload_n 0, 1) := by decide +kernel
theorem dX6_statement_25 : decode cX6_statement 25 = .ok (.getfield 84, 3) := by decide +kernel
theorem dX6_statement_28 : decode cX6_statement 28 = .ok (.iaload, 1) := by decide +kernel
theorem dX6_statement_29 : decode cX6_statement 29 = .ok (.invokestatic 108, 3) := by decide +kernel
theorem dX6_statement_32 : decode cX6_statement 32 = .ok (.goto 4, 3) := by decide +kernel
theorem dX6_statement_35 : decode cX6_statement 35 = .ok (.iconst (-1), 1) := by decide +kernel
theorem dX6_statement_36 : decode cX6_statement 36 = .ok (.istore_n 2, 1) := by decide +kernel
theorem dX6_statement_37 : decode cX6_statement 37 = .ok (.iload_n 2, 1) := by decide +kernel
theorem dX6_statement_38 : decode cX6_statement 38 = .ok (.ifCond .ge 5, 3) := by decide +kernel
theorem dX6_statement_41 : decode cX6_statement 41 = .ok (.iconst (-1), 1) := by decide +kernel
theorem dX6_statement_42 : decode cX6_statement 42 = .ok (.ireturn, 1) := by decide +kernel
theorem dX6_statement_43 : decode cX6_statement 43 = .ok (.aload_n 0, 1) := by decide +kernel
theorem dX6_statement_44 : decode cX6_statement 44 = .ok (.dup, 1) := by decide +kernel
theorem dX6_statement_45 : decode cX6_statement 45 = .ok (.getfield 84, 3) := by decide +kernel
theorem dX6_statement_48 : decode cX6_statement 48 = .ok (.iconst 1, 1) := by decide +kernel
theorem dX6_statement_49 : decode cX6_statement 49 = .ok (.iadd, 1) := by decide +kernel
theorem dX6_statement_50 : decode cX6_statement 50 = .ok (.putfield 84, 3) := by decide +kernel
theorem dX6_statement_53 : decode cX6_statement 53 = .ok (.aload_n 0, 1) := by decide +kernel
theorem dX6_statement_54 : decode cX6_statement 54 = .ok (.invokevirtual 94, 3) := by decide +kernel
theorem dX6_statement_57 : decode cX6_statement 57 = .ok (.ifCond .ne 5, 3) := by decide +kernel
theorem dX6_statement_60 : decode cX6_statement 60 = .ok (.iconst (-1), 1) := by decide +kernel
theorem dX6_statement_61 : decode cX6_statement 61 = .ok (.ireturn, 1) := by decide +kernel
theorem dX6_statement_62 : decode cX6_statement 62 = .ok (.aload_n 0, 1) := by decide +kernel
theorem dX6_statement_63 : decode cX6_statement 63 = .ok (.getfield 91, 3) := by decide +kernel
theorem dX6_statement_66 : decode cX6_statement 66 = .ok (.istore_n 3, 1) := by decide +kernel
theorem dX6_statement_67 : decode cX6_statement 67 = .ok (.aload_n 0, 1) := by decide +kernel
theorem dX6_statement_68 : decode cX6_statement 68 = .ok (.invokevirtual 94, 3) := by decide +kernel
theorem dX6_statement_71 : decode cX6_statement 71 = .ok (.ifCond .ne 5, 3) := by decide +kernel
theorem dX6_statement_74 : decode cX6_statement 74 = .ok (.iconst (-1), 1) := by decide +kernel
theorem dX6_statement_75 : decode cX6_statement 75 = .ok (.ireturn, 1) := by decide +kernel
theorem dX6_statement_76 : decode cX6_statement 76 = .ok (.aload_n 0, 1) := by decide +kernel
theorem dX6_statement_77 : decode cX6_statement 77 = .ok (.getfield 91, 3) := by decide +kernel
theorem dX6_statement_80 : decode cX6_statement 80 = .ok (.istore 4, 2) := by decide +kernel
theorem dX6_statement_82 : decode cX6_statement 82 = .ok (.aload_n 0, 1) := by decide +kernel
theorem dX6_statement_83 : decode cX6_statement 83 = .ok (.invokevirtual 94, 3) := by decide +kernel
theorem dX6_statement_86 : decode cX6_statement 86 = .ok (.ifCond .ne 5, 3) := by decide +kernel
theorem dX6_statement_89 : decode cX6_statement 89 = .ok (.iconst (-1), 1) := by decide +kernel
theorem dX6_statement_90 : decode cX6_statement 90 = .ok (.ireturn, 1) := by decide +kernel
theorem dX6_statement_91 : decode cX6_statement 91 = .ok (.iload_n 1, 1) := by decide +kernel
theorem dX6_statement_92 : decode cX6_statement 92 = .ok (.ifCond .ne 5, 3) := by decide +kernel
theorem dX6_statement_95 : decode cX6_statement 95 = .ok (.iconst 1, 1) := by decide +kernel
theorem dX6_statement_96 : decode cX6_statement 96 = .ok (.ireturn, 1) := by decide +kernel
theorem dX6_statement_97 : decode cX6_statement 97 = .ok (.iload 4, 2) := by decide +kernel
theorem dX6_statement_99 : decode cX6_statement 99 = .ok (.iconst 3, 1) := by decide +kernel
theorem dX6_statement_100 : decode cX6_statement 100 = .ok (.if_icmp .gt 19, 3) := by decide +kernel
theorem dX6_statement_103 : decode cX6_statement 103 = .ok (.aload_n 0, 1) := by decide +kernel
theorem dX6_statement_104 : decode cX6_statement 104 = .ok (.getfield 91, 3) := by decide +kernel
theorem dX6_statement_107 : decode cX6_statement 107 = .ok (.iconst 3, 1) := by decide +kernel
theorem dX6_statement_108 : decode cX6_statement 108 = .ok (.if_icmp .gt 11, 3) := by decide +kernel
theorem dX6_statement_111 : decode cX6_statement 111 = .ok (.aload_n 0, 1) := by decide +kernel
theorem dX6_statement_112 : decode cX6_statement 112 = .ok (.getfield 71, 3) := by decide +kernel
theorem dX6_statement_115 : decode cX6_statement 115 = .ok (.iconst 4, 1) := by decide +kernel
theorem dX6_statement_116 : decode cX6_statement 116 = .ok (.if_icmp .ne 5, 3) := by decide +kernel
theorem dX6_statement_119 : decode cX6_statement 119 = .ok (.iconst 0, 1) := by decide +kernel
theorem dX6_statement_120 : decode cX6_statement 120 = .ok (.ireturn, 1) := by decide +kernel
theorem dX6_statement_121 : decode cX6_statement 121 = .ok (.aload_n 0, 1) := by decide +kernel
theorem dX6_statement_122 : decode cX6_statement 122 = .ok (.getfield 7, 3) := by decide +kernel
theorem dX6_statement_125 : decode cX6_statement 125 = .ok (.aload_n 0, 1) := by decide +kernel
theorem dX6_statement_126 : decode cX6_statement 126 = .ok (.getfield 71, 3) := by decide +kernel
theorem dX6_statement_129 : decode cX6_statement 129 = .ok (.iload_n 2, 1) := by decide +kernel
theorem dX6_statement_130 : decode cX6_statement 130 = .ok (.iastore, 1) := by decide +kernel
theorem dX6_statement_131 : decode cX6_statement 131 = .ok (.aload_n 0, 1) := by decide +kernel
theorem dX6_statement_132 : decode cX6_statement 132 = .ok (.getfield 13, 3) := by decide +kernel
theorem dX6_statement_135 : decode cX6_statement 135 = .ok (.aload_n 0, 1) := by decide +kernel
theorem dX6_statement_136 : decode cX6_statement 136 = .ok (.getfield 71, 3) := by decide +kernel
theorem dX6_statement_139 : decode cX6_statement 139 = .ok (.iload_n 3, 1) := by decide +kernel
theorem dX6_statement_140 : decode cX6_statement 140 = .ok (.iastore, 1) := by decide +kernel
theorem dX6_statement_141 : decode cX6_statement 141 = .ok (.aload_n 0, 1) := by decide +kernel
theorem dX6_statement_142 : decode cX6_statement 142 = .ok (.getfield 16, 3) := by decide +kernel
theorem dX6_statement_145 : decode cX6_statement 145 = .ok (.aload_n 0, 1) := by decide +kernel
theorem dX6_statement_146 : decode cX6_statement 146 = .ok (.getfield 71, 3) := by decide +kernel
theorem dX6_statement_149 : decode cX6_statement 149 = .ok (.iload 4, 2) := by decide +kernel
theorem dX6_statement_151 : decode cX6_statement 151 = .ok (.iastore, 1) := by decide +kernel
theorem dX6_statement_152 : decode cX6_statement 152 = .ok (.aload_n 0, 1) := by decide +kernel
theorem dX6_statement_153 : decode cX6_statement 153 = .ok (.getfield 19, 3) := by decide +kernel
theorem dX6_statement_156 : decode cX6_statement 156 = .ok (.aload_n 0, 1) := by decide +kernel
theorem dX6_statement_157 : decode cX6_statement 157 = .ok (.dup, 1) := by decide +kernel
theorem dX6_statement_158 : decode cX6_statement 158 = .ok (.getfield 71, 3) := by decide +kernel
theorem dX6_statement_161 : decode cX6_statement 161 = .ok (.dup_x1, 1) := by decide +kernel
theorem dX6_statement_162 : decode cX6_statement 162 = .ok (.iconst 1, 1) := by decide +kernel
theorem dX6_statement_163 : decode cX6_statement 163 = .ok (.iadd, 1) := by decide +kernel
theorem dX6_statement_164 : decode cX6_statement 164 = .ok (.putfield 71, 3) := by decide +kernel
theorem dX6_statement_167 : decode cX6_statement 167 = .ok (.aload_n 0, 1) := by decide +kernel
theorem dX6_statement_168 : decode cX6_statement 168 = .ok (.getfield 91, 3) := by decide +kernel
theorem dX6_statement_171 : decode cX6_statement 171 = .ok (.iastore, 1) := by decide +kernel
theorem dX6_statement_172 : decode cX6_statement 172 = .ok (.iconst 1, 1) := by decide +kernel
theorem dX6_statement_173 : decode cX6_statement 173 = .ok (.ireturn, 1) := by decide +kernel
theorem dX6_statement_174 : decode cX6_statement 174 = .ok (.aload_n 0, 1) := by decide +kernel
theorem dX6_statement_175 : decode cX6_statement 175 = .ok (.bipush 121, 2) := by decide +kernel
theorem dX6_statement_177 : decode cX6_statement 177 = .ok (.invokevirtual 104, 3) := by decide +kernel
theorem dX6_statement_180 : decode cX6_statement 180 = .ok (.ifCond .eq 43, 3) := by decide +kernel
theorem dX6_statement_183 : decode cX6_statement 183 = .ok (.aload_n 0, 1) := by decide +kernel
theorem dX6_statement_184 : decode cX6_statement 184 = .ok (.invokevirtual 111, 3) := by decide +kernel
theorem dX6_statement_187 : decode cX6_statement 187 = .ok (.ifCond .ne 5, 3) := by decide +kernel
theorem dX6_statement_190 : decode cX6_statement 190 = .ok (.iconst (-1), 1) := by decide +kernel
theorem dX6_statement_191 : decode cX6_statement 191 = .ok (.ireturn, 1) := by decide +kernel
theorem dX6_statement_192 : decode cX6_statement 192 = .ok (.iload_n 1, 1) := by decide +kernel
theorem dX6_statement_193 : decode cX6_statement 193 = .ok (.ifCond .ne 5, 3) := by decide +kernel
theorem dX6_statement_196 : decode cX6_statement 196 = .ok (.iconst 1, 1) := by decide +kernel
theorem dX6_statement_197 : decode cX6_statement 197 = .ok (.ireturn, 1) := by decide +kernel
theorem dX6_statement_198 : decode cX6_statement 198 = .ok (.aload_n 0, 1) := by decide +kernel
theorem dX6_statement_199 : decode cX6_statement 199 = .ok (.getfield 91, 3) := by decide +kernel
theorem dX6_statement_202 : decode cX6_statement 202 = .ok (.iconst 1, 1) := by decide +kernel
theorem dX6_statement_203 : decode cX6_statement 203 = .ok (.bipush 20, 2) := by decide +kernel
theorem dX6_statement_205 : decode cX6_statement 205 = .ok (.invokestatic 74, 3) := by decide +kernel
theorem dX6_statement_208 : decode cX6_statement 208 = .ok (.ifCond .ne 5, 3) := by decide +kernel
theorem dX6_statement_211 : decode cX6_statement 211 = .ok (.iconst 0, 1) := by decide +kernel
theorem dX6_statement_212 : decode cX6_statement 212 = .ok (.ireturn, 1) := by decide +kernel
theorem dX6_statement_213 : decode cX6_statement 213 = .ok (.aload_n 0, 1) := by decide +kernel
theorem dX6_statement_214 : decode cX6_statement 214 = .ok (.aload_n 0, 1) := by decide +kernel
theorem dX6_statement_215 : decode cX6_statement 215 = .ok (.getfield 91, 3) := by decide +kernel
theorem dX6_statement_218 : decode cX6_statement 218 = .ok (.invokevirtual 56, 3) := by decide +kernel
theorem dX6_statement_221 : decode cX6_statement 221 = .ok (.iconst 1, 1) := by decide +kernel
theorem dX6_statement_222 : decode cX6_statement 222 = .ok (.ireturn, 1) := by decide +kernel
theorem dX6_statement_223 : decode cX6_statement 223 = .ok (.aload_n 0, 1) := by decide +kernel
theorem dX6_statement_224 : decode cX6_statement 224 = .ok (.bipush 99, 2) := by decide +kernel
theorem dX6_statement_226 : decode cX6_statement 226 = .ok (.invokevirtual 104, 3) := by decide +kernel
theorem dX6_statement_229 : decode cX6_statement 229 = .ok (.ifCond .eq 26, 3) := by decide +kernel
theorem dX6_statement_232 : decode cX6_statement 232 = .ok (.aload_n 0, 1) := by decide +kernel
theorem dX6_statement_233 : decode cX6_statement 233 = .ok (.invokevirtual 94, 3) := by decide +kernel
theorem dX6_statement_236 : decode cX6_statement 236 = .ok (.ifCond .ne 5, 3) := by decide +kernel
theorem dX6_statement_239 : decode cX6_statement 239 = .ok (.iconst (-1), 1) := by decide +kernel
theorem dX6_statement_240 : decode cX6_statement 240 = .ok (.ireturn, 1) := by decide +kernel
theorem dX6_statement_241 : decode cX6_statement 241 = .ok (.iload_n 1, 1) := by decide +kernel
theorem dX6_statement_242 : decode cX6_statement 242 = .ok (.ifCond .eq 11, 3) := by decide +kernel
theorem dX6_statement_245 : decode cX6_statement 245 = .ok (.aload_n 0, 1) := by decide +kernel
theorem dX6_statement_246 : decode cX6_statement 246 = .ok (.aload_n 0, 1) := by decide +kernel
theorem dX6_statement_247 : decode cX6_statement 247 = .ok (.getfield 91, 3) := by decide +kernel
theorem dX6_statement_250 : decode cX6_statement 250 = .ok (.putfield 60, 3) := by decide +kernel
theorem dX6_statement_253 : decode cX6_statement 253 = .ok (.iconst 1, 1) := by decide +kernel
theorem dX6_statement_254 : decode cX6_statement 254 = .ok (.ireturn, 1) := by decide +kernel
theorem dX6_statement_255 : decode cX6_statement 255 = .ok (.aload_n 0, 1) := by decide +kernel
theorem dX6_statement_256 : decode cX6_statement 256 = .ok (.bipush 108, 2) := by decide +kernel
theorem dX6_statement_258 : decode cX6_statement 258 = .ok (.invokevirtual 104, 3) := by decide +kernel
theorem dX6_statement_261 : decode cX6_statement 261 = .ok (.ifCond .eq 38, 3) := by decide +kernel
theorem dX6_statement_264 : decode cX6_statement 264 = .ok (.aload_n 0, 1) := by decide +kernel
theorem dX6_statement_265 : decode cX6_statement 265 = .ok (.invokevirtual 94, 3) := by decide +kernel
theorem dX6_statement_268 : decode cX6_statement 268 = .ok (.ifCond .ne 5, 3) := by decide +kernel
theorem dX6_statement_271 : decode cX6_statement 271 = .ok (.iconst (-1), 1) := by decide +kernel
theorem dX6_statement_272 : decode cX6_statement 272 = .ok (.ireturn, 1) := by decide +kernel
theorem dX6_statement_273 : decode cX6_statement 273 = .ok (.iload_n 1, 1) := by decide +kernel
theorem dX6_statement_274 : decode cX6_statement 274 = .ok (.ifCond .ne 5, 3) := by decide +kernel
theorem dX6_statement_277 : decode cX6_statement 277 = .ok (.iconst 1, 1) := by decide +kernel
theorem dX6_statement_278 : decode cX6_statement 278 = .ok (.ireturn, 1) := by decide +kernel
theorem dX6_statement_279 : decode cX6_statement 279 = .ok (.aload_n 0, 1) := by decide +kernel
theorem dX6_statement_280 : decode cX6_statement 280 = .ok (.getfield 91, 3) := by decide +kernel
theorem dX6_statement_283 : decode cX6_statement 283 = .ok (.iconst 5, 1) := by decide +kernel
theorem dX6_statement_284 : decode cX6_statement 284 = .ok (.if_icmp .le 5, 3) := by decide +kernel
theorem dX6_statement_287 : decode cX6_statement 287 = .ok (.iconst 0, 1) := by decide +kernel
theorem dX6_statement_288 : decode cX6_statement 288 = .ok (.ireturn, 1) := by decide +kernel
theorem dX6_statement_289 : decode cX6_statement 289 = .ok (.aload_n 0, 1) := by decide +kernel
theorem dX6_statement_290 : decode cX6_statement 290 = .ok (.aload_n 0, 1) := by decide +kernel
theorem dX6_statement_291 : decode cX6_statement 291 = .ok (.getfield 91, 3) := by decide +kernel
theorem dX6_statement_294 : decode cX6_statement 294 = .ok (.putfield 114, 3) := by decide +kernel
theorem dX6_statement_297 : decode cX6_statement 297 = .ok (.iconst 1, 1) := by decide +kernel
theorem dX6_statement_298 : decode cX6_statement 298 = .ok (.ireturn, 1) := by decide +kernel
theorem dX6_statement_299 : decode cX6_statement 299 = .ok (.aload_n 0, 1) := by decide +kernel
theorem dX6_statement_300 : decode cX6_statement 300 = .ok (.bipush 98, 2) := by decide +kernel
theorem dX6_statement_302 : decode cX6_statement 302 = .ok (.invokevirtual 104, 3) := by decide +kernel
theorem dX6_statement_305 : decode cX6_statement 305 = .ok (.istore_n 2, 1) := by decide +kernel
theorem dX6_statement_306 : decode cX6_statement 306 = .ok (.iload_n 2, 1) := by decide +kernel
theorem dX6_statement_307 : decode cX6_statement 307 = .ok (.ifCond .ne 14, 3) := by decide +kernel
theorem dX6_statement_310 : decode cX6_statement 310 = .ok (.aload_n 0, 1) := by decide +kernel
theorem dX6_statement_311 : decode cX6_statement 311 = .ok (.bipush 100, 2) := by decide +kernel
theorem dX6_statement_313 : decode cX6_statement 313 = .ok (.invokevirtual 104, 3) := by decide +kernel
theorem dX6_statement_316 : decode cX6_statement 316 = .ok (.ifCond .ne 5, 3) := by decide +kernel
theorem dX6_statement_319 : decode cX6_statement 319 = .ok (.iconst (-1), 1) := by decide +kernel
theorem dX6_statement_320 : decode cX6_statement 320 = .ok (.ireturn, 1) := by decide +kernel
theorem dX6_statement_321 : decode cX6_statement 321 = .ok (.aload_n 0, 1) := by decide +kernel
theorem dX6_statement_322 : decode cX6_statement 322 = .ok (.invokevirtual 111, 3) := by decide +kernel
theorem dX6_statement_325 : decode cX6_statement 325 = .ok (.ifCond .ne 5, 3) := by decide +kernel
theorem dX6_statement_328 : decode cX6_statement 328 = .ok (.iconst (-1), 1) := by decide +kernel
theorem dX6_statement_329 : decode cX6_statement 329 = .ok (.ireturn, 1) := by decide +kernel
theorem dX6_statement_330 : decode cX6_statement 330 = .ok (.aload_n 0, 1) := by decide +kernel
theorem dX6_statement_331 : decode cX6_statement 331 = .ok (.getfield 91, 3) := by decide +kernel
theorem dX6_statement_334 : decode cX6_statement 334 = .ok (.istore_n 3, 1) := by decide +kernel
theorem dX6_statement_335 : decode cX6_statement 335 = .ok (.aload_n 0, 1) := by decide +kernel
theorem dX6_statement_336 : decode cX6_statement 336 = .ok (.bipush 44, 2) := by decide +kernel
theorem dX6_statement_338 : decode cX6_statement 338 = .ok (.invokevirtual 104, 3) := by decide +kernel
theorem dX6_statement_341 : decode cX6_statement 341 = .ok (.ifCond .eq 10, 3) := by decide +kernel
theorem dX6_statement_344 : decode cX6_statement 344 = .ok (.aload_n 0, 1) := by decide +kernel
theorem dX6_statement_345 : decode cX6_statement 345 = .ok (.invokevirtual 94, 3) := by decide +kernel
theorem dX6_statement_348 : decode cX6_statement 348 = .ok (.ifCond .ne 5, 3) := by decide +kernel
theorem dX6_statement_351 : decode cX6_statement 351 = .ok (.iconst (-1), 1) := by decide +kernel
theorem dX6_statement_352 : decode cX6_statement 352 = .ok (.ireturn, 1) := by decide +kernel
theorem dX6_statement_353 : decode cX6_statement 353 = .ok (.iload_n 1, 1) := by decide +kernel
theorem dX6_statement_354 : decode cX6_statement 354 = .ok (.ifCond .ne 5, 3) := by decide +kernel
theorem dX6_statement_357 : decode cX6_statement 357 = .ok (.iconst 1, 1) := by decide +kernel
theorem dX6_statement_358 : decode cX6_statement 358 = .ok (.ireturn, 1) := by decide +kernel
theorem dX6_statement_359 : decode cX6_statement 359 = .ok (.aload_n 0, 1) := by decide +kernel
theorem dX6_statement_360 : decode cX6_statement 360 = .ok (.iload_n 3, 1) := by decide +kernel
theorem dX6_statement_361 : decode cX6_statement 361 = .ok (.invokevirtual 117, 3) := by decide +kernel
theorem dX6_statement_364 : decode cX6_statement 364 = .ok (.ifCond .ne 5, 3) := by decide +kernel
theorem dX6_statement_367 : decode cX6_statement 367 = .ok (.iconst 0, 1) := by decide +kernel
theorem dX6_statement_368 : decode cX6_statement 368 = .ok (.ireturn, 1) := by decide +kernel
theorem dX6_statement_369 : decode cX6_statement 369 = .ok (.iload_n 2, 1) := by decide +kernel
theorem dX6_statement_370 : decode cX6_statement 370 = .ok (.ifCond .eq 22, 3) := by decide +kernel
theorem dX6_statement_373 : decode cX6_statement 373 = .ok (.aload_n 0, 1) := by decide +kernel
theorem dX6_statement_374 : decode cX6_statement 374 = .ok (.getfield 91, 3) := by decide +kernel
theorem dX6_statement_377 : decode cX6_statement 377 = .ok (.bipush 9, 2) := by decide +kernel
theorem dX6_statement_379 : decode cX6_statement 379 = .ok (.if_icmp .ne 13, 3) := by decide +kernel
theorem dX6_statement_382 : decode cX6_statement 382 = .ok (.aload_n 0, 1) := by decide +kernel
theorem dX6_statement_383 : decode cX6_statement 383 = .ok (.getfield 25, 3) := by decide +kernel
theorem dX6_statement_386 : decode cX6_statement 386 = .ok (.iload_n 3, 1) := by decide +kernel
theorem dX6_statement_387 : decode cX6_statement 387 = .ok (.bipush (-9), 2) := by decide +kernel
theorem dX6_statement_389 : decode cX6_statement 389 = .ok (.iastore, 1) := by decide +kernel
theorem dX6_statement_390 : decode cX6_statement 390 = .ok (.iconst 1, 1) := by decide +kernel
theorem dX6_statement_391 : decode cX6_statement 391 = .ok (.ireturn, 1) := by decide +kernel
theorem dX6_statement_392 : decode cX6_statement 392 = .ok (.aload_n 0, 1) := by decide +kernel
theorem dX6_statement_393 : decode cX6_statement 393 = .ok (.aload_n 0, 1) := by decide +kernel
theorem dX6_statement_394 : decode cX6_statement 394 = .ok (.getfield 91, 3) := by decide +kernel
theorem dX6_statement_397 : decode cX6_statement 397 = .ok (.invokevirtual 120, 3) := by decide +kernel
theorem dX6_statement_400 : decode cX6_statement 400 = .ok (.ifCond .eq 31, 3) := by decide +kernel
theorem dX6_statement_403 : decode cX6_statement 403 = .ok (.iload_n 2, 1) := by decide +kernel
theorem dX6_statement_404 : decode cX6_statement 404 = .ok (.ifCond .ne 29, 3) := by decide +kernel
theorem dX6_statement_407 : decode cX6_statement 407 = .ok (.aload_n 0, 1) := by decide +kernel
theorem dX6_statement_408 : decode cX6_statement 408 = .ok (.getfield 25, 3) := by decide +kernel
theorem dX6_statement_411 : decode cX6_statement 411 = .ok (.iload_n 3, 1) := by decide +kernel
theorem dX6_statement_412 : decode cX6_statement 412 = .ok (.iaload, 1) := by decide +kernel
theorem dX6_statement_413 : decode cX6_statement 413 = .ok (.bipush (-9), 2) := by decide +kernel
theorem dX6_statement_415 : decode cX6_statement 415 = .ok (.if_icmp .eq 18, 3) := by decide +kernel
theorem dX6_statement_418 : decode cX6_statement 418 = .ok (.aload_n 0, 1) := by decide +kernel
theorem dX6_statement_419 : decode cX6_statement 419 = .ok (.getfield 25, 3) := by decide +kernel
theorem dX6_statement_422 : decode cX6_statement 422 = .ok (.iload_n 3, 1) := by decide +kernel
theorem dX6_statement_423 : decode cX6_statement 423 = .ok (.iaload, 1) := by decide +kernel
theorem dX6_statement_424 : decode cX6_statement 424 = .ok (.aload_n 0, 1) := by decide +kernel
theorem dX6_statement_425 : decode cX6_statement 425 = .ok (.getfield 91, 3) := by decide +kernel
theorem dX6_statement_428 : decode cX6_statement 428 = .ok (.if_icmp .eq 5, 3) := by decide +kernel
theorem dX6_statement_431 : decode cX6_statement 431 = .ok (.iconst 0, 1) := by decide +kernel
theorem dX6_statement_432 : decode cX6_statement 432 = .ok (.ireturn, 1) := by decide +kernel
theorem dX6_statement_433 : decode cX6_statement 433 = .ok (.iload_n 2, 1) := by decide +kernel
theorem dX6_statement_434 : decode cX6_statement 434 = .ok (.ifCond .eq 13, 3) := by decide +kernel
theorem dX6_statement_437 : decode cX6_statement 437 = .ok (.aload_n 0, 1) := by decide +kernel
theorem dX6_statement_438 : decode cX6_statement 438 = .ok (.getfield 25, 3) := by decide +kernel
theorem dX6_statement_441 : decode cX6_statement 441 = .ok (.iload_n 3, 1) := by decide +kernel
theorem dX6_statement_442 : decode cX6_statement 442 = .ok (.aload_n 0, 1) := by decide +kernel
theorem dX6_statement_443 : decode cX6_statement 443 = .ok (.getfield 91, 3) := by decide +kernel
theorem dX6_statement_446 : decode cX6_statement 446 = .ok (.iastore, 1) := by decide +kernel
theorem dX6_statement_447 : decode cX6_statement 447 = .ok (.aload_n 0, 1) := by decide +kernel
theorem dX6_statement_448 : decode cX6_statement 448 = .ok (.getfield 22, 3) := by decide +kernel
theorem dX6_statement_451 : decode cX6_statement 451 = .ok (.iload_n 3, 1) := by decide +kernel
theorem dX6_statement_452 : decode cX6_statement 452 = .ok (.aload_n 0, 1) := by decide +kernel
theorem dX6_statement_453 : decode cX6_statement 453 = .ok (.getfield 91, 3) := by decide +kernel
theorem dX6_statement_456 : decode cX6_statement 456 = .ok (.iastore, 1) := by decide +kernel
theorem dX6_statement_457 : decode cX6_statement 457 = .ok (.iconst 1, 1) := by decide +kernel
theorem dX6_statement_458 : decode cX6_statement 458 = .ok (.ireturn, 1) := by decide +kernel
