theorem dX6_upTo_0 : decode cX6_upTo 0 = .ok (.bipush 22, 2) := by decide +kernel
theorem dX6_upTo_2 : decode cX6_upTo 2 = .ok (.newarray .long, 2) := by decide +kernel
theorem dX6_upTo_4 : decode cX6_upTo 4 = .ok (.astore_n 3, 1) := by decide +kernel
theorem dX6_upTo_5 : decode cX6_upTo 5 = .ok (.iconst 1, 1) := by decide +kernel
theorem dX6_upTo_6 : decode cX6_upTo 6 = .ok (.istore 4, 2) := by decide +kernel
theorem dX6_upTo_8 : decode cX6_upTo 8 = .ok (.iload 4, 2) := by decide +kernel
theorem dX6_upTo_10 : decode cX6_upTo 10 = .ok (.iload_n 0, 1) := by decide +kernel
theorem dX6_upTo_11 : decode cX6_upTo 11 = .ok (.if_icmp .gt 72, 3) := by decide +kernel
theorem dX6_upTo_14 : decode cX6_upTo 14 = .ok (.iload 4, 2) := by decide +kernel
theorem dX6_upTo_16 : decode cX6_upTo 16 = .ok (.iconst 1, 1) := by decide +kernel
theorem dX6_upTo_17 : decode cX6_upTo 17 = .ok (.if_icmp .ne 12, 3) := by decide +kernel
theorem dX6_upTo_20 : decode cX6_upTo 20 = .ok (.aload_n 3, 1) := by decide +kernel
theorem dX6_upTo_21 : decode cX6_upTo 21 = .ok (.iload 4, 2) := by decide +kernel
theorem dX6_upTo_23 : decode cX6_upTo 23 = .ok (.iload_n 1, 1) := by decide +kernel
theorem dX6_upTo_24 : decode cX6_upTo 24 = .ok (.i2l, 1) := by decide +kernel
theorem dX6_upTo_25 : decode cX6_upTo 25 = .ok (.lastore, 1) := by decide +kernel
theorem dX6_upTo_26 : decode cX6_upTo 26 = .ok (.goto 51, 3) := by decide +kernel
theorem dX6_upTo_29 : decode cX6_upTo 29 = .ok (.lconst 0, 1) := by decide +kernel
theorem dX6_upTo_30 : decode cX6_upTo 30 = .ok (.lstore 5, 2) := by decide +kernel
theorem dX6_upTo_32 : decode cX6_upTo 32 = .ok (.iconst 1, 1) := by decide +kernel
theorem dX6_upTo_33 : decode cX6_upTo 33 = .ok (.istore 7, 2) := by decide +kernel
theorem dX6_upTo_35 : decode cX6_upTo 35 = .ok (.iload 7, 2) := by decide +kernel
theorem dX6_upTo_37 : decode cX6_upTo 37 = .ok (.iload_n 2, 1) := by decide +kernel
theorem dX6_upTo_38 : decode cX6_upTo 38 = .ok (.if_icmp .gt 28, 3) := by decide +kernel
theorem dX6_upTo_41 : decode cX6_upTo 41 = .ok (.iload 7, 2) := by decide +kernel
theorem dX6_upTo_43 : decode cX6_upTo 43 = .ok (.iload 4, 2) := by decide +kernel
theorem dX6_upTo_45 : decode cX6_upTo 45 = .ok (.if_icmp .ge 21, 3) := by decide +kernel
theorem dX6_upTo_48 : decode cX6_upTo 48 = .ok (.lload 5, 2) := by decide +kernel
theorem dX6_upTo_50 : decode cX6_upTo 50 = .ok (.aload_n 3, 1) := by decide +kernel
theorem dX6_upTo_51 : decode cX6_upTo 51 = .ok (.iload 4, 2) := by decide +kernel
theorem dX6_upTo_53 : decode cX6_upTo 53 = .ok (.iload 7, 2) := by decide +kernel
theorem dX6_upTo_55 : decode cX6_upTo 55 = .ok (.isub, 1) := by decide +kernel
theorem dX6_upTo_56 : decode cX6_upTo 56 = .ok (.laload, 1) := by decide +kernel
theorem dX6_upTo_57 : decode cX6_upTo 57 = .ok (.ladd, 1) := by decide +kernel
theorem dX6_upTo_58 : decode cX6_upTo 58 = .ok (.lstore 5, 2) := by decide +kernel
theorem dX6_upTo_60 : decode cX6_upTo 60 = .ok (.iinc 7 1, 3) := by decide +kernel
theorem dX6_upTo_63 : decode cX6_upTo 63 = .ok (.goto (-28), 3) := by decide +kernel
theorem dX6_upTo_66 : decode cX6_upTo 66 = .ok (.aload_n 3, 1) := by decide +kernel
theorem dX6_upTo_67 : decode cX6_upTo 67 = .ok (.iload 4, 2) := by decide +kernel
theorem dX6_upTo_69 : decode cX6_upTo 69 = .ok (.lload 5, 2) := by decide +kernel
theorem dX6_upTo_71 : decode cX6_upTo 71 = .ok (.iload_n 1, 1) := by decide +kernel
theorem dX6_upTo_72 : decode cX6_upTo 72 = .ok (.iconst 1, 1) := by decide +kernel
theorem dX6_upTo_73 : decode cX6_upTo 73 = .ok (.isub, 1) := by decide +kernel
theorem dX6_upTo_74 : decode cX6_upTo 74 = .ok (.i2l, 1) := by decide +kernel
theorem dX6_upTo_75 : decode cX6_upTo 75 = .ok (.lmul, 1) := by decide +kernel
theorem dX6_upTo_76 : decode cX6_upTo 76 = .ok (.lastore, 1) := by decide +kernel
theorem dX6_upTo_77 : decode cX6_upTo 77 = .ok (.iinc 4 1, 3) := by decide +kernel
theorem dX6_upTo_80 : decode cX6_upTo 80 = .ok (.goto (-72), 3) := by decide +kernel
theorem dX6_upTo_83 : decode cX6_upTo 83 = .ok (.lconst 0, 1) := by decide +kernel
theorem dX6_upTo_84 : decode cX6_upTo 84 = .ok (.lstore 4, 2) := by decide +kernel
theorem dX6_upTo_86 : decode cX6_upTo 86 = .ok (.iconst 1, 1) := by decide +kernel
theorem dX6_upTo_87 : decode cX6_upTo 87 = .ok (.istore 6, 2) := by decide +kernel
theorem dX6_upTo_89 : decode cX6_upTo 89 = .ok (.iload 6, 2) := by decide +kernel
theorem dX6_upTo_91 : decode cX6_upTo 91 = .ok (.iload_n 2, 1) := by decide +kernel
theorem dX6_upTo_92 : decode cX6_upTo 92 = .ok (.if_icmp .gt 28, 3) := by decide +kernel
theorem dX6_upTo_95 : decode cX6_upTo 95 = .ok (.iload 6, 2) := by decide +kernel
theorem dX6_upTo_97 : decode cX6_upTo 97 = .ok (.iload_n 0, 1) := by decide +kernel
theorem dX6_upTo_98 : decode cX6_upTo 98 = .ok (.if_icmp .gt 22, 3) := by decide +kernel
theorem dX6_upTo_101 : decode cX6_upTo 101 = .ok (.lload 4, 2) := by decide +kernel
theorem dX6_upTo_103 : decode cX6_upTo 103 = .ok (.aload_n 3, 1) := by decide +kernel
theorem dX6_upTo_104 : decode cX6_upTo 104 = .ok (.iload_n 0, 1) := by decide +kernel
theorem dX6_upTo_105 : decode cX6_upTo 105 = .ok (.iload 6, 2) := by decide +kernel
theorem dX6_upTo_107 : decode cX6_upTo 107 = .ok (.isub, 1) := by decide +kernel
theorem dX6_upTo_108 : decode cX6_upTo 108 = .ok (.iconst 1, 1) := by decide +kernel
theorem dX6_upTo_109 : decode cX6_upTo 109 = .ok (.iadd, 1) := by decide +kernel
theorem dX6_upTo_110 : decode cX6_upTo 110 = .ok (.laload, 1) := by decide +kernel
theorem dX6_upTo_111 : decode cX6_upTo 111 = .ok (.ladd, 1) := by decide +kernel
theorem dX6_upTo_112 : decode cX6_upTo 112 = .ok (.lstore 4, 2) := by decide +kernel
theorem dX6_upTo_114 : decode cX6_upTo 114 = .ok (.iinc 6 1, 3) := by decide +kernel
theorem dX6_upTo_117 : decode cX6_upTo 117 = .ok (.goto (-28), 3) := by decide +kernel
theorem dX6_upTo_120 : decode cX6_upTo 120 = .ok (.lload 4, 2) := by decide +kernel
theorem dX6_upTo_122 : decode cX6_upTo 122 = .ok (.lreturn, 1) := by decide +kernel
set_option maxRecDepth 20000 in
theorem ggX6_years_X6_noLong : GoodIn wsX6_years wsX6_noLong := goodIn_r _ [5, 6, 7, 8, 9, 4, 10, 11, 16, 17, 18, 19, 20, 21, 22, 23, 24, 25, 26, 27, 28, 29, 30, 31, 32, 33, 34, 35, 36, 37, 38, 39] (by decide +kernel) (by decide +kernel)
set_option maxRecDepth 20000 in
theorem gX6_years_X6_noLong : GoodIn wsX6_years (wsV RX6 181 RX6 yX6_noLong wsX6_noLong) := goodIn_app (goodIn_of _ (by decide +kernel)) ggX6_years_X6_noLong
set_option maxRecDepth 20000 in
theorem ggX6_years_X6_upTo : GoodIn wsX6_years wsX6_upTo := goodIn_r _ [14, 15] (by decide +kernel) (by decide +kernel)
set_option maxRecDepth 20000 in
theorem gX6_years_X6_upTo : GoodIn wsX6_years (va_wsS RX6 185 yX6_upTo wsX6_upTo) := goodIn_app (goodIn_of _ (by decide +kernel)) ggX6_years_X6_upTo
theorem dX6_years_0 : decode cX6_years 0 = .ok (.iload_n 1, 1) := by decide +kernel
theorem dX6_years_1 : decode cX6_years 1 = .ok (.iconst 1, 1) := by decide +kernel
theorem dX6_years_2 : decode cX6_years 2 = .ok (.if_icmp .lt 13, 3) := by decide +kernel
theorem dX6_years_5 : decode cX6_years 5 = .ok (.iload_n 2, 1) := by decide +kernel
theorem dX6_years_6 : decode cX6_years 6 = .ok (.iconst 1, 1) := by decide +kernel
theorem dX6_years_7 : decode cX6_years 7 = .ok (.if_icmp .lt 8, 3) := by decide +kernel
theorem dX6_years_10 : decode cX6_years 10 = .ok (.iload_n 3, 1) := by decide +kernel
theorem dX6_years_11 : decode cX6_years 11 = .ok (.iconst 1, 1) := by decide +kernel
theorem dX6_years_12 : decode cX6_years 12 = .ok (.if_icmp .ge 10, 3) := by decide +kernel
theorem dX6_years_15 : decode cX6_years 15 = .ok (.aload_n 0, 1) := by decide +kernel
theorem dX6_years_16 : decode cX6_years 16 = .ok (.bipush (-4), 2) := by decide +kernel
theorem dX6_years_18 : decode cX6_years 18 = .ok (.invokevirtual 181, 3) := by decide +kernel
theorem dX6_years_21 : decode cX6_years 21 = .ok (.lreturn, 1) := by decide +kernel
theorem dX6_years_22 : decode cX6_years 22 = .ok (.iload_n 1, 1) := by decide +kernel
theorem dX6_years_23 : decode cX6_years 23 = .ok (.bipush 20, 2) := by decide +kernel
theorem dX6_years_25 : decode cX6_years 25 = .ok (.if_icmp .gt 14, 3) := by decide +kernel
theorem dX6_years_28 : decode cX6_years 28 = .ok (.iload_n 2, 1) := by decide +kernel
theorem dX6_years_29 : decode cX6_years 29 = .ok (.iconst 4, 1) := by decide +kernel
theorem dX6_years_30 : decode cX6_years 30 = .ok (.if_icmp .gt 9, 3) := by decide +kernel
theorem dX6_years_33 : decode cX6_years 33 = .ok (.iload_n 3, 1) := by decide +kernel
theorem dX6_years_34 : decode cX6_years 34 = .ok (.bipush 20, 2) := by decide +kernel
theorem dX6_years_36 : decode cX6_years 36 = .ok (.if_icmp .le 10, 3) := by decide +kernel
theorem dX6_years_39 : decode cX6_years 39 = .ok (.aload_n 0, 1) := by decide +kernel
theorem dX6_years_40 : decode cX6_years 40 = .ok (.bipush (-6), 2) := by decide +kernel
theorem dX6_years_42 : decode cX6_years 42 = .ok (.invokevirtual 181, 3) := by decide +kernel
theorem dX6_years_45 : decode cX6_years 45 = .ok (.lreturn, 1) := by decide +kernel
theorem dX6_years_46 : decode cX6_years 46 = .ok (.iload_n 1, 1) := by decide +kernel
theorem dX6_years_47 : decode cX6_years 47 = .ok (.iload_n 2, 1) := by decide +kernel
theorem dX6_years_48 : decode cX6_years 48 = .ok (.iload_n 3, 1) := by decide +kernel
theorem dX6_years_49 : decode cX6_years 49 = .ok (.invokestatic 185, 3) := by decide +kernel
theorem dX6_years_52 : decode cX6_years 52 = .ok (.iload_n 1, 1) := by decide +kernel
theorem dX6_years_53 : decode cX6_years 53 = .ok (.iload_n 2, 1) := by decide +kernel
theorem dX6_years_54 : decode cX6_years 54 = .ok (.iload_n 3, 1) := by decide +kernel
theorem dX6_years_55 : decode cX6_years 55 = .ok (.iconst 1, 1) := by decide +kernel
theorem dX6_years_56 : decode cX6_years 56 = .ok (.isub, 1) := by decide +kernel
theorem dX6_years_57 : decode cX6_years 57 = .ok (.invokestatic 185, 3) := by decide +kernel
theorem dX6_years_60 : decode cX6_years 60 = .ok (.lsub, 1) := by decide +kernel
theorem dX6_years_61 : decode cX6_years 61 = .ok (.lreturn, 1) := by decide +kernel
set_option maxRecDepth 20000 in
theorem ggX6_row_X6_no : GoodIn wsX6_row wsX6_no := goodIn_r _ [7, 8, 9, 10, 11, 12, 13, 14, 15, 16, 17, 18, 19, 20, 21, 22, 23, 24, 25, 26, 27, 28, 29, 30, 31, 32] (by decide +kernel) (by decide +kernel)
set_option maxRecDepth 20000 in
theorem gX6_row_X6_no : GoodIn wsX6_row (wsV RX6 65 RX6 yX6_no wsX6_no) := goodIn_app (goodIn_of _ (by decide +kernel)) ggX6_row_X6_no
theorem dX6_row_0 : decode cX6_row 0 = .ok (.iload_n 1, 1) := by decide +kernel
theorem dX6_row_1 : decode cX6_row 1 = .ok (.ifCond .ge 10, 3) := by decide +kernel
theorem dX6_row_4 : decode cX6_row 4 = .ok (.aload_n 0, 1) := by decide +kernel
theorem dX6_row_5 : decode cX6_row 5 = .ok (.bipush (-4), 2) := by decide +kernel
theorem dX6_row_7 : decode cX6_row 7 = .ok (.invokevirtual 65, 3) := by decide +kernel
theorem dX6_row_10 : decode cX6_row 10 = .ok (.ireturn, 1) := by decide +kernel
theorem dX6_row_11 : decode cX6_row 11 = .ok (.iload_n 1, 1) := by decide +kernel
theorem dX6_row_12 : decode cX6_row 12 = .ok (.bipush 9, 2) := by decide +kernel
theorem dX6_row_14 : decode cX6_row 14 = .ok (.if_icmp .gt 12, 3) := by decide +kernel
theorem dX6_row_17 : decode cX6_row 17 = .ok (.aload_n 0, 1) := by decide +kernel
theorem dX6_row_18 : decode cX6_row 18 = .ok (.getfield 189, 3) := by decide +kernel
theorem dX6_row_21 : decode cX6_row 21 = .ok (.bipush 20, 2) := by decide +kernel
theorem dX6_row_23 : decode cX6_row 23 = .ok (.if_icmp .ne 10, 3) := by decide +kernel
theorem dX6_row_26 : decode cX6_row 26 = .ok (.aload_n 0, 1) := by decide +kernel
theorem dX6_row_27 : decode cX6_row 27 = .ok (.bipush (-6), 2) := by decide +kernel
theorem dX6_row_29 : decode cX6_row 29 = .ok (.invokevirtual 65, 3) := by decide +kernel
theorem dX6_row_32 : decode cX6_row 32 = .ok (.ireturn, 1) := by decide +kernel
theorem dX6_row_33 : decode cX6_row 33 = .ok (.aload_n 0, 1) := by decide +kernel
theorem dX6_row_34 : decode cX6_row 34 = .ok (.getfield 31, 3) := by decide +kernel
theorem dX6_row_37 : decode cX6_row 37 = .ok (.aload_n 0, 1) := by decide +kernel
theorem dX6_row_38 : decode cX6_row 38 = .ok (.dup, 1) := by decide +kernel
theorem dX6_row_39 : decode cX6_row 39 = .ok (.getfield 189, 3) := by decide +kernel
theorem dX6_row_42 : decode cX6_row 42 = .ok (.dup_x1, 1) := by decide +kernel
theorem dX6_row_43 : decode cX6_row 43 = .ok (.iconst 1, 1) := by decide +kernel
theorem dX6_row_44 : decode cX6_row 44 = .ok (.iadd, 1) := by decide +kernel
theorem dX6_row_45 : decode cX6_row 45 = .ok (.putfield 189, 3) := by decide +kernel
theorem dX6_row_48 : decode cX6_row 48 = .ok (.iload_n 1, 1) := by decide +kernel
theorem dX6_row_49 : decode cX6_row 49 = .ok (.iastore, 1) := by decide +kernel
theorem dX6_row_50 : decode cX6_row 50 = .ok (.aload_n 0, 1) := by decide +kernel
theorem dX6_row_51 : decode cX6_row 51 = .ok (.getfield 189, 3) := by decide +kernel
theorem dX6_row_54 : decode cX6_row 54 = .ok (.ireturn, 1) := by decide +kernel
set_option maxRecDepth 20000 in
theorem ggX6_fits_X6_counts : GoodIn wsX6_fits wsX6_counts := goodIn_r _ [14, 4, 15, 16, 17, 18, 19, 20, 21, 22, 23, 24, 25, 26, 27, 28, 29, 30, 31, 32, 33, 34, 35, 36, 37, 38, 39] (by decide +kernel) (by decide +kernel)
set_option maxRecDepth 20000 in
theorem gX6_fits_X6_counts : GoodIn wsX6_fits (wsV RX6 134 RX6 yX6_counts wsX6_counts) := goodIn_app (goodIn_of _ (by decide +kernel)) ggX6_fits_X6_counts
theorem dX6_fits_0 : decode cX6_fits 0 = .ok (.iconst 0, 1) := by decide +kernel
theorem dX6_fits_1 : decode cX6_fits 1 = .ok (.istore 4, 2) := by decide +kernel
theorem dX6_fits_3 : decode cX6_fits 3 = .ok (.iload 4, 2) := by decide +kernel
theorem dX6_fits_5 : decode cX6_fits 5 = .ok (.sipush 1764, 3) := by decide +kernel
theorem dX6_fits_8 : decode cX6_fits 8 = .ok (.if_icmp .ge 17, 3) := by decide +kernel
theorem dX6_fits_11 : decode cX6_fits 11 = .ok (.aload_n 0, 1) := by decide +kernel
theorem dX6_fits_12 : decode cX6_fits 12 = .ok (.getfield 49, 3) := by decide +kernel
theorem dX6_fits_15 : decode cX6_fits 15 = .ok (.iload 4, 2) := by decide +kernel
theorem dX6_fits_17 : decode cX6_fits 17 = .ok (.lconst 0, 1) := by decide +kernel
theorem dX6_fits_18 : decode cX6_fits 18 = .ok (.lastore, 1) := by decide +kernel
theorem dX6_fits_19 : decode cX6_fits 19 = .ok (.iinc 4 1, 3) := by decide +kernel
theorem dX6_fits_22 : decode cX6_fits 22 = .ok (.goto (-19), 3) := by decide +kernel
theorem dX6_fits_25 : decode cX6_fits 25 = .ok (.iconst 0, 1) := by decide +kernel
theorem dX6_fits_26 : decode cX6_fits 26 = .ok (.istore 4, 2) := by decide +kernel
theorem dX6_fits_28 : decode cX6_fits 28 = .ok (.iload 4, 2) := by decide +kernel
theorem dX6_fits_30 : decode cX6_fits 30 = .ok (.aload_n 0, 1) := by decide +kernel
theorem dX6_fits_31 : decode cX6_fits 31 = .ok (.getfield 189, 3) := by decide +kernel
theorem dX6_fits_34 : decode cX6_fits 34 = .ok (.if_icmp .ge 305, 3) := by decide +kernel
theorem dX6_fits_37 : decode cX6_fits 37 = .ok (.iconst 0, 1) := by decide +kernel
theorem dX6_fits_38 : decode cX6_fits 38 = .ok (.istore 5, 2) := by decide +kernel
theorem dX6_fits_40 : decode cX6_fits 40 = .ok (.iload 5, 2) := by decide +kernel
theorem dX6_fits_42 : decode cX6_fits 42 = .ok (.sipush 1764, 3) := by decide +kernel
theorem dX6_fits_45 : decode cX6_fits 45 = .ok (.if_icmp .ge 17, 3) := by decide +kernel
theorem dX6_fits_48 : decode cX6_fits 48 = .ok (.aload_n 0, 1) := by decide +kernel
theorem dX6_fits_49 : decode cX6_fits 49 = .ok (.getfield 53, 3) := by decide +kernel
theorem dX6_fits_52 : decode cX6_fits 52 = .ok (.iload 5, 2) := by decide +kernel
theorem dX6_fits_54 : decode cX6_fits 54 = .ok (.lconst 0, 1) := by decide +kernel
theorem dX6_fits_55 : decode cX6_fits 55 = .ok (.lastore, 1) := by decide +kernel
theorem dX6_fits_56 : decode cX6_fits 56 = .ok (.iinc 5 1, 3) := by decide +kernel
theorem dX6_fits_59 : decode cX6_fits 59 = .ok (.goto (-19), 3) := by decide +kernel
theorem dX6_fits_62 : decode cX6_fits 62 = .ok (.iconst 0, 1) := by decide +kernel
theorem dX6_fits_63 : decode cX6_fits 63 = .ok (.istore 5, 2) := by decide +kernel
theorem dX6_fits_65 : decode cX6_fits 65 = .ok (.iload 5, 2) := by decide +kernel
theorem dX6_fits_67 : decode cX6_fits 67 = .ok (.aload_n 0, 1) := by decide +kernel
theorem dX6_fits_68 : decode cX6_fits 68 = .ok (.getfield 71, 3) := by decide +kernel
theorem dX6_fits_71 : decode cX6_fits 71 = .ok (.if_icmp .ge 231, 3) := by decide +kernel
theorem dX6_fits_74 : decode cX6_fits 74 = .ok (.aload_n 0, 1) := by decide +kernel
theorem dX6_fits_75 : decode cX6_fits 75 = .ok (.getfield 31, 3) := by decide +kernel
theorem dX6_fits_78 : decode cX6_fits 78 = .ok (.iload 4, 2) := by decide +kernel
theorem dX6_fits_80 : decode cX6_fits 80 = .ok (.iaload, 1) := by decide +kernel
theorem dX6_fits_81 : decode cX6_fits 81 = .ok (.bipush 9, 2) := by decide +kernel
theorem dX6_fits_83 : decode cX6_fits 83 = .ok (.if_icmp .eq 15, 3) := by decide +kernel
theorem dX6_fits_86 : decode cX6_fits 86 = .ok (.aload_n 0, 1) := by decide +kernel
theorem dX6_fits_87 : decode cX6_fits 87 = .ok (.getfield 31, 3) := by decide +kernel
theorem dX6_fits_90 : decode cX6_fits 90 = .ok (.iload 4, 2) := by decide +kernel
theorem dX6_fits_92 : decode cX6_fits 92 = .ok (.iaload, 1) := by decide +kernel
theorem dX6_fits_93 : decode cX6_fits 93 = .ok (.iload 5, 2) := by decide +kernel
theorem dX6_fits_95 : decode cX6_fits 95 = .ok (.if_icmp .ne 201, 3) := by decide +kernel
theorem dX6_fits_98 : decode cX6_fits 98 = .ok (.iload 4, 2) := by decide +kernel
theorem dX6_fits_100 : decode cX6_fits 100 = .ok (.iload_n 2, 1) := by decide +kernel
theorem dX6_fits_101 : decode cX6_fits 101 = .ok (.if_icmp .ne 12, 3) := by decide +kernel
theorem dX6_fits_104 : decode cX6_fits 104 = .ok (.iload 5, 2) := by decide +kernel
theorem dX6_fits_106 : decode cX6_fits 106 = .ok (.iload_n 3, 1) := by decide +kernel
theorem dX6_fits_107 : decode cX6_fits 107 = .ok (.if_icmp .eq 6, 3) := by decide +kernel
theorem dX6_fits_110 : decode cX6_fits 110 = .ok (.goto 186, 3) := by decide +kernel
theorem dX6_fits_113 : decode cX6_fits 113 = .ok (.iload 4, 2) := by decide +kernel
theorem dX6_fits_115 : decode cX6_fits 115 = .ok (.ifCond .ne 40, 3) := by decide +kernel
theorem dX6_fits_118 : decode cX6_fits 118 = .ok (.aload_n 0, 1) := by decide +kernel
theorem dX6_fits_119 : decode cX6_fits 119 = .ok (.getfield 53, 3) := by decide +kernel
theorem dX6_fits_122 : decode cX6_fits 122 = .ok (.bipush 21, 2) := by decide +kernel
theorem dX6_fits_124 : decode cX6_fits 124 = .ok (.iload 5, 2) := by decide +kernel
theorem dX6_fits_126 : decode cX6_fits 126 = .ok (.imul, 1) := by decide +kernel
theorem dX6_fits_127 : decode cX6_fits 127 = .ok (.iconst 1, 1) := by decide +kernel
theorem dX6_fits_128 : decode cX6_fits 128 = .ok (.iadd, 1) := by decide +kernel
theorem dX6_fits_129 : decode cX6_fits 129 = .ok (.bipush 21, 2) := by decide +kernel
theorem dX6_fits_131 : decode cX6_fits 131 = .ok (.imul, 1) := by decide +kernel
theorem dX6_fits_132 : decode cX6_fits 132 = .ok (.aload_n 0, 1) := by decide +kernel
theorem dX6_fits_133 : decode cX6_fits 133 = .ok (.iload 5, 2) := by decide +kernel
theorem dX6_fits_135 : decode cX6_fits 135 = .ok (.invokevirtual 134, 3) := by decide +kernel
theorem dX6_fits_138 : decode cX6_fits 138 = .ok (.ifCond .eq 7, 3) := by decide +kernel
theorem dX6_fits_141 : decode cX6_fits 141 = .ok (.iconst 1, 1) := by decide +kernel
theorem dX6_fits_142 : decode cX6_fits 142 = .ok (.goto 4, 3) := by decide +kernel
theorem dX6_fits_145 : decode cX6_fits 145 = .ok (.iconst 0, 1) := by decide +kernel
theorem dX6_fits_146 : decode cX6_fits 146 = .ok (.iadd, 1) := by decide +kernel
theorem dX6_fits_147 : decode cX6_fits 147 = .ok (.dup2, 1) := by decide +kernel
theorem dX6_fits_148 : decode cX6_fits 148 = .ok (.laload, 1) := by decide +kernel
theorem dX6_fits_149 : decode cX6_fits 149 = .ok (.lconst 1, 1) := by decide +kernel
theorem dX6_fits_150 : decode cX6_fits 150 = .ok (.ladd, 1) := by decide +kernel
theorem dX6_fits_151 : decode cX6_fits 151 = .ok (.lastore, 1) := by decide +kernel
theorem dX6_fits_152 : decode cX6_fits 152 = .ok (.goto 144, 3) := by decide +kernel
theorem dX6_fits_155 : decode cX6_fits 155 = .ok (.iconst 0, 1) := by decide +kernel
theorem dX6_fits_156 : decode cX6_fits 156 = .ok (.istore 6, 2) := by decide +kernel
theorem dX6_fits_158 : decode cX6_fits 158 = .ok (.iload 6, 2) := by decide +kernel
theorem dX6_fits_160 : decode cX6_fits 160 = .ok (.aload_n 0, 1) := by decide +kernel
theorem dX6_fits_161 : decode cX6_fits 161 = .ok (.getfield 71, 3) := by decide +kernel
theorem dX6_fits_164 : decode cX6_fits 164 = .ok (.if_icmp .ge 132, 3) := by decide +kernel
theorem dX6_fits_167 : decode cX6_fits 167 = .ok (.iconst 1, 1) := by decide +kernel
theorem dX6_fits_168 : decode cX6_fits 168 = .ok (.istore 7, 2) := by decide +kernel
theorem dX6_fits_170 : decode cX6_fits 170 = .ok (.iload 7, 2) := by decide +kernel
theorem dX6_fits_172 : decode cX6_fits 172 = .ok (.iload 4, 2) := by decide +kernel
theorem dX6_fits_174 : decode cX6_fits 174 = .ok (.if_icmp .gt 116, 3) := by decide +kernel
theorem dX6_fits_177 : decode cX6_fits 177 = .ok (.iconst 0, 1) := by decide +kernel
theorem dX6_fits_178 : decode cX6_fits 178 = .ok (.istore 8, 2) := by decide +kernel
theorem dX6_fits_180 : decode cX6_fits 180 = .ok (.iload 8, 2) := by decide +kernel
theorem dX6_fits_182 : decode cX6_fits 182 = .ok (.iload 4, 2) := by decide +kernel
theorem dX6_fits_184 : decode cX6_fits 184 = .ok (.if_icmp .gt 100, 3) := by decide +kernel
theorem dX6_fits_187 : decode cX6_fits 187 = .ok (.aload_n 0, 1) := by decide +kernel
theorem dX6_fits_188 : decode cX6_fits 188 = .ok (.getfield 49, 3) := by decide +kernel
theorem dX6_fits_191 : decode cX6_fits 191 = .ok (.bipush 21, 2) := by decide +kernel
theorem dX6_fits_193 : decode cX6_fits 193 = .ok (.iload 6, 2) := by decide +kernel
theorem dX6_fits_195 : decode cX6_fits 195 = .ok (.imul, 1) := by decide +kernel
theorem dX6_fits_196 : decode cX6_fits 196 = .ok (.iload 7, 2) := by decide +kernel
theorem dX6_fits_198 : decode cX6_fits 198 = .ok (.iadd, 1) := by decide +kernel
theorem dX6_fits_199 : decode cX6_fits 199 = .ok (.bipush 21, 2) := by decide +kernel
theorem dX6_fits_201 : decode cX6_fits 201 = .ok (.imul, 1) := by decide +kernel
theorem dX6_fits_202 : decode cX6_fits 202 = .ok (.iload 8, 2) := by decide +kernel
theorem dX6_fits_204 : decode cX6_fits 204 = .ok (.iadd, 1) := by decide +kernel
theorem dX6_fits_205 : decode cX6_fits 205 = .ok (.laload, 1) := by decide +kernel
theorem dX6_fits_206 : decode cX6_fits 206 = .ok (.lstore 9, 2) := by decide +kernel
theorem dX6_fits_208 : decode cX6_fits 208 = .ok (.lload 9, 2) := by decide +kernel
theorem dX6_fits_210 : decode cX6_fits 210 = .ok (.lconst 0, 1) := by decide +kernel
theorem dX6_fits_211 : decode cX6_fits 211 = .ok (.lcmp, 1) := by decide +kernel
theorem dX6_fits_212 : decode cX6_fits 212 = .ok (.ifCond .ne 6, 3) := by decide +kernel
theorem dX6_fits_215 : decode cX6_fits 215 = .ok (.goto 63, 3) := by decide +kernel
theorem dX6_fits_218 : decode cX6_fits 218 = .ok (.iload 6, 2) := by decide +kernel
theorem dX6_fits_220 : decode cX6_fits 220 = .ok (.iload 5, 2) := by decide +kernel
theorem dX6_fits_222 : decode cX6_fits 222 = .ok (.if_icmp .ne 10, 3) := by decide +kernel
theorem dX6_fits_225 : decode cX6_fits 225 = .ok (.iload 7, 2) := by decide +kernel
theorem dX6_fits_227 : decode cX6_fits 227 = .ok (.iconst 1, 1) := by decide +kernel
theorem dX6_fits_228 : decode cX6_fits 228 = .ok (.iadd, 1) := by decide +kernel
theorem dX6_fits_229 : decode cX6_fits 229 = .ok (.goto 4, 3) := by decide +kernel
theorem dX6_fits_232 : decode cX6_fits 232 = .ok (.iconst 1, 1) := by decide +kernel
theorem dX6_fits_233 : decode cX6_fits 233 = .ok (.istore 11, 2) := by decide +kernel
theorem dX6_fits_235 : decode cX6_fits 235 = .ok (.aload_n 0, 1) := by decide +kernel
theorem dX6_fits_236 : decode cX6_fits 236 = .ok (.getfield 53, 3) := by decide +kernel
theorem dX6_fits_239 : decode cX6_fits 239 = .ok (.bipush 21, 2) := by decide +kernel
theorem dX6_fits_241 : decode cX6_fits 241 = .ok (.iload 5, 2) := by decide +kernel
theorem dX6_fits_243 : decode cX6_fits 243 = .ok (.imul, 1) := by decide +kernel
theorem dX6_fits_244 : decode cX6_fits 244 = .ok (.iload 11, 2) := by decide +kernel
theorem dX6_fits_246 : decode cX6_fits 246 = .ok (.iadd, 1) := by decide +kernel
theorem dX6_fits_247 : decode cX6_fits 247 = .ok (.bipush 21, 2) := by decide +kernel
theorem dX6_fits_249 : decode cX6_fits 249 = .ok (.imul, 1) := by decide +kernel
theorem dX6_fits_250 : decode cX6_fits 250 = .ok (.aload_n 0, 1) := by decide +kernel
theorem dX6_fits_251 : decode cX6_fits 251 = .ok (.iload 5, 2) := by decide +kernel
theorem dX6_fits_253 : decode cX6_fits 253 = .ok (.invokevirtual 134, 3) := by decide +kernel
theorem dX6_fits_256 : decode cX6_fits 256 = .ok (.ifCond .eq 13, 3) := by decide +kernel
theorem dX6_fits_259 : decode cX6_fits 259 = .ok (.iload 8, 2) := by decide +kernel
theorem dX6_fits_261 : decode cX6_fits 261 = .ok (.iload 11, 2) := by decide +kernel
theorem dX6_fits_263 : decode cX6_fits 263 = .ok (.invokestatic 140, 3) := by decide +kernel
theorem dX6_fits_266 : decode cX6_fits 266 = .ok (.goto 5, 3) := by decide +kernel
theorem dX6_fits_269 : decode cX6_fits 269 = .ok (.iload 8, 2) := by decide +kernel
theorem dX6_fits_271 : decode cX6_fits 271 = .ok (.iadd, 1) := by decide +kernel
theorem dX6_fits_272 : decode cX6_fits 272 = .ok (.dup2, 1) := by decide +kernel
theorem dX6_fits_273 : decode cX6_fits 273 = .ok (.laload, 1) := by decide +kernel
theorem dX6_fits_274 : decode cX6_fits 274 = .ok (.lload 9, 2) := by decide +kernel
theorem dX6_fits_276 : decode cX6_fits 276 = .ok (.ladd, 1) := by decide +kernel
theorem dX6_fits_277 : decode cX6_fits 277 = .ok (.lastore, 1) := by decide +kernel
theorem dX6_fits_278 : decode cX6_fits 278 = .ok (.iinc 8 1, 3) := by decide +kernel
theorem dX6_fits_281 : decode cX6_fits 281 = .ok (.goto (-101), 3) := by decide +kernel
theorem dX6_fits_284 : decode cX6_fits 284 = .ok (.iinc 7 1, 3) := by decide +kernel
theorem dX6_fits_287 : decode cX6_fits 287 = .ok (.goto (-117), 3) := by decide +kernel
theorem dX6_fits_290 : decode cX6_fits 290 = .ok (.iinc 6 1, 3) := by decide +kernel
theorem dX6_fits_293 : decode cX6_fits 293 = .ok (.goto (-135), 3) := by decide +kernel
theorem dX6_fits_296 : decode cX6_fits 296 = .ok (.iinc 5 1, 3) := by decide +kernel
theorem dX6_fits_299 : decode cX6_fits 299 = .ok (.goto (-234), 3) := by decide +kernel
theorem dX6_fits_302 : decode cX6_fits 302 = .ok (.iconst 0, 1) := by decide +kernel
theorem dX6_fits_303 : decode cX6_fits 303 = .ok (.istore 5, 2) := by decide +kernel
theorem dX6_fits_305 : decode cX6_fits 305 = .ok (.iload 5, 2) := by decide +kernel
theorem dX6_fits_307 : decode cX6_fits 307 = .ok (.sipush 1764, 3) := by decide +kernel
theorem dX6_fits_310 : decode cX6_fits 310 = .ok (.if_icmp .ge 23, 3) := by decide +kernel
theorem dX6_fits_313 : decode cX6_fits 313 = .ok (.aload_n 0, 1) := by decide +kernel
theorem dX6_fits_314 : decode cX6_fits 314 = .ok (.getfield 49, 3) := by decide +kernel
theorem dX6_fits_317 : decode cX6_fits 317 = .ok (.iload 5, 2) := by decide +kernel
theorem dX6_fits_319 : decode cX6_fits 319 = .ok (.aload_n 0, 1) := by decide +kernel
theorem dX6_fits_320 : decode cX6_fits 320 = .ok (.getfield 53, 3) := by decide +kernel
theorem dX6_fits_323 : decode cX6_fits 323 = .ok (.iload 5, 2) := by decide +kernel
theorem dX6_fits_325 : decode cX6_fits 325 = .ok (.laload, 1) := by decide +kernel
theorem dX6_fits_326 : decode cX6_fits 326 = .ok (.lastore, 1) := by decide +kernel
theorem dX6_fits_327 : decode cX6_fits 327 = .ok (.iinc 5 1, 3) := by decide +kernel
theorem dX6_fits_330 : decode cX6_fits 330 = .ok (.goto (-25), 3) := by decide +kernel
theorem dX6_fits_333 : decode cX6_fits 333 = .ok (.iinc 4 1, 3) := by decide +kernel
theorem dX6_fits_336 : decode cX6_fits 336 = .ok (.goto (-308), 3) := by decide +kernel
theorem dX6_fits_339 : decode cX6_fits 339 = .ok (.lconst 0, 1) := by decide +kernel
theorem dX6_fits_340 : decode cX6_fits 340 = .ok (.lstore 4, 2) := by decide +kernel
theorem dX6_fits_342 : decode cX6_fits 342 = .ok (.iconst 0, 1) := by decide +kernel
theorem dX6_fits_343 : decode cX6_fits 343 = .ok (.istore 6, 2) := by decide +kernel
theorem dX6_fits_345 : decode cX6_fits 345 = .ok (.iload 6, 2) := by decide +kernel
theorem dX6_fits_347 : decode cX6_fits 347 = .ok (.sipush 1764, 3) := by decide +kernel
theorem dX6_fits_350 : decode cX6_fits 350 = .ok (.if_icmp .ge 36, 3) := by decide +kernel
theorem dX6_fits_353 : decode cX6_fits 353 = .ok (.iload 6, 2) := by decide +kernel
theorem dX6_fits_355 : decode cX6_fits 355 = .ok (.bipush 21, 2) := by decide +kernel
theorem dX6_fits_357 : decode cX6_fits 357 = .ok (.irem, 1) := by decide +kernel
theorem dX6_fits_358 : decode cX6_fits 358 = .ok (.iload 6, 2) := by decide +kernel
theorem dX6_fits_360 : decode cX6_fits 360 = .ok (.bipush 21, 2) := by decide +kernel
theorem dX6_fits_362 : decode cX6_fits 362 = .ok (.irem, 1) := by decide +kernel
theorem dX6_fits_363 : decode cX6_fits 363 = .ok (.imul, 1) := by decide +kernel
theorem dX6_fits_364 : decode cX6_fits 364 = .ok (.iload_n 1, 1) := by decide +kernel
theorem dX6_fits_365 : decode cX6_fits 365 = .ok (.if_icmp .ne 15, 3) := by decide +kernel
theorem dX6_fits_368 : decode cX6_fits 368 = .ok (.lload 4, 2) := by decide +kernel
theorem dX6_fits_370 : decode cX6_fits 370 = .ok (.aload_n 0, 1) := by decide +kernel
theorem dX6_fits_371 : decode cX6_fits 371 = .ok (.getfield 49, 3) := by decide +kernel
theorem dX6_fits_374 : decode cX6_fits 374 = .ok (.iload 6, 2) := by decide +kernel
theorem dX6_fits_376 : decode cX6_fits 376 = .ok (.laload, 1) := by decide +kernel
theorem dX6_fits_377 : decode cX6_fits 377 = .ok (.ladd, 1) := by decide +kernel
theorem dX6_fits_378 : decode cX6_fits 378 = .ok (.lstore 4, 2) := by decide +kernel
theorem dX6_fits_380 : decode cX6_fits 380 = .ok (.iinc 6 1, 3) := by decide +kernel
theorem dX6_fits_383 : decode cX6_fits 383 = .ok (.goto (-38), 3) := by decide +kernel
theorem dX6_fits_386 : decode cX6_fits 386 = .ok (.lload 4, 2) := by decide +kernel
theorem dX6_fits_388 : decode cX6_fits 388 = .ok (.lreturn, 1) := by decide +kernel
set_option maxRecDepth 20000 in
theorem ggX6_fitting_X6_noLong : GoodIn wsX6_fitting wsX6_noLong := goodIn_r _ [7, 8, 9, 10, 11, 6, 12, 13, 30, 31, 32, 33, 34, 35, 36, 37, 38, 39, 40, 41, 42, 43, 44, 45, 46, 47, 48, 49, 50, 51, 52, 53] (by decide +kernel) (by decide +kernel)
set_option maxRecDepth 20000 in
theorem gX6_fitting_X6_noLong : GoodIn wsX6_fitting (wsV RX6 181 RX6 yX6_noLong wsX6_noLong) := goodIn_app (goodIn_of _ (by decide +kernel)) ggX6_fitting_X6_noLong
set_option maxRecDepth 20000 in
theorem ggX6_fitting_X6_fits : GoodIn wsX6_fitting wsX6_fits := goodIn_r _ [17, 18, 1, 19, 2, 20, 21, 22, 23, 24, 25, 26, 27, 6, 28, 29, 30, 31, 32, 33, 34, 35, 36, 37, 38, 39, 40, 41, 42, 43, 44, 45, 46, 47, 48, 49, 50, 51, 52, 53] (by decide +kernel) (by decide +kernel)
set_option maxRecDepth 20000 in
theorem gX6_fitting_X6_fits : GoodIn wsX6_fitting (wsV RX6 192 RX6 yX6_fits wsX6_fits) := goodIn_app (goodIn_of _ (by decide +kernel)) ggX6_fitting_X6_fits
theorem dX6_fitting_0 : decode cX6_fitting 0 = .ok (.iload_n 1, 1) := by decide +kernel
theorem dX6_fitting_1 : decode cX6_fitting 1 = .ok (.ifCond .ge 10, 3) := by decide +kernel
theorem dX6_fitting_4 : decode cX6_fitting 4 = .ok (.aload_n 0, 1) := by decide +kernel
theorem dX6_fitting_5 : decode cX6_fitting 5 = .ok (.bipush (-4), 2) := by decide +kernel
theorem dX6_fitting_7 : decode cX6_fitting 7 = .ok (.invokevirtual 181, 3) := by decide +kernel
theorem dX6_fitting_10 : decode cX6_fitting 10 = .ok (.lreturn, 1) := by decide +kernel
theorem dX6_fitting_11 : decode cX6_fitting 11 = .ok (.iload_n 1, 1) := by decide +kernel
theorem dX6_fitting_12 : decode cX6_fitting 12 = .ok (.sipush 400, 3) := by decide +kernel
theorem dX6_fitting_15 : decode cX6_fitting 15 = .ok (.if_icmp .le 10, 3) := by decide +kernel
theorem dX6_fitting_18 : decode cX6_fitting 18 = .ok (.aload_n 0, 1) := by decide +kernel
theorem dX6_fitting_19 : decode cX6_fitting 19 = .ok (.bipush (-6), 2) := by decide +kernel
theorem dX6_fitting_21 : decode cX6_fitting 21 = .ok (.invokevirtual 181, 3) := by decide +kernel
theorem dX6_fitting_24 : decode cX6_fitting 24 = .ok (.lreturn, 1) := by decide +kernel
theorem dX6_fitting_25 : decode cX6_fitting 25 = .ok (.aload_n 0, 1) := by decide +kernel
theorem dX6_fitting_26 : decode cX6_fitting 26 = .ok (.getfield 189, 3) := by decide +kernel
theorem dX6_fitting_29 : decode cX6_fitting 29 = .ok (.ifCond .eq 10, 3) := by decide +kernel
theorem dX6_fitting_32 : decode cX6_fitting 32 = .ok (.aload_n 0, 1) := by decide +kernel
theorem dX6_fitting_33 : decode cX6_fitting 33 = .ok (.getfield 71, 3) := by decide +kernel
theorem dX6_fitting_36 : decode cX6_fitting 36 = .ok (.ifCond .ne 12, 3) := by decide +kernel
theorem dX6_fitting_39 : decode cX6_fitting 39 = .ok (.aload_n 0, 1) := by decide +kernel
theorem dX6_fitting_40 : decode cX6_fitting 40 = .ok (.bipush (-3), 2) := by decide +kernel
theorem dX6_fitting_42 : decode cX6_fitting 42 = .ok (.invokevirtual 181, 3) := by decide +kernel
theorem dX6_fitting_45 : decode cX6_fitting 45 = .ok (.goto 10, 3) := by decide +kernel
theorem dX6_fitting_48 : decode cX6_fitting 48 = .ok (.aload_n 0, 1) := by decide +kernel
theorem dX6_fitting_49 : decode cX6_fitting 49 = .ok (.iload_n 1, 1) := by decide +kernel
theorem dX6_fitting_50 : decode cX6_fitting 50 = .ok (.iconst (-1), 1) := by decide +kernel
theorem dX6_fitting_51 : decode cX6_fitting 51 = .ok (.iconst 0, 1) := by decide +kernel
theorem dX6_fitting_52 : decode cX6_fitting 52 = .ok (.invokevirtual 192, 3) := by decide +kernel
theorem dX6_fitting_55 : decode cX6_fitting 55 = .ok (.lreturn, 1) := by decide +kernel
set_option maxRecDepth 20000 in
theorem ggX6_likely_X6_within : GoodIn wsX6_likely wsX6_within := goodIn_r _ [5] (by decide +kernel) (by decide +kernel)
set_option maxRecDepth 20000 in
theorem gX6_likely_X6_within : GoodIn wsX6_likely (va_wsS RX6 74 yX6_within wsX6_within) := goodIn_app (goodIn_of _ (by decide +kernel)) ggX6_likely_X6_within
set_option maxRecDepth 20000 in
theorem ggX6_likely_X6_isThing : GoodIn wsX6_likely wsX6_isThing := goodIn_r _ [9, 10, 2, 3, 4, 5, 37, 38, 39, 40, 41, 42, 43, 44, 45, 46, 47, 48, 49, 50, 51, 52, 53, 54, 55, 56, 57, 58, 59, 60] (by decide +kernel) (by decide +kernel)
set_option maxRecDepth 20000 in
theorem gX6_likely_X6_isThing : GoodIn wsX6_likely (wsV RX6 120 RX6 yX6_isThing wsX6_isThing) := goodIn_app (goodIn_of _ (by decide +kernel)) ggX6_likely_X6_isThing
set_option maxRecDepth 20000 in
theorem ggX6_likely_X6_noLong : GoodIn wsX6_likely wsX6_noLong := goodIn_r _ [14, 15, 16, 17, 18, 4, 19, 20, 37, 38, 39, 40, 41, 42, 43, 44, 45, 46, 47, 48, 49, 50, 51, 52, 53, 54, 55, 56, 57, 58, 59, 60] (by decide +kernel) (by decide +kernel)
set_option maxRecDepth 20000 in
theorem gX6_likely_X6_noLong : GoodIn wsX6_likely (wsV RX6 181 RX6 yX6_noLong wsX6_noLong) := goodIn_app (goodIn_of _ (by decide +kernel)) ggX6_likely_X6_noLong
set_option maxRecDepth 20000 in
theorem ggX6_likely_X6_fits : GoodIn wsX6_likely wsX6_fits := goodIn_r _ [24, 25, 1, 26, 10, 27, 28, 29, 30, 31, 32, 33, 34, 4, 35, 36, 37, 38, 39, 40, 41, 42, 43, 44, 45, 46, 47, 48, 49, 50, 51, 52, 53, 54, 55, 56, 57, 58, 59, 60] (by decide +kernel) (by decide +kernel)
set_option maxRecDepth 20000 in
theorem gX6_likely_X6_fits : GoodIn wsX6_likely (wsV RX6 192 RX6 yX6_fits wsX6_fits) := goodIn_app (goodIn_of _ (by decide +kernel)) ggX6_likely_X6_fits
theorem dX6_likely_0 : decode cX6_likely 0 = .ok (.iload_n 2, 1) := by decide +kernel
theorem dX6_likely_1 : decode cX6_likely 1 = .ok (.iconst 0, 1) := by decide +kernel
theorem dX6_likely_2 : decode cX6_likely 2 = .ok (.aload_n 0, 1) := by decide +kernel
theorem dX6_likely_3 : decode cX6_likely 3 = .ok (.getfield 189, 3) := by decide +kernel
theorem dX6_likely_6 : decode cX6_likely 6 = .ok (.iconst 1, 1) := by decide +kernel
theorem dX6_likely_7 : decode cX6_likely 7 = .ok (.isub, 1) := by decide +kernel
theorem dX6_likely_8 : decode cX6_likely 8 = .ok (.invokestatic 74, 3) := by decide +kernel
theorem dX6_likely_11 : decode cX6_likely 11 = .ok (.ifCond .eq 11, 3) := by decide +kernel
theorem dX6_likely_14 : decode cX6_likely 14 = .ok (.aload_n 0, 1) := by decide +kernel
theorem dX6_likely_15 : decode cX6_likely 15 = .ok (.iload_n 3, 1) := by decide +kernel
theorem dX6_likely_16 : decode cX6_likely 16 = .ok (.invokevirtual 120, 3) := by decide +kernel
theorem dX6_likely_19 : decode cX6_likely 19 = .ok (.ifCond .ne 9, 3) := by decide +kernel
theorem dX6_likely_22 : decode cX6_likely 22 = .ok (.aload_n 0, 1) := by decide +kernel
theorem dX6_likely_23 : decode cX6_likely 23 = .ok (.iconst (-1), 1) := by decide +kernel
theorem dX6_likely_24 : decode cX6_likely 24 = .ok (.invokevirtual 181, 3) := by decide +kernel
theorem dX6_likely_27 : decode cX6_likely 27 = .ok (.lreturn, 1) := by decide +kernel
theorem dX6_likely_28 : decode cX6_likely 28 = .ok (.iload_n 1, 1) := by decide +kernel
theorem dX6_likely_29 : decode cX6_likely 29 = .ok (.ifCond .ge 10, 3) := by decide +kernel
theorem dX6_likely_32 : decode cX6_likely 32 = .ok (.aload_n 0, 1) := by decide +kernel
theorem dX6_likely_33 : decode cX6_likely 33 = .ok (.bipush (-4), 2) := by decide +kernel
theorem dX6_likely_35 : decode cX6_likely 35 = .ok (.invokevirtual 181, 3) := by decide +kernel
theorem dX6_likely_38 : decode cX6_likely 38 = .ok (.lreturn, 1) := by decide +kernel
theorem dX6_likely_39 : decode cX6_likely 39 = .ok (.iload_n 1, 1) := by decide +kernel
theorem dX6_likely_40 : decode cX6_likely 40 = .ok (.sipush 400, 3) := by decide +kernel
theorem dX6_likely_43 : decode cX6_likely 43 = .ok (.if_icmp .le 10, 3) := by decide +kernel
theorem dX6_likely_46 : decode cX6_likely 46 = .ok (.aload_n 0, 1) := by decide +kernel
theorem dX6_likely_47 : decode cX6_likely 47 = .ok (.bipush (-6), 2) := by decide +kernel
theorem dX6_likely_49 : decode cX6_likely 49 = .ok (.invokevirtual 181, 3) := by decide +kernel
theorem dX6_likely_52 : decode cX6_likely 52 = .ok (.lreturn, 1) := by decide +kernel
theorem dX6_likely_53 : decode cX6_likely 53 = .ok (.iload 4, 2) := by decide +kernel
theorem dX6_likely_55 : decode cX6_likely 55 = .ok (.iconst 0, 1) := by decide +kernel
theorem dX6_likely_56 : decode cX6_likely 56 = .ok (.iconst 1, 1) := by decide +kernel
theorem dX6_likely_57 : decode cX6_likely 57 = .ok (.invokestatic 74, 3) := by decide +kernel
theorem dX6_likely_60 : decode cX6_likely 60 = .ok (.ifCond .ne 10, 3) := by decide +kernel
theorem dX6_likely_63 : decode cX6_likely 63 = .ok (.aload_n 0, 1) := by decide +kernel
theorem dX6_likely_64 : decode cX6_likely 64 = .ok (.bipush (-2), 2) := by decide +kernel
theorem dX6_likely_66 : decode cX6_likely 66 = .ok (.invokevirtual 181, 3) := by decide +kernel
theorem dX6_likely_69 : decode cX6_likely 69 = .ok (.lreturn, 1) := by decide +kernel
theorem dX6_likely_70 : decode cX6_likely 70 = .ok (.aload_n 0, 1) := by decide +kernel
theorem dX6_likely_71 : decode cX6_likely 71 = .ok (.iload_n 1, 1) := by decide +kernel
theorem dX6_likely_72 : decode cX6_likely 72 = .ok (.iconst (-1), 1) := by decide +kernel
theorem dX6_likely_73 : decode cX6_likely 73 = .ok (.iconst 0, 1) := by decide +kernel
theorem dX6_likely_74 : decode cX6_likely 74 = .ok (.invokevirtual 192, 3) := by decide +kernel
theorem dX6_likely_77 : decode cX6_likely 77 = .ok (.lstore 5, 2) := by decide +kernel
theorem dX6_likely_79 : decode cX6_likely 79 = .ok (.aload_n 0, 1) := by decide +kernel
theorem dX6_likely_80 : decode cX6_likely 80 = .ok (.iload_n 1, 1) := by decide +kernel
theorem dX6_likely_81 : decode cX6_likely 81 = .ok (.iload_n 2, 1) := by decide +kernel
theorem dX6_likely_82 : decode cX6_likely 82 = .ok (.iload_n 3, 1) := by decide +kernel
theorem dX6_likely_83 : decode cX6_likely 83 = .ok (.invokevirtual 192, 3) := by decide +kernel
theorem dX6_likely_86 : decode cX6_likely 86 = .ok (.lstore 7, 2) := by decide +kernel
theorem dX6_likely_88 : decode cX6_likely 88 = .ok (.lload 5, 2) := by decide +kernel
theorem dX6_likely_90 : decode cX6_likely 90 = .ok (.lconst 0, 1) := by decide +kernel
theorem dX6_likely_91 : decode cX6_likely 91 = .ok (.lcmp, 1) := by decide +kernel
theorem dX6_likely_92 : decode cX6_likely 92 = .ok (.ifCond .ne 7, 3) := by decide +kernel
theorem dX6_likely_95 : decode cX6_likely 95 = .ok (.iload 4, 2) := by decide +kernel
theorem dX6_likely_97 : decode cX6_likely 97 = .ok (.i2l, 1) := by decide +kernel
theorem dX6_likely_98 : decode cX6_likely 98 = .ok (.lreturn, 1) := by decide +kernel
theorem dX6_likely_99 : decode cX6_likely 99 = .ok (.lload 7, 2) := by decide +kernel
theorem dX6_likely_101 : decode cX6_likely 101 = .ok (.lstore 9, 2) := by decide +kernel
theorem dX6_likely_103 : decode cX6_likely 103 = .ok (.lload 5, 2) := by decide +kernel
theorem dX6_likely_105 : decode cX6_likely 105 = .ok (.lstore 11, 2) := by decide +kernel
theorem dX6_likely_107 : decode cX6_likely 107 = .ok (.lload 11, 2) := by decide +kernel
theorem dX6_likely_109 : decode cX6_likely 109 = .ok (.lconst 0, 1) := by decide +kernel
theorem dX6_likely_110 : decode cX6_likely 110 = .ok (.lcmp, 1) := by decide +kernel
theorem dX6_likely_111 : decode cX6_likely 111 = .ok (.ifCond .eq 21, 3) := by decide +kernel
theorem dX6_likely_114 : decode cX6_likely 114 = .ok (.lload 9, 2) := by decide +kernel
theorem dX6_likely_116 : decode cX6_likely 116 = .ok (.lload 11, 2) := by decide +kernel
theorem dX6_likely_118 : decode cX6_likely 118 = .ok (.lrem, 1) := by decide +kernel
theorem dX6_likely_119 : decode cX6_likely 119 = .ok (.lstore 13, 2) := by decide +kernel
theorem dX6_likely_121 : decode cX6_likely 121 = .ok (.lload 11, 2) := by decide +kernel
theorem dX6_likely_123 : decode cX6_likely 123 = .ok (.lstore 9, 2) := by decide +kernel
theorem dX6_likely_125 : decode cX6_likely 125 = .ok (.lload 13, 2) := by decide +kernel
theorem dX6_likely_127 : decode cX6_likely 127 = .ok (.lstore 11, 2) := by decide +kernel
theorem dX6_likely_129 : decode cX6_likely 129 = .ok (.goto (-22), 3) := by decide +kernel
theorem dX6_likely_132 : decode cX6_likely 132 = .ok (.iload 4, 2) := by decide +kernel
theorem dX6_likely_134 : decode cX6_likely 134 = .ok (.ifCond .ne 11, 3) := by decide +kernel
theorem dX6_likely_137 : decode cX6_likely 137 = .ok (.lload 7, 2) := by decide +kernel
theorem dX6_likely_139 : decode cX6_likely 139 = .ok (.lload 9, 2) := by decide +kernel
theorem dX6_likely_141 : decode cX6_likely 141 = .ok (.ldiv, 1) := by decide +kernel
theorem dX6_likely_142 : decode cX6_likely 142 = .ok (.goto 8, 3) := by decide +kernel
theorem dX6_likely_145 : decode cX6_likely 145 = .ok (.lload 5, 2) := by decide +kernel
theorem dX6_likely_147 : decode cX6_likely 147 = .ok (.lload 9, 2) := by decide +kernel
theorem dX6_likely_149 : decode cX6_likely 149 = .ok (.ldiv, 1) := by decide +kernel
theorem dX6_likely_150 : decode cX6_likely 150 = .ok (.lreturn, 1) := by decide +kernel
theorem dX6_judge_0 : decode cX6_judge 0 = .ok (.aload_n 0, 1) := by decide +kernel
theorem dX6_judge_1 : decode cX6_judge 1 = .ok (.getfield 189, 3) := by decide +kernel
theorem dX6_judge_4 : decode cX6_judge 4 = .ok (.istore_n 1, 1) := by decide +kernel
theorem dX6_judge_5 : decode cX6_judge 5 = .ok (.aload_n 0, 1) := by decide +kernel
theorem dX6_judge_6 : decode cX6_judge 6 = .ok (.iconst 0, 1) := by decide +kernel
theorem dX6_judge_7 : decode cX6_judge 7 = .ok (.putfield 189, 3) := by decide +kernel
theorem dX6_judge_10 : decode cX6_judge 10 = .ok (.iconst 0, 1) := by decide +kernel
theorem dX6_judge_11 : decode cX6_judge 11 = .ok (.istore_n 2, 1) := by decide +kernel
theorem dX6_judge_12 : decode cX6_judge 12 = .ok (.iload_n 2, 1) := by decide +kernel
theorem dX6_judge_13 : decode cX6_judge 13 = .ok (.iload_n 1, 1) := by decide +kernel
theorem dX6_judge_14 : decode cX6_judge 14 = .ok (.if_icmp .ge 45, 3) := by decide +kernel
theorem dX6_judge_17 : decode cX6_judge 17 = .ok (.iload_n 2, 1) := by decide +kernel
theorem dX6_judge_18 : decode cX6_judge 18 = .ok (.aload_n 0, 1) := by decide +kernel
theorem dX6_judge_19 : decode cX6_judge 19 = .ok (.getfield 78, 3) := by decide +kernel
theorem dX6_judge_22 : decode cX6_judge 22 = .ok (.if_icmp .ge 37, 3) := by decide +kernel
theorem dX6_judge_25 : decode cX6_judge 25 = .ok (.aload_n 0, 1) := by decide +kernel
theorem dX6_judge_26 : decode cX6_judge 26 = .ok (.getfield 31, 3) := by decide +kernel
theorem dX6_judge_29 : decode cX6_judge 29 = .ok (.iload_n 2, 1) := by decide +kernel
theorem dX6_judge_30 : decode cX6_judge 30 = .ok (.iaload, 1) := by decide +kernel
theorem dX6_judge_31 : decode cX6_judge 31 = .ok (.bipush 9, 2) := by decide +kernel
theorem dX6_judge_33 : decode cX6_judge 33 = .ok (.if_icmp .eq 20, 3) := by decide +kernel
theorem dX6_judge_36 : decode cX6_judge 36 = .ok (.aload_n 0, 1) := by decide +kernel
theorem dX6_judge_37 : decode cX6_judge 37 = .ok (.getfield 31, 3) := by decide +kernel
theorem dX6_judge_40 : decode cX6_judge 40 = .ok (.iload_n 2, 1) := by decide +kernel
theorem dX6_judge_41 : decode cX6_judge 41 = .ok (.iaload, 1) := by decide +kernel
theorem dX6_judge_42 : decode cX6_judge 42 = .ok (.aload_n 0, 1) := by decide +kernel
theorem dX6_judge_43 : decode cX6_judge 43 = .ok (.getfield 22, 3) := by decide +kernel
theorem dX6_judge_46 : decode cX6_judge 46 = .ok (.iload_n 2, 1) := by decide +kernel
theorem dX6_judge_47 : decode cX6_judge 47 = .ok (.iaload, 1) := by decide +kernel
theorem dX6_judge_48 : decode cX6_judge 48 = .ok (.if_icmp .eq 5, 3) := by decide +kernel
theorem dX6_judge_51 : decode cX6_judge 51 = .ok (.iload_n 2, 1) := by decide +kernel
theorem dX6_judge_52 : decode cX6_judge 52 = .ok (.ireturn, 1) := by decide +kernel
theorem dX6_judge_53 : decode cX6_judge 53 = .ok (.iinc 2 1, 3) := by decide +kernel
theorem dX6_judge_56 : decode cX6_judge 56 = .ok (.goto (-44), 3) := by decide +kernel
theorem dX6_judge_59 : decode cX6_judge 59 = .ok (.iload_n 1, 1) := by decide +kernel
theorem dX6_judge_60 : decode cX6_judge 60 = .ok (.aload_n 0, 1) := by decide +kernel
theorem dX6_judge_61 : decode cX6_judge 61 = .ok (.getfield 78, 3) := by decide +kernel
theorem dX6_judge_64 : decode cX6_judge 64 = .ok (.if_icmp .ge 7, 3) := by decide +kernel
theorem dX6_judge_67 : decode cX6_judge 67 = .ok (.iload_n 1, 1) := by decide +kernel
theorem dX6_judge_68 : decode cX6_judge 68 = .ok (.goto 20, 3) := by decide +kernel
theorem dX6_judge_71 : decode cX6_judge 71 = .ok (.iload_n 1, 1) := by decide +kernel
theorem dX6_judge_72 : decode cX6_judge 72 = .ok (.aload_n 0, 1) := by decide +kernel
theorem dX6_judge_73 : decode cX6_judge 73 = .ok (.getfield 78, 3) := by decide +kernel
theorem dX6_judge_76 : decode cX6_judge 76 = .ok (.if_icmp .le 10, 3) := by decide +kernel
theorem dX6_judge_79 : decode cX6_judge 79 = .ok (.aload_n 0, 1) := by decide +kernel
theorem dX6_judge_80 : decode cX6_judge 80 = .ok (.getfield 78, 3) := by decide +kernel
theorem dX6_judge_83 : decode cX6_judge 83 = .ok (.goto 5, 3) := by decide +kernel
theorem dX6_judge_86 : decode cX6_judge 86 = .ok (.bipush (-9), 2) := by decide +kernel
theorem dX6_judge_88 : decode cX6_judge 88 = .ok (.ireturn, 1) := by decide +kernel
set_option maxRecDepth 20000 in
theorem ggX6_seeds_X6_noFar : GoodIn wsX6_seeds wsX6_noFar := goodIn_r _ [13, 14, 15, 16, 17, 12, 18, 19, 66, 67, 68, 69, 70, 71, 72, 73, 74, 75, 76, 77, 78, 79, 80, 81, 82, 83, 84, 85, 86, 87, 88, 89] (by decide +kernel) (by decide +kernel)
set_option maxRecDepth 20000 in
theorem gX6_seeds_X6_noFar : GoodIn wsX6_seeds (wsV RX6 165 RX6 yX6_noFar wsX6_noFar) := goodIn_app (goodIn_of _ (by decide +kernel)) ggX6_seeds_X6_noFar
set_option maxRecDepth 20000 in
theorem ggX6_seeds_X6_keep : GoodIn wsX6_seeds wsX6_keep := goodIn_r _ [23, 5, 4, 24, 25, 26, 27, 1, 3, 28, 29, 66, 67, 68, 69, 70, 71, 72, 73, 74, 75, 76, 77, 78, 79, 80, 81, 82, 83, 84, 85, 86, 87, 88, 89] (by decide +kernel) (by decide +kernel)
set_option maxRecDepth 20000 in
theorem gX6_seeds_X6_keep : GoodIn wsX6_seeds (wsV RX6 127 RX6 yX6_keep wsX6_keep) := goodIn_app (goodIn_of _ (by decide +kernel)) ggX6_seeds_X6_keep
set_option maxRecDepth 20000 in
theorem ggX6_seeds_X6_leftNow : GoodIn wsX6_seeds wsX6_leftNow := goodIn_r _ [33, 29, 34, 35, 36, 12, 37, 28, 3, 5, 38, 39, 40, 41, 42, 43, 44, 45, 46, 47, 48, 49, 24, 25, 26, 27, 50, 51, 52, 53, 54, 55, 56, 57, 58, 59, 60, 61, 1, 66, 67, 68, 69, 70, 71, 72, 73, 74, 75, 76, 77, 78, 79, 80, 81, 82, 83, 84, 85, 86, 87, 88, 89] (by decide +kernel) (by decide +kernel)
set_option maxRecDepth 20000 in
theorem gX6_seeds_X6_leftNow : GoodIn wsX6_seeds (wsV RX6 168 RX6 yX6_leftNow wsX6_leftNow) := goodIn_app (goodIn_of _ (by decide +kernel)) ggX6_seeds_X6_leftNow
set_option maxRecDepth 20000 in
theorem ggX6_seeds_X6_again : GoodIn wsX6_seeds wsX6_again := goodIn_r _ [65, 5, 4, 24, 25, 26, 27, 1, 3, 28, 29, 66, 67, 68, 69, 70, 71, 72, 73, 74, 75, 76, 77, 78, 79, 80, 81, 82, 83, 84, 85, 86, 87, 88, 89] (by decide +kernel) (by decide +kernel)
set_option maxRecDepth 20000 in
theorem gX6_seeds_X6_again : GoodIn wsX6_seeds (wsV RX6 131 RX6 yX6_again wsX6_again) := goodIn_app (goodIn_of _ (by decide +kernel)) ggX6_seeds_X6_again
theorem dX6_seeds_0 : decode cX6_seeds 0 = .ok (.iload_n 1, 1) := by decide +kernel
theorem dX6_seeds_1 : decode cX6_seeds 1 = .ok (.iconst 1, 1) := by decide +kernel
theorem dX6_seeds_2 : decode cX6_seeds 2 = .ok (.if_icmp .ge 10, 3) := by decide +kernel
theorem dX6_seeds_5 : decode cX6_seeds 5 = .ok (.aload_n 0, 1) := by decide +kernel
theorem dX6_seeds_6 : decode cX6_seeds 6 = .ok (.bipush (-4), 2) := by decide +kernel
theorem dX6_seeds_8 : decode cX6_seeds 8 = .ok (.invokevirtual 165, 3) := by decide +kernel
theorem dX6_seeds_11 : decode cX6_seeds 11 = .ok (.ireturn, 1) := by decide +kernel
theorem dX6_seeds_12 : decode cX6_seeds 12 = .ok (.iload_n 1, 1) := by decide +kernel
theorem dX6_seeds_13 : decode cX6_seeds 13 = .ok (.bipush 20, 2) := by decide +kernel
theorem dX6_seeds_15 : decode cX6_seeds 15 = .ok (.if_icmp .le 10, 3) := by decide +kernel
theorem dX6_seeds_18 : decode cX6_seeds 18 = .ok (.aload_n 0, 1) := by decide +kernel
theorem dX6_seeds_19 : decode cX6_seeds 19 = .ok (.bipush (-6), 2) := by decide +kernel
theorem dX6_seeds_21 : decode cX6_seeds 21 = .ok (.invokevirtual 165, 3) := by decide +kernel
theorem dX6_seeds_24 : decode cX6_seeds 24 = .ok (.ireturn, 1) := by decide +kernel
theorem dX6_seeds_25 : decode cX6_seeds 25 = .ok (.aload_n 0, 1) := by decide +kernel
theorem dX6_seeds_26 : decode cX6_seeds 26 = .ok (.getfield 71, 3) := by decide +kernel
theorem dX6_seeds_29 : decode cX6_seeds 29 = .ok (.ifCond .ne 10, 3) := by decide +kernel
theorem dX6_seeds_32 : decode cX6_seeds 32 = .ok (.aload_n 0, 1) := by decide +kernel
theorem dX6_seeds_33 : decode cX6_seeds 33 = .ok (.bipush (-3), 2) := by decide +kernel
theorem dX6_seeds_35 : decode cX6_seeds 35 = .ok (.invokevirtual 165, 3) := by decide +kernel
theorem dX6_seeds_38 : decode cX6_seeds 38 = .ok (.ireturn, 1) := by decide +kernel
theorem dX6_seeds_39 : decode cX6_seeds 39 = .ok (.aload_n 0, 1) := by decide +kernel
theorem dX6_seeds_40 : decode cX6_seeds 40 = .ok (.aload_n 0, 1) := by decide +kernel
theorem dX6_seeds_41 : decode cX6_seeds 41 = .ok (.getfield 40, 3) := by decide +kernel
theorem dX6_seeds_44 : decode cX6_seeds 44 = .ok (.invokevirtual 127, 3) := by decide +kernel
theorem dX6_seeds_47 : decode cX6_seeds 47 = .ok (.iload_n 2, 1) := by decide +kernel
theorem dX6_seeds_48 : decode cX6_seeds 48 = .ok (.istore_n 3, 1) := by decide +kernel
theorem dX6_seeds_49 : decode cX6_seeds 49 = .ok (.iconst 0, 1) := by decide +kernel
theorem dX6_seeds_50 : decode cX6_seeds 50 = .ok (.istore 4, 2) := by decide +kernel
theorem dX6_seeds_52 : decode cX6_seeds 52 = .ok (.iconst 0, 1) := by decide +kernel
theorem dX6_seeds_53 : decode cX6_seeds 53 = .ok (.istore 5, 2) := by decide +kernel
theorem dX6_seeds_55 : decode cX6_seeds 55 = .ok (.iload 5, 2) := by decide +kernel
theorem dX6_seeds_57 : decode cX6_seeds 57 = .ok (.iload_n 1, 1) := by decide +kernel
theorem dX6_seeds_58 : decode cX6_seeds 58 = .ok (.if_icmp .ge 93, 3) := by decide +kernel
theorem dX6_seeds_61 : decode cX6_seeds 61 = .ok (.iconst 0, 1) := by decide +kernel
theorem dX6_seeds_62 : decode cX6_seeds 62 = .ok (.istore 6, 2) := by decide +kernel
theorem dX6_seeds_64 : decode cX6_seeds 64 = .ok (.iload 6, 2) := by decide +kernel
theorem dX6_seeds_66 : decode cX6_seeds 66 = .ok (.aload_n 0, 1) := by decide +kernel
theorem dX6_seeds_67 : decode cX6_seeds 67 = .ok (.getfield 78, 3) := by decide +kernel
theorem dX6_seeds_70 : decode cX6_seeds 70 = .ok (.if_icmp .ge 66, 3) := by decide +kernel
theorem dX6_seeds_73 : decode cX6_seeds 73 = .ok (.aload_n 0, 1) := by decide +kernel
theorem dX6_seeds_74 : decode cX6_seeds 74 = .ok (.getfield 25, 3) := by decide +kernel
theorem dX6_seeds_77 : decode cX6_seeds 77 = .ok (.iload 6, 2) := by decide +kernel
theorem dX6_seeds_79 : decode cX6_seeds 79 = .ok (.iaload, 1) := by decide +kernel
theorem dX6_seeds_80 : decode cX6_seeds 80 = .ok (.bipush (-9), 2) := by decide +kernel
theorem dX6_seeds_82 : decode cX6_seeds 82 = .ok (.if_icmp .eq 20, 3) := by decide +kernel
theorem dX6_seeds_85 : decode cX6_seeds 85 = .ok (.aload_n 0, 1) := by decide +kernel
theorem dX6_seeds_86 : decode cX6_seeds 86 = .ok (.getfield 22, 3) := by decide +kernel
theorem dX6_seeds_89 : decode cX6_seeds 89 = .ok (.iload 6, 2) := by decide +kernel
theorem dX6_seeds_91 : decode cX6_seeds 91 = .ok (.aload_n 0, 1) := by decide +kernel
theorem dX6_seeds_92 : decode cX6_seeds 92 = .ok (.getfield 25, 3) := by decide +kernel
theorem dX6_seeds_95 : decode cX6_seeds 95 = .ok (.iload 6, 2) := by decide +kernel
theorem dX6_seeds_97 : decode cX6_seeds 97 = .ok (.iaload, 1) := by decide +kernel
theorem dX6_seeds_98 : decode cX6_seeds 98 = .ok (.iastore, 1) := by decide +kernel
theorem dX6_seeds_99 : decode cX6_seeds 99 = .ok (.goto 31, 3) := by decide +kernel
theorem dX6_seeds_102 : decode cX6_seeds 102 = .ok (.iload_n 3, 1) := by decide +kernel
theorem dX6_seeds_103 : decode cX6_seeds 103 = .ok (.ldc 195, 2) := by decide +kernel
theorem dX6_seeds_105 : decode cX6_seeds 105 = .ok (.imul, 1) := by decide +kernel
theorem dX6_seeds_106 : decode cX6_seeds 106 = .ok (.ldc 196, 2) := by decide +kernel
theorem dX6_seeds_108 : decode cX6_seeds 108 = .ok (.iadd, 1) := by decide +kernel
theorem dX6_seeds_109 : decode cX6_seeds 109 = .ok (.istore_n 3, 1) := by decide +kernel
theorem dX6_seeds_110 : decode cX6_seeds 110 = .ok (.aload_n 0, 1) := by decide +kernel
theorem dX6_seeds_111 : decode cX6_seeds 111 = .ok (.getfield 22, 3) := by decide +kernel
theorem dX6_seeds_114 : decode cX6_seeds 114 = .ok (.iload 6, 2) := by decide +kernel
theorem dX6_seeds_116 : decode cX6_seeds 116 = .ok (.iload_n 3, 1) := by decide +kernel
theorem dX6_seeds_117 : decode cX6_seeds 117 = .ok (.ldc 197, 2) := by decide +kernel
theorem dX6_seeds_119 : decode cX6_seeds 119 = .ok (.iand, 1) := by decide +kernel
theorem dX6_seeds_120 : decode cX6_seeds 120 = .ok (.sipush 256, 3) := by decide +kernel
theorem dX6_seeds_123 : decode cX6_seeds 123 = .ok (.idiv, 1) := by decide +kernel
theorem dX6_seeds_124 : decode cX6_seeds 124 = .ok (.aload_n 0, 1) := by decide +kernel
theorem dX6_seeds_125 : decode cX6_seeds 125 = .ok (.getfield 71, 3) := by decide +kernel
theorem dX6_seeds_128 : decode cX6_seeds 128 = .ok (.irem, 1) := by decide +kernel
theorem dX6_seeds_129 : decode cX6_seeds 129 = .ok (.iastore, 1) := by decide +kernel
theorem dX6_seeds_130 : decode cX6_seeds 130 = .ok (.iinc 6 1, 3) := by decide +kernel
theorem dX6_seeds_133 : decode cX6_seeds 133 = .ok (.goto (-69), 3) := by decide +kernel
theorem dX6_seeds_136 : decode cX6_seeds 136 = .ok (.iload 4, 2) := by decide +kernel
theorem dX6_seeds_138 : decode cX6_seeds 138 = .ok (.aload_n 0, 1) := by decide +kernel
theorem dX6_seeds_139 : decode cX6_seeds 139 = .ok (.invokevirtual 168, 3) := by decide +kernel
theorem dX6_seeds_142 : decode cX6_seeds 142 = .ok (.iadd, 1) := by decide +kernel
theorem dX6_seeds_143 : decode cX6_seeds 143 = .ok (.istore 4, 2) := by decide +kernel
theorem dX6_seeds_145 : decode cX6_seeds 145 = .ok (.iinc 5 1, 3) := by decide +kernel
theorem dX6_seeds_148 : decode cX6_seeds 148 = .ok (.goto (-93), 3) := by decide +kernel
theorem dX6_seeds_151 : decode cX6_seeds 151 = .ok (.aload_n 0, 1) := by decide +kernel
theorem dX6_seeds_152 : decode cX6_seeds 152 = .ok (.aload_n 0, 1) := by decide +kernel
theorem dX6_seeds_153 : decode cX6_seeds 153 = .ok (.getfield 40, 3) := by decide +kernel
theorem dX6_seeds_156 : decode cX6_seeds 156 = .ok (.invokevirtual 131, 3) := by decide +kernel
theorem dX6_seeds_159 : decode cX6_seeds 159 = .ok (.iload 4, 2) := by decide +kernel
theorem dX6_seeds_161 : decode cX6_seeds 161 = .ok (.ireturn, 1) := by decide +kernel
theorem dX6_keep_0 : decode cX6_keep 0 = .ok (.iconst 0, 1) := by decide +kernel
theorem dX6_keep_1 : decode cX6_keep 1 = .ok (.istore_n 2, 1) := by decide +kernel
theorem dX6_keep_2 : decode cX6_keep 2 = .ok (.iload_n 2, 1) := by decide +kernel
theorem dX6_keep_3 : decode cX6_keep 3 = .ok (.bipush 20, 2) := by decide +kernel
theorem dX6_keep_5 : decode cX6_keep 5 = .ok (.if_icmp .ge 30, 3) := by decide +kernel
theorem dX6_keep_8 : decode cX6_keep 8 = .ok (.aload_n 1, 1) := by decide +kernel
theorem dX6_keep_9 : decode cX6_keep 9 = .ok (.iload_n 2, 1) := by decide +kernel
theorem dX6_keep_10 : decode cX6_keep 10 = .ok (.aload_n 0, 1) := by decide +kernel
theorem dX6_keep_11 : decode cX6_keep 11 = .ok (.getfield 22, 3) := by decide +kernel
theorem dX6_keep_14 : decode cX6_keep 14 = .ok (.iload_n 2, 1) := by decide +kernel
theorem dX6_keep_15 : decode cX6_keep 15 = .ok (.iaload, 1) := by decide +kernel
theorem dX6_keep_16 : decode cX6_keep 16 = .ok (.iastore, 1) := by decide +kernel
theorem dX6_keep_17 : decode cX6_keep 17 = .ok (.aload_n 1, 1) := by decide +kernel
theorem dX6_keep_18 : decode cX6_keep 18 = .ok (.bipush 20, 2) := by decide +kernel
theorem dX6_keep_20 : decode cX6_keep 20 = .ok (.iload_n 2, 1) := by decide +kernel
theorem dX6_keep_21 : decode cX6_keep 21 = .ok (.iadd, 1) := by decide +kernel
theorem dX6_keep_22 : decode cX6_keep 22 = .ok (.aload_n 0, 1) := by decide +kernel
theorem dX6_keep_23 : decode cX6_keep 23 = .ok (.getfield 25, 3) := by decide +kernel
theorem dX6_keep_26 : decode cX6_keep 26 = .ok (.iload_n 2, 1) := by decide +kernel
theorem dX6_keep_27 : decode cX6_keep 27 = .ok (.iaload, 1) := by decide +kernel
theorem dX6_keep_28 : decode cX6_keep 28 = .ok (.iastore, 1) := by decide +kernel
theorem dX6_keep_29 : decode cX6_keep 29 = .ok (.iinc 2 1, 3) := by decide +kernel
theorem dX6_keep_32 : decode cX6_keep 32 = .ok (.goto (-30), 3) := by decide +kernel
theorem dX6_keep_35 : decode cX6_keep 35 = .ok (.iconst 0, 1) := by decide +kernel
theorem dX6_keep_36 : decode cX6_keep 36 = .ok (.istore_n 2, 1) := by decide +kernel
theorem dX6_keep_37 : decode cX6_keep 37 = .ok (.iload_n 2, 1) := by decide +kernel
theorem dX6_keep_38 : decode cX6_keep 38 = .ok (.iconst 4, 1) := by decide +kernel
theorem dX6_keep_39 : decode cX6_keep 39 = .ok (.if_icmp .ge 57, 3) := by decide +kernel
theorem dX6_keep_42 : decode cX6_keep 42 = .ok (.aload_n 1, 1) := by decide +kernel
theorem dX6_keep_43 : decode cX6_keep 43 = .ok (.bipush 40, 2) := by decide +kernel
theorem dX6_keep_45 : decode cX6_keep 45 = .ok (.iload_n 2, 1) := by decide +kernel
theorem dX6_keep_46 : decode cX6_keep 46 = .ok (.iadd, 1) := by decide +kernel
theorem dX6_keep_47 : decode cX6_keep 47 = .ok (.aload_n 0, 1) := by decide +kernel
theorem dX6_keep_48 : decode cX6_keep 48 = .ok (.getfield 7, 3) := by decide +kernel
theorem dX6_keep_51 : decode cX6_keep 51 = .ok (.iload_n 2, 1) := by decide +kernel
theorem dX6_keep_52 : decode cX6_keep 52 = .ok (.iaload, 1) := by decide +kernel
theorem dX6_keep_53 : decode cX6_keep 53 = .ok (.iastore, 1) := by decide +kernel
theorem dX6_keep_54 : decode cX6_keep 54 = .ok (.aload_n 1, 1) := by decide +kernel
theorem dX6_keep_55 : decode cX6_keep 55 = .ok (.bipush 44, 2) := by decide +kernel
theorem dX6_keep_57 : decode cX6_keep 57 = .ok (.iload_n 2, 1) := by decide +kernel
theorem dX6_keep_58 : decode cX6_keep 58 = .ok (.iadd, 1) := by decide +kernel
theorem dX6_keep_59 : decode cX6_keep 59 = .ok (.aload_n 0, 1) := by decide +kernel
theorem dX6_keep_60 : decode cX6_keep 60 = .ok (.getfield 13, 3) := by decide +kernel
theorem dX6_keep_63 : decode cX6_keep 63 = .ok (.iload_n 2, 1) := by decide +kernel
theorem dX6_keep_64 : decode cX6_keep 64 = .ok (.iaload, 1) := by decide +kernel
theorem dX6_keep_65 : decode cX6_keep 65 = .ok (.iastore, 1) := by decide +kernel
theorem dX6_keep_66 : decode cX6_keep 66 = .ok (.aload_n 1, 1) := by decide +kernel
theorem dX6_keep_67 : decode cX6_keep 67 = .ok (.bipush 48, 2) := by decide +kernel
theorem dX6_keep_69 : decode cX6_keep 69 = .ok (.iload_n 2, 1) := by decide +kernel
theorem dX6_keep_70 : decode cX6_keep 70 = .ok (.iadd, 1) := by decide +kernel
theorem dX6_keep_71 : decode cX6_keep 71 = .ok (.aload_n 0, 1) := by decide +kernel
theorem dX6_keep_72 : decode cX6_keep 72 = .ok (.getfield 16, 3) := by decide +kernel
theorem dX6_keep_75 : decode cX6_keep 75 = .ok (.iload_n 2, 1) := by decide +kernel
theorem dX6_keep_76 : decode cX6_keep 76 = .ok (.iaload, 1) := by decide +kernel
theorem dX6_keep_77 : decode cX6_keep 77 = .ok (.iastore, 1) := by decide +kernel
theorem dX6_keep_78 : decode cX6_keep 78 = .ok (.aload_n 1, 1) := by decide +kernel
theorem dX6_keep_79 : decode cX6_keep 79 = .ok (.bipush 52, 2) := by decide +kernel
theorem dX6_keep_81 : decode cX6_keep 81 = .ok (.iload_n 2, 1) := by decide +kernel
theorem dX6_keep_82 : decode cX6_keep 82 = .ok (.iadd, 1) := by decide +kernel
theorem dX6_keep_83 : decode cX6_keep 83 = .ok (.aload_n 0, 1) := by decide +kernel
theorem dX6_keep_84 : decode cX6_keep 84 = .ok (.getfield 19, 3) := by decide +kernel
theorem dX6_keep_87 : decode cX6_keep 87 = .ok (.iload_n 2, 1) := by decide +kernel
theorem dX6_keep_88 : decode cX6_keep 88 = .ok (.iaload, 1) := by decide +kernel
theorem dX6_keep_89 : decode cX6_keep 89 = .ok (.iastore, 1) := by decide +kernel
theorem dX6_keep_90 : decode cX6_keep 90 = .ok (.iinc 2 1, 3) := by decide +kernel
theorem dX6_keep_93 : decode cX6_keep 93 = .ok (.goto (-56), 3) := by decide +kernel
theorem dX6_keep_96 : decode cX6_keep 96 = .ok (.aload_n 1, 1) := by decide +kernel
theorem dX6_keep_97 : decode cX6_keep 97 = .ok (.bipush 56, 2) := by decide +kernel
theorem dX6_keep_99 : decode cX6_keep 99 = .ok (.aload_n 0, 1) := by decide +kernel
theorem dX6_keep_100 : decode cX6_keep 100 = .ok (.getfield 71, 3) := by decide +kernel
theorem dX6_keep_103 : decode cX6_keep 103 = .ok (.iastore, 1) := by decide +kernel
theorem dX6_keep_104 : decode cX6_keep 104 = .ok (.aload_n 1, 1) := by decide +kernel
theorem dX6_keep_105 : decode cX6_keep 105 = .ok (.bipush 57, 2) := by decide +kernel
theorem dX6_keep_107 : decode cX6_keep 107 = .ok (.aload_n 0, 1) := by decide +kernel
theorem dX6_keep_108 : decode cX6_keep 108 = .ok (.getfield 78, 3) := by decide +kernel
theorem dX6_keep_111 : decode cX6_keep 111 = .ok (.iastore, 1) := by decide +kernel
theorem dX6_keep_112 : decode cX6_keep 112 = .ok (.aload_n 1, 1) := by decide +kernel
theorem dX6_keep_113 : decode cX6_keep 113 = .ok (.bipush 58, 2) := by decide +kernel
theorem dX6_keep_115 : decode cX6_keep 115 = .ok (.aload_n 0, 1) := by decide +kernel
theorem dX6_keep_116 : decode cX6_keep 116 = .ok (.getfield 60, 3) := by decide +kernel
theorem dX6_keep_119 : decode cX6_keep 119 = .ok (.iastore, 1) := by decide +kernel
theorem dX6_keep_120 : decode cX6_keep 120 = .ok (.aload_n 1, 1) := by decide +kernel
theorem dX6_keep_121 : decode cX6_keep 121 = .ok (.bipush 59, 2) := by decide +kernel
theorem dX6_keep_123 : decode cX6_keep 123 = .ok (.aload_n 0, 1) := by decide +kernel
theorem dX6_keep_124 : decode cX6_keep 124 = .ok (.getfield 114, 3) := by decide +kernel
theorem dX6_keep_127 : decode cX6_keep 127 = .ok (.iastore, 1) := by decide +kernel
theorem dX6_keep_128 : decode cX6_keep 128 = .ok (.return_, 1) := by decide +kernel
theorem dX6_again_0 : decode cX6_again 0 = .ok (.iconst 0, 1) := by decide +kernel
theorem dX6_again_1 : decode cX6_again 1 = .ok (.istore_n 2, 1) := by decide +kernel
theorem dX6_again_2 : decode cX6_again 2 = .ok (.iload_n 2, 1) := by decide +kernel
theorem dX6_again_3 : decode cX6_again 3 = .ok (.bipush 20, 2) := by decide +kernel
theorem dX6_again_5 : decode cX6_again 5 = .ok (.if_icmp .ge 30, 3) := by decide +kernel
theorem dX6_again_8 : decode cX6_again 8 = .ok (.aload_n 0, 1) := by decide +kernel
theorem dX6_again_9 : decode cX6_again 9 = .ok (.getfield 22, 3) := by decide +kernel
theorem dX6_again_12 : decode cX6_again 12 = .ok (.iload_n 2, 1) := by decide +kernel
theorem dX6_again_13 : decode cX6_again 13 = .ok (.aload_n 1, 1) := by decide +kernel
theorem dX6_again_14 : decode cX6_again 14 = .ok (.iload_n 2, 1) := by decide +kernel
theorem dX6_again_15 : decode cX6_again 15 = .ok (.iaload, 1) := by decide +kernel
theorem dX6_again_16 : decode cX6_again 16 = .ok (.iastore, 1) := by decide +kernel
theorem dX6_again_17 : decode cX6_again 17 = .ok (.aload_n 0, 1) := by decide +kernel
theorem dX6_again_18 : decode cX6_again 18 = .ok (.getfield 25, 3) := by decide +kernel
theorem dX6_again_21 : decode cX6_again 21 = .ok (.iload_n 2, 1) := by decide +kernel
theorem dX6_again_22 : decode cX6_again 22 = .ok (.aload_n 1, 1) := by decide +kernel
theorem dX6_again_23 : decode cX6_again 23 = .ok (.bipush 20, 2) := by decide +kernel
theorem dX6_again_25 : decode cX6_again 25 = .ok (.iload_n 2, 1) := by decide +kernel
theorem dX6_again_26 : decode cX6_again 26 = .ok (.iadd, 1) := by decide +kernel
theorem dX6_again_27 : decode cX6_again 27 = .ok (.iaload, 1) := by decide +kernel
theorem dX6_again_28 : decode cX6_again 28 = .ok (.iastore, 1) := by decide +kernel
theorem dX6_again_29 : decode cX6_again 29 = .ok (.iinc 2 1, 3) := by decide +kernel
theorem dX6_again_32 : decode cX6_again 32 = .ok (.goto (-30), 3) := by decide +kernel
theorem dX6_again_35 : decode cX6_again 35 = .ok (.iconst 0, 1) := by decide +kernel
theorem dX6_again_36 : decode cX6_again 36 = .ok (.istore_n 2, 1) := by decide +kernel
theorem dX6_again_37 : decode cX6_again 37 = .ok (.iload_n 2, 1) := by decide +kernel
theorem dX6_again_38 : decode cX6_again 38 = .ok (.iconst 4, 1) := by decide +kernel
theorem dX6_again_39 : decode cX6_again 39 = .ok (.if_icmp .ge 57, 3) := by decide +kernel
theorem dX6_again_42 : decode cX6_again 42 = .ok (.aload_n 0, 1) := by decide +kernel
theorem dX6_again_43 : decode cX6_again 43 = .ok (.getfield 7, 3) := by decide +kernel
theorem dX6_again_46 : decode cX6_again 46 = .ok (.iload_n 2, 1) := by decide +kernel
theorem dX6_again_47 : decode cX6_again 47 = .ok (.aload_n 1, 1) := by decide +kernel
theorem dX6_again_48 : decode cX6_again 48 = .ok (.bipush 40, 2) := by decide +kernel
theorem dX6_again_50 : decode cX6_again 50 = .ok (.iload_n 2, 1) := by decide +kernel
theorem dX6_again_51 : decode cX6_again 51 = .ok (.iadd, 1) := by decide +kernel
theorem dX6_again_52 : decode cX6_again 52 = .ok (.iaload, 1) := by decide +kernel
theorem dX6_again_53 : decode cX6_again 53 = .ok (.iastore, 1) := by decide +kernel
theorem dX6_again_54 : decode cX6_again 54 = .ok (.aload_n 0, 1) := by decide +kernel
theorem dX6_again_55 : decode cX6_again 55 = .ok (.getfield 13, 3) := by decide +kernel
theorem dX6_again_58 : decode cX6_again 58 = .ok (.iload_n 2, 1) := by decide +kernel
theorem dX6_again_59 : decode cX6_again 59 = .ok (.aload_n 1, 1) := by decide +kernel
theorem dX6_again_60 : decode cX6_again 60 = .ok (.bipush 44, 2) := by decide +kernel
theorem dX6_again_62 : decode cX6_again 62 = .ok (.iload_n 2, 1) := by decide +kernel
theorem dX6_again_63 : decode cX6_again 63 = .ok (.iadd, 1) := by decide +kernel
theorem dX6_again_64 : decode cX6_again 64 = .ok (.iaload, 1) := by decide +kernel
theorem dX6_again_65 : decode cX6_again 65 = .ok (.iastore, 1) := by decide +kernel
theorem dX6_again_66 : decode cX6_again 66 = .ok (.aload_n 0, 1) := by decide +kernel
theorem dX6_again_67 : decode cX6_again 67 = .ok (.getfield 16, 3) := by decide +kernel
theorem dX6_again_70 : decode cX6_again 70 = .ok (.iload_n 2, 1) := by decide +kernel
theorem dX6_again_71 : decode cX6_again 71 = .ok (.aload_n 1, 1) := by decide +kernel
theorem dX6_again_72 : decode cX6_again 72 = .ok (.bipush 48, 2) := by decide +kernel
theorem dX6_again_74 : decode cX6_again 74 = .ok (.iload_n 2, 1) := by decide +kernel
theorem dX6_again_75 : decode cX6_again 75 = .ok (.iadd, 1) := by decide +kernel
theorem dX6_again_76 : decode cX6_again 76 = .ok (.iaload, 1) := by decide +kernel
theorem dX6_again_77 : decode cX6_again 77 = .ok (.iastore, 1) := by decide +kernel
theorem dX6_again_78 : decode cX6_again 78 = .ok (.aload_n 0, 1) := by decide +kernel
theorem dX6_again_79 : decode cX6_again 79 = .ok (.getfield 19, 3) := by decide +kernel
theorem dX6_again_82 : decode cX6_again 82 = .ok (.iload_n 2, 1) := by decide +kernel
theorem dX6_again_83 : decode cX6_again 83 = .ok (.aload_n 1, 1) := by decide +kernel
theorem dX6_again_84 : decode cX6_again 84 = .ok (.bipush 52, 2) := by decide +kernel
theorem dX6_again_86 : decode cX6_again 86 = .ok (.iload_n 2, 1) := by decide +kernel
theorem dX6_again_87 : decode cX6_again 87 = .ok (.iadd, 1) := by decide +kernel
theorem dX6_again_88 : decode cX6_again 88 = .ok (.iaload, 1) := by decide +kernel
theorem dX6_again_89 : decode cX6_again 89 = .ok (.iastore, 1) := by decide +kernel
theorem dX6_again_90 : decode cX6_again 90 = .ok (.iinc 2 1, 3) := by decide +kernel
theorem dX6_again_93 : decode cX6_again 93 = .ok (.goto (-56), 3) := by decide +kernel
theorem dX6_again_96 : decode cX6_again 96 = .ok (.aload_n 0, 1) := by decide +kernel
theorem dX6_again_97 : decode cX6_again 97 = .ok (.aload_n 1, 1) := by decide +kernel
theorem dX6_again_98 : decode cX6_again 98 = .ok (.bipush 56, 2) := by decide +kernel
theorem dX6_again_100 : decode cX6_again 100 = .ok (.iaload, 1) := by decide +kernel
theorem dX6_again_101 : decode cX6_again 101 = .ok (.putfield 71, 3) := by decide +kernel
theorem dX6_again_104 : decode cX6_again 104 = .ok (.aload_n 0, 1) := by decide +kernel
theorem dX6_again_105 : decode cX6_again 105 = .ok (.aload_n 1, 1) := by decide +kernel
theorem dX6_again_106 : decode cX6_again 106 = .ok (.bipush 57, 2) := by decide +kernel
theorem dX6_again_108 : decode cX6_again 108 = .ok (.iaload, 1) := by decide +kernel
theorem dX6_again_109 : decode cX6_again 109 = .ok (.putfield 78, 3) := by decide +kernel
theorem dX6_again_112 : decode cX6_again 112 = .ok (.aload_n 0, 1) := by decide +kernel
theorem dX6_again_113 : decode cX6_again 113 = .ok (.aload_n 1, 1) := by decide +kernel
theorem dX6_again_114 : decode cX6_again 114 = .ok (.bipush 58, 2) := by decide +kernel
theorem dX6_again_116 : decode cX6_again 116 = .ok (.iaload, 1) := by decide +kernel
theorem dX6_again_117 : decode cX6_again 117 = .ok (.putfield 60, 3) := by decide +kernel
theorem dX6_again_120 : decode cX6_again 120 = .ok (.aload_n 0, 1) := by decide +kernel
theorem dX6_again_121 : decode cX6_again 121 = .ok (.aload_n 1, 1) := by decide +kernel
theorem dX6_again_122 : decode cX6_again 122 = .ok (.bipush 59, 2) := by decide +kernel
theorem dX6_again_124 : decode cX6_again 124 = .ok (.iaload, 1) := by decide +kernel
theorem dX6_again_125 : decode cX6_again 125 = .ok (.putfield 114, 3) := by decide +kernel
theorem dX6_again_128 : decode cX6_again 128 = .ok (.return_, 1) := by decide +kernel
set_option maxRecDepth 20000 in
theorem ggX6_image_X6_keep : GoodIn wsX6_image wsX6_keep := goodIn_r _ [8, 9, 10, 11, 12, 13, 14, 15, 3, 16, 17, 18, 19, 20, 21, 22, 23, 24, 25, 26, 27, 28, 29, 30, 31, 32, 33, 34, 35, 36, 37, 38, 39, 40, 41] (by decide +kernel) (by decide +kernel)
set_option maxRecDepth 20000 in
theorem gX6_image_X6_keep : GoodIn wsX6_image (wsV RX6 127 RX6 yX6_keep wsX6_keep) := goodIn_app (goodIn_of _ (by decide +kernel)) ggX6_image_X6_keep
theorem dX6_image_0 : decode cX6_image 0 = .ok (.aload_n 0, 1) := by decide +kernel
theorem dX6_image_1 : decode cX6_image 1 = .ok (.iconst 1, 1) := by decide +kernel
theorem dX6_image_2 : decode cX6_image 2 = .ok (.putfield 198, 3) := by decide +kernel
theorem dX6_image_5 : decode cX6_image 5 = .ok (.aload_n 0, 1) := by decide +kernel
theorem dX6_image_6 : decode cX6_image 6 = .ok (.aload_n 0, 1) := by decide +kernel
theorem dX6_image_7 : decode cX6_image 7 = .ok (.getfield 37, 3) := by decide +kernel
theorem dX6_image_10 : decode cX6_image 10 = .ok (.invokevirtual 127, 3) := by decide +kernel
theorem dX6_image_13 : decode cX6_image 13 = .ok (.aload_n 0, 1) := by decide +kernel
theorem dX6_image_14 : decode cX6_image 14 = .ok (.getfield 78, 3) := by decide +kernel
theorem dX6_image_17 : decode cX6_image 17 = .ok (.ireturn, 1) := by decide +kernel
set_option maxRecDepth 20000 in
theorem ggX6_on__X6_no : GoodIn wsX6_on_ wsX6_no := goodIn_r _ [8, 9, 23, 24, 25, 26, 27, 28, 29, 30, 31, 32, 33, 34, 35, 36, 37, 38, 39, 40, 41, 42, 43, 44, 45, 46] (by decide +kernel) (by decide +kernel)
set_option maxRecDepth 20000 in
theorem gX6_on__X6_no : GoodIn wsX6_on_ (wsV RX6 65 RX6 yX6_no wsX6_no) := goodIn_app (goodIn_of _ (by decide +kernel)) ggX6_on__X6_no
set_option maxRecDepth 20000 in
theorem ggX6_on__X6_again : GoodIn wsX6_on_ wsX6_again := goodIn_r _ [13, 14, 15, 16, 17, 18, 19, 20, 3, 21, 22, 23, 24, 25, 26, 27, 28, 29, 30, 31, 32, 33, 34, 35, 36, 37, 38, 39, 40, 41, 42, 43, 44, 45, 46] (by decide +kernel) (by decide +kernel)
set_option maxRecDepth 20000 in
theorem gX6_on__X6_again : GoodIn wsX6_on_ (wsV RX6 131 RX6 yX6_again wsX6_again) := goodIn_app (goodIn_of _ (by decide +kernel)) ggX6_on__X6_again
theorem dX6_on__0 : decode cX6_on_ 0 = .ok (.aload_n 0, 1) := by decide +kernel
theorem dX6_on__1 : decode cX6_on_ 1 = .ok (.getfield 198, 3) := by decide +kernel
theorem dX6_on__4 : decode cX6_on_ 4 = .ok (.ifCond .ne 10, 3) := by decide +kernel
theorem dX6_on__7 : decode cX6_on_ 7 = .ok (.aload_n 0, 1) := by decide +kernel
theorem dX6_on__8 : decode cX6_on_ 8 = .ok (.bipush (-3), 2) := by decide +kernel
theorem dX6_on__10 : decode cX6_on_ 10 = .ok (.invokevirtual 65, 3) := by decide +kernel
theorem dX6_on__13 : decode cX6_on_ 13 = .ok (.ireturn, 1) := by decide +kernel
theorem dX6_on__14 : decode cX6_on_ 14 = .ok (.aload_n 0, 1) := by decide +kernel
theorem dX6_on__15 : decode cX6_on_ 15 = .ok (.aload_n 0, 1) := by decide +kernel
theorem dX6_on__16 : decode cX6_on_ 16 = .ok (.getfield 37, 3) := by decide +kernel
theorem dX6_on__19 : decode cX6_on_ 19 = .ok (.invokevirtual 131, 3) := by decide +kernel
theorem dX6_on__22 : decode cX6_on_ 22 = .ok (.aload_n 0, 1) := by decide +kernel
theorem dX6_on__23 : decode cX6_on_ 23 = .ok (.getfield 78, 3) := by decide +kernel
theorem dX6_on__26 : decode cX6_on_ 26 = .ok (.ireturn, 1) := by decide +kernel
set_option maxRecDepth 20000 in
theorem ggX6_count_X6_changes : GoodIn wsX6_count wsX6_changes := goodIn_r _ [13, 2, 14, 18, 19, 20, 21, 22, 23, 24, 25, 26, 27, 28, 29, 30, 31, 32, 33, 34, 35, 36, 37, 38, 39, 40, 41] (by decide +kernel) (by decide +kernel)
set_option maxRecDepth 20000 in
theorem gX6_count_X6_changes : GoodIn wsX6_count (wsV RX6 146 RX6 yX6_changes wsX6_changes) := goodIn_app (goodIn_of _ (by decide +kernel)) ggX6_count_X6_changes
set_option maxRecDepth 20000 in
theorem ggX6_count_X6_within : GoodIn wsX6_count wsX6_within := goodIn_r _ [17] (by decide +kernel) (by decide +kernel)
set_option maxRecDepth 20000 in
theorem gX6_count_X6_within : GoodIn wsX6_count (va_wsS RX6 74 yX6_within wsX6_within) := goodIn_app (goodIn_of _ (by decide +kernel)) ggX6_count_X6_within
theorem dX6_count_0 : decode cX6_count 0 = .ok (.iload_n 1, 1) := by decide +kernel
theorem dX6_count_1 : decode cX6_count 1 = .ok (.tableswitch 116 0 7 #[47, 52, 57, 62, 67, 72, 106, 111], 47) := by decide +kernel
theorem dX6_count_48 : decode cX6_count 48 = .ok (.aload_n 0, 1) := by decide +kernel
theorem dX6_count_49 : decode cX6_count 49 = .ok (.getfield 71, 3) := by decide +kernel
theorem dX6_count_52 : decode cX6_count 52 = .ok (.ireturn, 1) := by decide +kernel
theorem dX6_count_53 : decode cX6_count 53 = .ok (.aload_n 0, 1) := by decide +kernel
theorem dX6_count_54 : decode cX6_count 54 = .ok (.getfield 78, 3) := by decide +kernel
theorem dX6_count_57 : decode cX6_count 57 = .ok (.ireturn, 1) := by decide +kernel
theorem dX6_count_58 : decode cX6_count 58 = .ok (.aload_n 0, 1) := by decide +kernel
theorem dX6_count_59 : decode cX6_count 59 = .ok (.getfield 60, 3) := by decide +kernel
theorem dX6_count_62 : decode cX6_count 62 = .ok (.ireturn, 1) := by decide +kernel
theorem dX6_count_63 : decode cX6_count 63 = .ok (.aload_n 0, 1) := by decide +kernel
theorem dX6_count_64 : decode cX6_count 64 = .ok (.getfield 114, 3) := by decide +kernel
theorem dX6_count_67 : decode cX6_count 67 = .ok (.ireturn, 1) := by decide +kernel
theorem dX6_count_68 : decode cX6_count 68 = .ok (.aload_n 0, 1) := by decide +kernel
theorem dX6_count_69 : decode cX6_count 69 = .ok (.invokevirtual 146, 3) := by decide +kernel
theorem dX6_count_72 : decode cX6_count 72 = .ok (.ireturn, 1) := by decide +kernel
theorem dX6_count_73 : decode cX6_count 73 = .ok (.iconst 0, 1) := by decide +kernel
theorem dX6_count_74 : decode cX6_count 74 = .ok (.istore_n 2, 1) := by decide +kernel
theorem dX6_count_75 : decode cX6_count 75 = .ok (.iconst 0, 1) := by decide +kernel
theorem dX6_count_76 : decode cX6_count 76 = .ok (.istore_n 3, 1) := by decide +kernel
theorem dX6_count_77 : decode cX6_count 77 = .ok (.iload_n 3, 1) := by decide +kernel
theorem dX6_count_78 : decode cX6_count 78 = .ok (.aload_n 0, 1) := by decide +kernel
theorem dX6_count_79 : decode cX6_count 79 = .ok (.getfield 78, 3) := by decide +kernel
theorem dX6_count_82 : decode cX6_count 82 = .ok (.if_icmp .ge 23, 3) := by decide +kernel
theorem dX6_count_85 : decode cX6_count 85 = .ok (.aload_n 0, 1) := by decide +kernel
theorem dX6_count_86 : decode cX6_count 86 = .ok (.getfield 25, 3) := by decide +kernel
theorem dX6_count_89 : decode cX6_count 89 = .ok (.iload_n 3, 1) := by decide +kernel
theorem dX6_count_90 : decode cX6_count 90 = .ok (.iaload, 1) := by decide +kernel
theorem dX6_count_91 : decode cX6_count 91 = .ok (.bipush (-9), 2) := by decide +kernel
theorem dX6_count_93 : decode cX6_count 93 = .ok (.if_icmp .eq 6, 3) := by decide +kernel
theorem dX6_count_96 : decode cX6_count 96 = .ok (.iinc 2 1, 3) := by decide +kernel
theorem dX6_count_99 : decode cX6_count 99 = .ok (.iinc 3 1, 3) := by decide +kernel
theorem dX6_count_102 : decode cX6_count 102 = .ok (.goto (-25), 3) := by decide +kernel
theorem dX6_count_105 : decode cX6_count 105 = .ok (.iload_n 2, 1) := by decide +kernel
theorem dX6_count_106 : decode cX6_count 106 = .ok (.ireturn, 1) := by decide +kernel
theorem dX6_count_107 : decode cX6_count 107 = .ok (.aload_n 0, 1) := by decide +kernel
theorem dX6_count_108 : decode cX6_count 108 = .ok (.getfield 189, 3) := by decide +kernel
theorem dX6_count_111 : decode cX6_count 111 = .ok (.ireturn, 1) := by decide +kernel
theorem dX6_count_112 : decode cX6_count 112 = .ok (.aload_n 0, 1) := by decide +kernel
theorem dX6_count_113 : decode cX6_count 113 = .ok (.getfield 81, 3) := by decide +kernel
theorem dX6_count_116 : decode cX6_count 116 = .ok (.ireturn, 1) := by decide +kernel
theorem dX6_count_117 : decode cX6_count 117 = .ok (.iload_n 1, 1) := by decide +kernel
theorem dX6_count_118 : decode cX6_count 118 = .ok (.bipush 11, 2) := by decide +kernel
theorem dX6_count_120 : decode cX6_count 120 = .ok (.bipush 16, 2) := by decide +kernel
theorem dX6_count_122 : decode cX6_count 122 = .ok (.invokestatic 74, 3) := by decide +kernel
theorem dX6_count_125 : decode cX6_count 125 = .ok (.ifCond .eq 15, 3) := by decide +kernel
theorem dX6_count_128 : decode cX6_count 128 = .ok (.aload_n 0, 1) := by decide +kernel
theorem dX6_count_129 : decode cX6_count 129 = .ok (.getfield 34, 3) := by decide +kernel
theorem dX6_count_132 : decode cX6_count 132 = .ok (.iload_n 1, 1) := by decide +kernel
theorem dX6_count_133 : decode cX6_count 133 = .ok (.bipush 10, 2) := by decide +kernel
theorem dX6_count_135 : decode cX6_count 135 = .ok (.isub, 1) := by decide +kernel
theorem dX6_count_136 : decode cX6_count 136 = .ok (.iaload, 1) := by decide +kernel
theorem dX6_count_137 : decode cX6_count 137 = .ok (.goto 5, 3) := by decide +kernel
theorem dX6_count_140 : decode cX6_count 140 = .ok (.bipush (-9), 2) := by decide +kernel
theorem dX6_count_142 : decode cX6_count 142 = .ok (.ireturn, 1) := by decide +kernel
theorem dJ11_isValidCodePoint_9a6ad_0 : decode cJ11_isValidCodePoint_9a6ad 0 = .ok (.iload_n 0, 1) := by decide +kernel
theorem dJ11_isValidCodePoint_9a6ad_1 : decode cJ11_isValidCodePoint_9a6ad 1 = .ok (.bipush 16, 2) := by decide +kernel
theorem dJ11_isValidCodePoint_9a6ad_3 : decode cJ11_isValidCodePoint_9a6ad 3 = .ok (.iushr, 1) := by decide +kernel
theorem dJ11_isValidCodePoint_9a6ad_4 : decode cJ11_isValidCodePoint_9a6ad 4 = .ok (.istore_n 1, 1) := by decide +kernel
theorem dJ11_isValidCodePoint_9a6ad_5 : decode cJ11_isValidCodePoint_9a6ad 5 = .ok (.iload_n 1, 1) := by decide +kernel
theorem dJ11_isValidCodePoint_9a6ad_6 : decode cJ11_isValidCodePoint_9a6ad 6 = .ok (.bipush 17, 2) := by decide +kernel
theorem dJ11_isValidCodePoint_9a6ad_8 : decode cJ11_isValidCodePoint_9a6ad 8 = .ok (.if_icmp .ge 7, 3) := by decide +kernel
theorem dJ11_isValidCodePoint_9a6ad_11 : decode cJ11_isValidCodePoint_9a6ad 11 = .ok (.iconst 1, 1) := by decide +kernel
theorem dJ11_isValidCodePoint_9a6ad_12 : decode cJ11_isValidCodePoint_9a6ad 12 = .ok (.goto 4, 3) := by decide +kernel
theorem dJ11_isValidCodePoint_9a6ad_15 : decode cJ11_isValidCodePoint_9a6ad 15 = .ok (.iconst 0, 1) := by decide +kernel
theorem dJ11_isValidCodePoint_9a6ad_16 : decode cJ11_isValidCodePoint_9a6ad 16 = .ok (.ireturn, 1) := by decide +kernel
theorem dJ11_highSurrogate_5068e_0 : decode cJ11_highSurrogate_5068e 0 = .ok (.iload_n 0, 1) := by decide +kernel
theorem dJ11_highSurrogate_5068e_1 : decode cJ11_highSurrogate_5068e 1 = .ok (.bipush 10, 2) := by decide +kernel
theorem dJ11_highSurrogate_5068e_3 : decode cJ11_highSurrogate_5068e 3 = .ok (.iushr, 1) := by decide +kernel
theorem dJ11_highSurrogate_5068e_4 : decode cJ11_highSurrogate_5068e 4 = .ok (.ldc 110, 2) := by decide +kernel
theorem dJ11_highSurrogate_5068e_6 : decode cJ11_highSurrogate_5068e 6 = .ok (.iadd, 1) := by decide +kernel
theorem dJ11_highSurrogate_5068e_7 : decode cJ11_highSurrogate_5068e 7 = .ok (.i2c, 1) := by decide +kernel
theorem dJ11_highSurrogate_5068e_8 : decode cJ11_highSurrogate_5068e 8 = .ok (.ireturn, 1) := by decide +kernel
theorem dJ11_lowSurrogate_5068e_0 : decode cJ11_lowSurrogate_5068e 0 = .ok (.iload_n 0, 1) := by decide +kernel
theorem dJ11_lowSurrogate_5068e_1 : decode cJ11_lowSurrogate_5068e 1 = .ok (.sipush 1023, 3) := by decide +kernel
theorem dJ11_lowSurrogate_5068e_4 : decode cJ11_lowSurrogate_5068e 4 = .ok (.iand, 1) := by decide +kernel
theorem dJ11_lowSurrogate_5068e_5 : decode cJ11_lowSurrogate_5068e 5 = .ok (.ldc 76, 2) := by decide +kernel
theorem dJ11_lowSurrogate_5068e_7 : decode cJ11_lowSurrogate_5068e 7 = .ok (.iadd, 1) := by decide +kernel
theorem dJ11_lowSurrogate_5068e_8 : decode cJ11_lowSurrogate_5068e 8 = .ok (.i2c, 1) := by decide +kernel
theorem dJ11_lowSurrogate_5068e_9 : decode cJ11_lowSurrogate_5068e 9 = .ok (.ireturn, 1) := by decide +kernel
theorem dJ9_max_7cf53_0 : decode cJ9_max_7cf53 0 = .ok (.iload_n 0, 1) := by decide +kernel
theorem dJ9_max_7cf53_1 : decode cJ9_max_7cf53 1 = .ok (.iload_n 1, 1) := by decide +kernel
theorem dJ9_max_7cf53_2 : decode cJ9_max_7cf53 2 = .ok (.if_icmp .lt 7, 3) := by decide +kernel
theorem dJ9_max_7cf53_5 : decode cJ9_max_7cf53 5 = .ok (.iload_n 0, 1) := by decide +kernel
theorem dJ9_max_7cf53_6 : decode cJ9_max_7cf53 6 = .ok (.goto 4, 3) := by decide +kernel
theorem dJ9_max_7cf53_9 : decode cJ9_max_7cf53 9 = .ok (.iload_n 1, 1) := by decide +kernel
theorem dJ9_max_7cf53_10 : decode cJ9_max_7cf53 10 = .ok (.ireturn, 1) := by decide +kernel
theorem dJ9_min_7cf53_0 : decode cJ9_min_7cf53 0 = .ok (.iload_n 0, 1) := by decide +kernel
theorem dJ9_min_7cf53_1 : decode cJ9_min_7cf53 1 = .ok (.iload_n 1, 1) := by decide +kernel
theorem dJ9_min_7cf53_2 : decode cJ9_min_7cf53 2 = .ok (.if_icmp .gt 7, 3) := by decide +kernel
theorem dJ9_min_7cf53_5 : decode cJ9_min_7cf53 5 = .ok (.iload_n 0, 1) := by decide +kernel
theorem dJ9_min_7cf53_6 : decode cJ9_min_7cf53 6 = .ok (.goto 4, 3) := by decide +kernel
theorem dJ9_min_7cf53_9 : decode cJ9_min_7cf53 9 = .ok (.iload_n 1, 1) := by decide +kernel
theorem dJ9_min_7cf53_10 : decode cJ9_min_7cf53 10 = .ok (.ireturn, 1) := by decide +kernel
