theorem dX0_init_0 : decode cX0_init 0 = .ok (.aload_n 0, 1) := by decide +kernel
theorem dX0_init_1 : decode cX0_init 1 = .ok (.invokespecial 3, 3) := by decide +kernel
theorem dX0_init_4 : decode cX0_init 4 = .ok (.aload_n 0, 1) := by decide +kernel
theorem dX0_init_5 : decode cX0_init 5 = .ok (.bipush 20, 2) := by decide +kernel
theorem dX0_init_7 : decode cX0_init 7 = .ok (.newarray .int, 2) := by decide +kernel
theorem dX0_init_9 : decode cX0_init 9 = .ok (.putfield 9, 3) := by decide +kernel
theorem dX0_init_12 : decode cX0_init 12 = .ok (.aload_n 0, 1) := by decide +kernel
theorem dX0_init_13 : decode cX0_init 13 = .ok (.iconst 4, 1) := by decide +kernel
theorem dX0_init_14 : decode cX0_init 14 = .ok (.newarray .boolean, 2) := by decide +kernel
theorem dX0_init_16 : decode cX0_init 16 = .ok (.putfield 15, 3) := by decide +kernel
theorem dX0_init_19 : decode cX0_init 19 = .ok (.aload_n 0, 1) := by decide +kernel
theorem dX0_init_20 : decode cX0_init 20 = .ok (.iconst 4, 1) := by decide +kernel
theorem dX0_init_21 : decode cX0_init 21 = .ok (.bipush 21, 2) := by decide +kernel
theorem dX0_init_23 : decode cX0_init 23 = .ok (.multianewarray 19 2, 4) := by decide +kernel
theorem dX0_init_27 : decode cX0_init 27 = .ok (.putfield 21, 3) := by decide +kernel
theorem dX0_init_30 : decode cX0_init 30 = .ok (.aload_n 0, 1) := by decide +kernel
theorem dX0_init_31 : decode cX0_init 31 = .ok (.iconst 4, 1) := by decide +kernel
theorem dX0_init_32 : decode cX0_init 32 = .ok (.bipush 21, 2) := by decide +kernel
theorem dX0_init_34 : decode cX0_init 34 = .ok (.multianewarray 19 2, 4) := by decide +kernel
theorem dX0_init_38 : decode cX0_init 38 = .ok (.putfield 24, 3) := by decide +kernel
theorem dX0_init_41 : decode cX0_init 41 = .ok (.aload_n 0, 1) := by decide +kernel
theorem dX0_init_42 : decode cX0_init 42 = .ok (.iconst 0, 1) := by decide +kernel
theorem dX0_init_43 : decode cX0_init 43 = .ok (.putfield 27, 3) := by decide +kernel
theorem dX0_init_46 : decode cX0_init 46 = .ok (.aload_n 0, 1) := by decide +kernel
theorem dX0_init_47 : decode cX0_init 47 = .ok (.iconst 0, 1) := by decide +kernel
theorem dX0_init_48 : decode cX0_init 48 = .ok (.putfield 31, 3) := by decide +kernel
theorem dX0_init_51 : decode cX0_init 51 = .ok (.return_, 1) := by decide +kernel
set_option maxRecDepth 20000 in
theorem ggX0_beginUnknown_J7_fill_53178 : GoodIn wsX0_beginUnknown wsJ7_fill_53178 := goodIn_r _ [12] (by decide +kernel) (by decide +kernel)
set_option maxRecDepth 20000 in
theorem gX0_beginUnknown_J7_fill_53178 : GoodIn wsX0_beginUnknown (va_wsS RX0 40 yJ7_fill_53178 wsJ7_fill_53178) := goodIn_app (goodIn_of _ (by decide +kernel)) ggX0_beginUnknown_J7_fill_53178
theorem dX0_beginUnknown_0 : decode cX0_beginUnknown 0 = .ok (.aload_n 0, 1) := by decide +kernel
theorem dX0_beginUnknown_1 : decode cX0_beginUnknown 1 = .ok (.iload_n 1, 1) := by decide +kernel
theorem dX0_beginUnknown_2 : decode cX0_beginUnknown 2 = .ok (.bipush 20, 2) := by decide +kernel
theorem dX0_beginUnknown_4 : decode cX0_beginUnknown 4 = .ok (.invokestatic 34, 3) := by decide +kernel
theorem dX0_beginUnknown_7 : decode cX0_beginUnknown 7 = .ok (.putfield 27, 3) := by decide +kernel
theorem dX0_beginUnknown_10 : decode cX0_beginUnknown 10 = .ok (.aload_n 0, 1) := by decide +kernel
theorem dX0_beginUnknown_11 : decode cX0_beginUnknown 11 = .ok (.iload_n 2, 1) := by decide +kernel
theorem dX0_beginUnknown_12 : decode cX0_beginUnknown 12 = .ok (.iconst 4, 1) := by decide +kernel
theorem dX0_beginUnknown_13 : decode cX0_beginUnknown 13 = .ok (.invokestatic 34, 3) := by decide +kernel
theorem dX0_beginUnknown_16 : decode cX0_beginUnknown 16 = .ok (.putfield 31, 3) := by decide +kernel
theorem dX0_beginUnknown_19 : decode cX0_beginUnknown 19 = .ok (.aload_n 0, 1) := by decide +kernel
theorem dX0_beginUnknown_20 : decode cX0_beginUnknown 20 = .ok (.getfield 9, 3) := by decide +kernel
theorem dX0_beginUnknown_23 : decode cX0_beginUnknown 23 = .ok (.bipush 9, 2) := by decide +kernel
theorem dX0_beginUnknown_25 : decode cX0_beginUnknown 25 = .ok (.invokestatic 40, 3) := by decide +kernel
theorem dX0_beginUnknown_28 : decode cX0_beginUnknown 28 = .ok (.iconst 0, 1) := by decide +kernel
theorem dX0_beginUnknown_29 : decode cX0_beginUnknown 29 = .ok (.istore_n 3, 1) := by decide +kernel
theorem dX0_beginUnknown_30 : decode cX0_beginUnknown 30 = .ok (.iload_n 3, 1) := by decide +kernel
theorem dX0_beginUnknown_31 : decode cX0_beginUnknown 31 = .ok (.aload_n 0, 1) := by decide +kernel
theorem dX0_beginUnknown_32 : decode cX0_beginUnknown 32 = .ok (.getfield 31, 3) := by decide +kernel
theorem dX0_beginUnknown_35 : decode cX0_beginUnknown 35 = .ok (.if_icmp .ge 16, 3) := by decide +kernel
theorem dX0_beginUnknown_38 : decode cX0_beginUnknown 38 = .ok (.aload_n 0, 1) := by decide +kernel
theorem dX0_beginUnknown_39 : decode cX0_beginUnknown 39 = .ok (.getfield 15, 3) := by decide +kernel
theorem dX0_beginUnknown_42 : decode cX0_beginUnknown 42 = .ok (.iload_n 3, 1) := by decide +kernel
theorem dX0_beginUnknown_43 : decode cX0_beginUnknown 43 = .ok (.iconst 1, 1) := by decide +kernel
theorem dX0_beginUnknown_44 : decode cX0_beginUnknown 44 = .ok (.bastore, 1) := by decide +kernel
theorem dX0_beginUnknown_45 : decode cX0_beginUnknown 45 = .ok (.iinc 3 1, 3) := by decide +kernel
theorem dX0_beginUnknown_48 : decode cX0_beginUnknown 48 = .ok (.goto (-18), 3) := by decide +kernel
theorem dX0_beginUnknown_51 : decode cX0_beginUnknown 51 = .ok (.return_, 1) := by decide +kernel
set_option maxRecDepth 20000 in
theorem ggX0_beginSeen_X4_isTaxed : GoodIn wsX0_beginSeen wsX4_isTaxed := goodIn_r _ [18, 19, 20, 21, 22, 17, 23, 24, 31, 32, 33, 34, 35, 36, 37, 38, 39, 40] (by decide +kernel) (by decide +kernel)
set_option maxRecDepth 20000 in
theorem gX0_beginSeen_X4_isTaxed : GoodIn wsX0_beginSeen (wsV RX0 55 RX4 yX4_isTaxed wsX4_isTaxed) := goodIn_app (goodIn_of _ (by decide +kernel)) ggX0_beginSeen_X4_isTaxed
theorem dX0_beginSeen_0 : decode cX0_beginSeen 0 = .ok (.aload_n 0, 1) := by decide +kernel
theorem dX0_beginSeen_1 : decode cX0_beginSeen 1 = .ok (.iload_n 3, 1) := by decide +kernel
theorem dX0_beginSeen_2 : decode cX0_beginSeen 2 = .ok (.bipush 20, 2) := by decide +kernel
theorem dX0_beginSeen_4 : decode cX0_beginSeen 4 = .ok (.invokestatic 34, 3) := by decide +kernel
theorem dX0_beginSeen_7 : decode cX0_beginSeen 7 = .ok (.putfield 27, 3) := by decide +kernel
theorem dX0_beginSeen_10 : decode cX0_beginSeen 10 = .ok (.aload_n 0, 1) := by decide +kernel
theorem dX0_beginSeen_11 : decode cX0_beginSeen 11 = .ok (.aload_n 1, 1) := by decide +kernel
theorem dX0_beginSeen_12 : decode cX0_beginSeen 12 = .ok (.getfield 46, 3) := by decide +kernel
theorem dX0_beginSeen_15 : decode cX0_beginSeen 15 = .ok (.putfield 31, 3) := by decide +kernel
theorem dX0_beginSeen_18 : decode cX0_beginSeen 18 = .ok (.aload_n 2, 1) := by decide +kernel
theorem dX0_beginSeen_19 : decode cX0_beginSeen 19 = .ok (.iconst 0, 1) := by decide +kernel
theorem dX0_beginSeen_20 : decode cX0_beginSeen 20 = .ok (.aload_n 0, 1) := by decide +kernel
theorem dX0_beginSeen_21 : decode cX0_beginSeen 21 = .ok (.getfield 9, 3) := by decide +kernel
theorem dX0_beginSeen_24 : decode cX0_beginSeen 24 = .ok (.iconst 0, 1) := by decide +kernel
theorem dX0_beginSeen_25 : decode cX0_beginSeen 25 = .ok (.bipush 20, 2) := by decide +kernel
theorem dX0_beginSeen_27 : decode cX0_beginSeen 27 = .ok (.invokestatic 49, 3) := by decide +kernel
theorem dX0_beginSeen_30 : decode cX0_beginSeen 30 = .ok (.iconst 0, 1) := by decide +kernel
theorem dX0_beginSeen_31 : decode cX0_beginSeen 31 = .ok (.istore 4, 2) := by decide +kernel
theorem dX0_beginSeen_33 : decode cX0_beginSeen 33 = .ok (.iload 4, 2) := by decide +kernel
theorem dX0_beginSeen_35 : decode cX0_beginSeen 35 = .ok (.aload_n 0, 1) := by decide +kernel
theorem dX0_beginSeen_36 : decode cX0_beginSeen 36 = .ok (.getfield 31, 3) := by decide +kernel
theorem dX0_beginSeen_39 : decode cX0_beginSeen 39 = .ok (.if_icmp .ge 22, 3) := by decide +kernel
theorem dX0_beginSeen_42 : decode cX0_beginSeen 42 = .ok (.aload_n 0, 1) := by decide +kernel
theorem dX0_beginSeen_43 : decode cX0_beginSeen 43 = .ok (.getfield 15, 3) := by decide +kernel
theorem dX0_beginSeen_46 : decode cX0_beginSeen 46 = .ok (.iload 4, 2) := by decide +kernel
theorem dX0_beginSeen_48 : decode cX0_beginSeen 48 = .ok (.aload_n 1, 1) := by decide +kernel
theorem dX0_beginSeen_49 : decode cX0_beginSeen 49 = .ok (.iload 4, 2) := by decide +kernel
theorem dX0_beginSeen_51 : decode cX0_beginSeen 51 = .ok (.invokevirtual 55, 3) := by decide +kernel
theorem dX0_beginSeen_54 : decode cX0_beginSeen 54 = .ok (.bastore, 1) := by decide +kernel
theorem dX0_beginSeen_55 : decode cX0_beginSeen 55 = .ok (.iinc 4 1, 3) := by decide +kernel
theorem dX0_beginSeen_58 : decode cX0_beginSeen 58 = .ok (.goto (-25), 3) := by decide +kernel
theorem dX0_beginSeen_61 : decode cX0_beginSeen 61 = .ok (.return_, 1) := by decide +kernel
set_option maxRecDepth 20000 in
theorem ggX0_thatPay_X0_withLongest : GoodIn wsX0_thatPay wsX0_withLongest := goodIn_r _ [5, 6, 7, 8, 4, 9, 10, 11, 12, 13, 14, 15, 16, 17, 18, 19, 20, 21, 22, 23, 24, 25, 26, 27, 28, 29, 30, 31, 32, 33] (by decide +kernel) (by decide +kernel)
set_option maxRecDepth 20000 in
theorem gX0_thatPay_X0_withLongest : GoodIn wsX0_thatPay (wsV RX0 58 RX0 yX0_withLongest wsX0_withLongest) := goodIn_app (goodIn_of _ (by decide +kernel)) ggX0_thatPay_X0_withLongest
theorem dX0_thatPay_0 : decode cX0_thatPay 0 = .ok (.iconst 0, 1) := by decide +kernel
theorem dX0_thatPay_1 : decode cX0_thatPay 1 = .ok (.istore_n 2, 1) := by decide +kernel
theorem dX0_thatPay_2 : decode cX0_thatPay 2 = .ok (.iload_n 2, 1) := by decide +kernel
theorem dX0_thatPay_3 : decode cX0_thatPay 3 = .ok (.bipush 20, 2) := by decide +kernel
theorem dX0_thatPay_5 : decode cX0_thatPay 5 = .ok (.if_icmp .gt 22, 3) := by decide +kernel
theorem dX0_thatPay_8 : decode cX0_thatPay 8 = .ok (.iload_n 2, 1) := by decide +kernel
theorem dX0_thatPay_9 : decode cX0_thatPay 9 = .ok (.iload_n 2, 1) := by decide +kernel
theorem dX0_thatPay_10 : decode cX0_thatPay 10 = .ok (.imul, 1) := by decide +kernel
theorem dX0_thatPay_11 : decode cX0_thatPay 11 = .ok (.iload_n 1, 1) := by decide +kernel
theorem dX0_thatPay_12 : decode cX0_thatPay 12 = .ok (.if_icmp .ne 9, 3) := by decide +kernel
theorem dX0_thatPay_15 : decode cX0_thatPay 15 = .ok (.aload_n 0, 1) := by decide +kernel
theorem dX0_thatPay_16 : decode cX0_thatPay 16 = .ok (.iload_n 2, 1) := by decide +kernel
theorem dX0_thatPay_17 : decode cX0_thatPay 17 = .ok (.invokevirtual 58, 3) := by decide +kernel
theorem dX0_thatPay_20 : decode cX0_thatPay 20 = .ok (.lreturn, 1) := by decide +kernel
theorem dX0_thatPay_21 : decode cX0_thatPay 21 = .ok (.iinc 2 1, 3) := by decide +kernel
theorem dX0_thatPay_24 : decode cX0_thatPay 24 = .ok (.goto (-22), 3) := by decide +kernel
theorem dX0_thatPay_27 : decode cX0_thatPay 27 = .ok (.lconst 0, 1) := by decide +kernel
theorem dX0_thatPay_28 : decode cX0_thatPay 28 = .ok (.lreturn, 1) := by decide +kernel
set_option maxRecDepth 20000 in
theorem ggX0_thatPayWith_X0_isPossible : GoodIn wsX0_thatPayWith wsX0_isPossible := goodIn_r _ [7, 2, 32, 33, 34, 35, 36, 37] (by decide +kernel) (by decide +kernel)
set_option maxRecDepth 20000 in
theorem gX0_thatPayWith_X0_isPossible : GoodIn wsX0_thatPayWith (wsV RX0 62 RX0 yX0_isPossible wsX0_isPossible) := goodIn_app (goodIn_of _ (by decide +kernel)) ggX0_thatPayWith_X0_isPossible
set_option maxRecDepth 20000 in
theorem ggX0_thatPayWith_X0_thatPay : GoodIn wsX0_thatPayWith wsX0_thatPay := goodIn_r _ [11, 12, 13, 14, 6, 15, 16, 17, 18, 19, 20, 21, 1, 22, 23, 24, 25, 26, 27, 28, 29, 30, 31, 3, 4, 5, 7, 2, 32, 33, 34, 35, 36, 37] (by decide +kernel) (by decide +kernel)
set_option maxRecDepth 20000 in
theorem gX0_thatPayWith_X0_thatPay : GoodIn wsX0_thatPayWith (wsV RX0 66 RX0 yX0_thatPay wsX0_thatPay) := goodIn_app (goodIn_of _ (by decide +kernel)) ggX0_thatPayWith_X0_thatPay
theorem dX0_thatPayWith_0 : decode cX0_thatPayWith 0 = .ok (.iload_n 2, 1) := by decide +kernel
theorem dX0_thatPayWith_1 : decode cX0_thatPayWith 1 = .ok (.ifCond .lt 20, 3) := by decide +kernel
theorem dX0_thatPayWith_4 : decode cX0_thatPayWith 4 = .ok (.iload_n 2, 1) := by decide +kernel
theorem dX0_thatPayWith_5 : decode cX0_thatPayWith 5 = .ok (.aload_n 0, 1) := by decide +kernel
theorem dX0_thatPayWith_6 : decode cX0_thatPayWith 6 = .ok (.getfield 27, 3) := by decide +kernel
theorem dX0_thatPayWith_9 : decode cX0_thatPayWith 9 = .ok (.if_icmp .ge 12, 3) := by decide +kernel
theorem dX0_thatPayWith_12 : decode cX0_thatPayWith 12 = .ok (.aload_n 0, 1) := by decide +kernel
theorem dX0_thatPayWith_13 : decode cX0_thatPayWith 13 = .ok (.iload_n 2, 1) := by decide +kernel
theorem dX0_thatPayWith_14 : decode cX0_thatPayWith 14 = .ok (.iload_n 3, 1) := by decide +kernel
theorem dX0_thatPayWith_15 : decode cX0_thatPayWith 15 = .ok (.invokevirtual 62, 3) := by decide +kernel
theorem dX0_thatPayWith_18 : decode cX0_thatPayWith 18 = .ok (.ifCond .ne 5, 3) := by decide +kernel
theorem dX0_thatPayWith_21 : decode cX0_thatPayWith 21 = .ok (.lconst 0, 1) := by decide +kernel
theorem dX0_thatPayWith_22 : decode cX0_thatPayWith 22 = .ok (.lreturn, 1) := by decide +kernel
theorem dX0_thatPayWith_23 : decode cX0_thatPayWith 23 = .ok (.aload_n 0, 1) := by decide +kernel
theorem dX0_thatPayWith_24 : decode cX0_thatPayWith 24 = .ok (.getfield 9, 3) := by decide +kernel
theorem dX0_thatPayWith_27 : decode cX0_thatPayWith 27 = .ok (.iload_n 2, 1) := by decide +kernel
theorem dX0_thatPayWith_28 : decode cX0_thatPayWith 28 = .ok (.iload_n 3, 1) := by decide +kernel
theorem dX0_thatPayWith_29 : decode cX0_thatPayWith 29 = .ok (.iastore, 1) := by decide +kernel
theorem dX0_thatPayWith_30 : decode cX0_thatPayWith 30 = .ok (.aload_n 0, 1) := by decide +kernel
theorem dX0_thatPayWith_31 : decode cX0_thatPayWith 31 = .ok (.iload_n 1, 1) := by decide +kernel
theorem dX0_thatPayWith_32 : decode cX0_thatPayWith 32 = .ok (.invokevirtual 66, 3) := by decide +kernel
theorem dX0_thatPayWith_35 : decode cX0_thatPayWith 35 = .ok (.lreturn, 1) := by decide +kernel
set_option maxRecDepth 20000 in
theorem ggX0_withLongest_X0_within : GoodIn wsX0_withLongest wsX0_within := goodIn_r _ [5, 6, 7, 8, 9, 10, 11, 12, 4, 13, 14, 15, 16, 17, 18, 19, 20, 21, 22, 23, 24, 25, 26, 27, 28, 29] (by decide +kernel) (by decide +kernel)
set_option maxRecDepth 20000 in
theorem gX0_withLongest_X0_within : GoodIn wsX0_withLongest (wsV RX0 69 RX0 yX0_within wsX0_within) := goodIn_app (goodIn_of _ (by decide +kernel)) ggX0_withLongest_X0_within
theorem dX0_withLongest_0 : decode cX0_withLongest 0 = .ok (.iload_n 1, 1) := by decide +kernel
theorem dX0_withLongest_1 : decode cX0_withLongest 1 = .ok (.ifCond .ne 11, 3) := by decide +kernel
theorem dX0_withLongest_4 : decode cX0_withLongest 4 = .ok (.aload_n 0, 1) := by decide +kernel
theorem dX0_withLongest_5 : decode cX0_withLongest 5 = .ok (.iconst 0, 1) := by decide +kernel
theorem dX0_withLongest_6 : decode cX0_withLongest 6 = .ok (.invokevirtual 69, 3) := by decide +kernel
theorem dX0_withLongest_9 : decode cX0_withLongest 9 = .ok (.goto 16, 3) := by decide +kernel
theorem dX0_withLongest_12 : decode cX0_withLongest 12 = .ok (.aload_n 0, 1) := by decide +kernel
theorem dX0_withLongest_13 : decode cX0_withLongest 13 = .ok (.iload_n 1, 1) := by decide +kernel
theorem dX0_withLongest_14 : decode cX0_withLongest 14 = .ok (.invokevirtual 69, 3) := by decide +kernel
theorem dX0_withLongest_17 : decode cX0_withLongest 17 = .ok (.aload_n 0, 1) := by decide +kernel
theorem dX0_withLongest_18 : decode cX0_withLongest 18 = .ok (.iload_n 1, 1) := by decide +kernel
theorem dX0_withLongest_19 : decode cX0_withLongest 19 = .ok (.iconst 1, 1) := by decide +kernel
theorem dX0_withLongest_20 : decode cX0_withLongest 20 = .ok (.isub, 1) := by decide +kernel
theorem dX0_withLongest_21 : decode cX0_withLongest 21 = .ok (.invokevirtual 69, 3) := by decide +kernel
theorem dX0_withLongest_24 : decode cX0_withLongest 24 = .ok (.lsub, 1) := by decide +kernel
theorem dX0_withLongest_25 : decode cX0_withLongest 25 = .ok (.lreturn, 1) := by decide +kernel
set_option maxRecDepth 20000 in
theorem ggX0_within_X0_waysOfStretch : GoodIn wsX0_within wsX0_waysOfStretch := goodIn_r _ [9, 10, 3, 11, 12, 13, 14, 2, 15, 16, 17, 8, 18, 19, 20, 21, 22, 23, 24, 25] (by decide +kernel) (by decide +kernel)
set_option maxRecDepth 20000 in
theorem gX0_within_X0_waysOfStretch : GoodIn wsX0_within (wsV RX0 72 RX0 yX0_waysOfStretch wsX0_waysOfStretch) := goodIn_app (goodIn_of _ (by decide +kernel)) ggX0_within_X0_waysOfStretch
theorem dX0_within_0 : decode cX0_within 0 = .ok (.iconst 0, 1) := by decide +kernel
theorem dX0_within_1 : decode cX0_within 1 = .ok (.istore_n 2, 1) := by decide +kernel
theorem dX0_within_2 : decode cX0_within 2 = .ok (.iload_n 2, 1) := by decide +kernel
theorem dX0_within_3 : decode cX0_within 3 = .ok (.aload_n 0, 1) := by decide +kernel
theorem dX0_within_4 : decode cX0_within 4 = .ok (.getfield 31, 3) := by decide +kernel
theorem dX0_within_7 : decode cX0_within 7 = .ok (.if_icmp .ge 21, 3) := by decide +kernel
theorem dX0_within_10 : decode cX0_within 10 = .ok (.aload_n 0, 1) := by decide +kernel
theorem dX0_within_11 : decode cX0_within 11 = .ok (.getfield 24, 3) := by decide +kernel
theorem dX0_within_14 : decode cX0_within 14 = .ok (.iload_n 2, 1) := by decide +kernel
theorem dX0_within_15 : decode cX0_within 15 = .ok (.aaload, 1) := by decide +kernel
theorem dX0_within_16 : decode cX0_within 16 = .ok (.aload_n 0, 1) := by decide +kernel
theorem dX0_within_17 : decode cX0_within 17 = .ok (.getfield 27, 3) := by decide +kernel
theorem dX0_within_20 : decode cX0_within 20 = .ok (.lconst 1, 1) := by decide +kernel
theorem dX0_within_21 : decode cX0_within 21 = .ok (.lastore, 1) := by decide +kernel
theorem dX0_within_22 : decode cX0_within 22 = .ok (.iinc 2 1, 3) := by decide +kernel
theorem dX0_within_25 : decode cX0_within 25 = .ok (.goto (-23), 3) := by decide +kernel
theorem dX0_within_28 : decode cX0_within 28 = .ok (.lconst 0, 1) := by decide +kernel
theorem dX0_within_29 : decode cX0_within 29 = .ok (.lstore_n 2, 1) := by decide +kernel
theorem dX0_within_30 : decode cX0_within 30 = .ok (.aload_n 0, 1) := by decide +kernel
theorem dX0_within_31 : decode cX0_within 31 = .ok (.getfield 27, 3) := by decide +kernel
theorem dX0_within_34 : decode cX0_within 34 = .ok (.iconst 1, 1) := by decide +kernel
theorem dX0_within_35 : decode cX0_within 35 = .ok (.isub, 1) := by decide +kernel
theorem dX0_within_36 : decode cX0_within 36 = .ok (.istore 4, 2) := by decide +kernel
theorem dX0_within_38 : decode cX0_within 38 = .ok (.iload 4, 2) := by decide +kernel
theorem dX0_within_40 : decode cX0_within 40 = .ok (.ifCond .lt 101, 3) := by decide +kernel
theorem dX0_within_43 : decode cX0_within 43 = .ok (.lconst 0, 1) := by decide +kernel
theorem dX0_within_44 : decode cX0_within 44 = .ok (.lstore_n 2, 1) := by decide +kernel
theorem dX0_within_45 : decode cX0_within 45 = .ok (.iconst 0, 1) := by decide +kernel
theorem dX0_within_46 : decode cX0_within 46 = .ok (.istore 5, 2) := by decide +kernel
theorem dX0_within_48 : decode cX0_within 48 = .ok (.iload 5, 2) := by decide +kernel
theorem dX0_within_50 : decode cX0_within 50 = .ok (.aload_n 0, 1) := by decide +kernel
theorem dX0_within_51 : decode cX0_within 51 = .ok (.getfield 31, 3) := by decide +kernel
theorem dX0_within_54 : decode cX0_within 54 = .ok (.if_icmp .ge 41, 3) := by decide +kernel
theorem dX0_within_57 : decode cX0_within 57 = .ok (.aload_n 0, 1) := by decide +kernel
theorem dX0_within_58 : decode cX0_within 58 = .ok (.getfield 21, 3) := by decide +kernel
theorem dX0_within_61 : decode cX0_within 61 = .ok (.iload 5, 2) := by decide +kernel
theorem dX0_within_63 : decode cX0_within 63 = .ok (.aaload, 1) := by decide +kernel
theorem dX0_within_64 : decode cX0_within 64 = .ok (.iload 4, 2) := by decide +kernel
theorem dX0_within_66 : decode cX0_within 66 = .ok (.aload_n 0, 1) := by decide +kernel
theorem dX0_within_67 : decode cX0_within 67 = .ok (.iload 5, 2) := by decide +kernel
theorem dX0_within_69 : decode cX0_within 69 = .ok (.iload 4, 2) := by decide +kernel
theorem dX0_within_71 : decode cX0_within 71 = .ok (.iload_n 1, 1) := by decide +kernel
theorem dX0_within_72 : decode cX0_within 72 = .ok (.invokevirtual 72, 3) := by decide +kernel
theorem dX0_within_75 : decode cX0_within 75 = .ok (.lastore, 1) := by decide +kernel
theorem dX0_within_76 : decode cX0_within 76 = .ok (.lload_n 2, 1) := by decide +kernel
theorem dX0_within_77 : decode cX0_within 77 = .ok (.aload_n 0, 1) := by decide +kernel
theorem dX0_within_78 : decode cX0_within 78 = .ok (.getfield 21, 3) := by decide +kernel
theorem dX0_within_81 : decode cX0_within 81 = .ok (.iload 5, 2) := by decide +kernel
theorem dX0_within_83 : decode cX0_within 83 = .ok (.aaload, 1) := by decide +kernel
theorem dX0_within_84 : decode cX0_within 84 = .ok (.iload 4, 2) := by decide +kernel
theorem dX0_within_86 : decode cX0_within 86 = .ok (.laload, 1) := by decide +kernel
theorem dX0_within_87 : decode cX0_within 87 = .ok (.ladd, 1) := by decide +kernel
theorem dX0_within_88 : decode cX0_within 88 = .ok (.lstore_n 2, 1) := by decide +kernel
theorem dX0_within_89 : decode cX0_within 89 = .ok (.iinc 5 1, 3) := by decide +kernel
theorem dX0_within_92 : decode cX0_within 92 = .ok (.goto (-44), 3) := by decide +kernel
theorem dX0_within_95 : decode cX0_within 95 = .ok (.iconst 0, 1) := by decide +kernel
theorem dX0_within_96 : decode cX0_within 96 = .ok (.istore 5, 2) := by decide +kernel
theorem dX0_within_98 : decode cX0_within 98 = .ok (.iload 5, 2) := by decide +kernel
theorem dX0_within_100 : decode cX0_within 100 = .ok (.aload_n 0, 1) := by decide +kernel
theorem dX0_within_101 : decode cX0_within 101 = .ok (.getfield 31, 3) := by decide +kernel
theorem dX0_within_104 : decode cX0_within 104 = .ok (.if_icmp .ge 31, 3) := by decide +kernel
theorem dX0_within_107 : decode cX0_within 107 = .ok (.aload_n 0, 1) := by decide +kernel
theorem dX0_within_108 : decode cX0_within 108 = .ok (.getfield 24, 3) := by decide +kernel
theorem dX0_within_111 : decode cX0_within 111 = .ok (.iload 5, 2) := by decide +kernel
theorem dX0_within_113 : decode cX0_within 113 = .ok (.aaload, 1) := by decide +kernel
theorem dX0_within_114 : decode cX0_within 114 = .ok (.iload 4, 2) := by decide +kernel
theorem dX0_within_116 : decode cX0_within 116 = .ok (.lload_n 2, 1) := by decide +kernel
theorem dX0_within_117 : decode cX0_within 117 = .ok (.aload_n 0, 1) := by decide +kernel
theorem dX0_within_118 : decode cX0_within 118 = .ok (.getfield 21, 3) := by decide +kernel
theorem dX0_within_121 : decode cX0_within 121 = .ok (.iload 5, 2) := by decide +kernel
theorem dX0_within_123 : decode cX0_within 123 = .ok (.aaload, 1) := by decide +kernel
theorem dX0_within_124 : decode cX0_within 124 = .ok (.iload 4, 2) := by decide +kernel
theorem dX0_within_126 : decode cX0_within 126 = .ok (.laload, 1) := by decide +kernel
theorem dX0_within_127 : decode cX0_within 127 = .ok (.lsub, 1) := by decide +kernel
theorem dX0_within_128 : decode cX0_within 128 = .ok (.lastore, 1) := by decide +kernel
theorem dX0_within_129 : decode cX0_within 129 = .ok (.iinc 5 1, 3) := by decide +kernel
theorem dX0_within_132 : decode cX0_within 132 = .ok (.goto (-34), 3) := by decide +kernel
theorem dX0_within_135 : decode cX0_within 135 = .ok (.iinc 4 (-1), 3) := by decide +kernel
theorem dX0_within_138 : decode cX0_within 138 = .ok (.goto (-100), 3) := by decide +kernel
theorem dX0_within_141 : decode cX0_within 141 = .ok (.lload_n 2, 1) := by decide +kernel
theorem dX0_within_142 : decode cX0_within 142 = .ok (.lreturn, 1) := by decide +kernel
set_option maxRecDepth 20000 in
theorem ggX0_waysOfStretch_X0_isPossible : GoodIn wsX0_waysOfStretch wsX0_isPossible := goodIn_r _ [12, 13, 14, 15, 16, 17, 18, 19] (by decide +kernel) (by decide +kernel)
set_option maxRecDepth 20000 in
theorem gX0_waysOfStretch_X0_isPossible : GoodIn wsX0_waysOfStretch (wsV RX0 62 RX0 yX0_isPossible wsX0_isPossible) := goodIn_app (goodIn_of _ (by decide +kernel)) ggX0_waysOfStretch_X0_isPossible
theorem dX0_waysOfStretch_0 : decode cX0_waysOfStretch 0 = .ok (.aload_n 0, 1) := by decide +kernel
theorem dX0_waysOfStretch_1 : decode cX0_waysOfStretch 1 = .ok (.getfield 15, 3) := by decide +kernel
theorem dX0_waysOfStretch_4 : decode cX0_waysOfStretch 4 = .ok (.iload_n 1, 1) := by decide +kernel
theorem dX0_waysOfStretch_5 : decode cX0_waysOfStretch 5 = .ok (.baload, 1) := by decide +kernel
theorem dX0_waysOfStretch_6 : decode cX0_waysOfStretch 6 = .ok (.ifCond .eq 16, 3) := by decide +kernel
theorem dX0_waysOfStretch_9 : decode cX0_waysOfStretch 9 = .ok (.aload_n 0, 1) := by decide +kernel
theorem dX0_waysOfStretch_10 : decode cX0_waysOfStretch 10 = .ok (.getfield 27, 3) := by decide +kernel
theorem dX0_waysOfStretch_13 : decode cX0_waysOfStretch 13 = .ok (.iload_n 2, 1) := by decide +kernel
theorem dX0_waysOfStretch_14 : decode cX0_waysOfStretch 14 = .ok (.iload_n 3, 1) := by decide +kernel
theorem dX0_waysOfStretch_15 : decode cX0_waysOfStretch 15 = .ok (.iadd, 1) := by decide +kernel
theorem dX0_waysOfStretch_16 : decode cX0_waysOfStretch 16 = .ok (.invokestatic 34, 3) := by decide +kernel
theorem dX0_waysOfStretch_19 : decode cX0_waysOfStretch 19 = .ok (.goto 7, 3) := by decide +kernel
theorem dX0_waysOfStretch_22 : decode cX0_waysOfStretch 22 = .ok (.aload_n 0, 1) := by decide +kernel
theorem dX0_waysOfStretch_23 : decode cX0_waysOfStretch 23 = .ok (.getfield 27, 3) := by decide +kernel
theorem dX0_waysOfStretch_26 : decode cX0_waysOfStretch 26 = .ok (.istore 4, 2) := by decide +kernel
theorem dX0_waysOfStretch_28 : decode cX0_waysOfStretch 28 = .ok (.lconst 0, 1) := by decide +kernel
theorem dX0_waysOfStretch_29 : decode cX0_waysOfStretch 29 = .ok (.lstore 5, 2) := by decide +kernel
theorem dX0_waysOfStretch_31 : decode cX0_waysOfStretch 31 = .ok (.iload_n 2, 1) := by decide +kernel
theorem dX0_waysOfStretch_32 : decode cX0_waysOfStretch 32 = .ok (.istore 7, 2) := by decide +kernel
theorem dX0_waysOfStretch_34 : decode cX0_waysOfStretch 34 = .ok (.iload 7, 2) := by decide +kernel
theorem dX0_waysOfStretch_36 : decode cX0_waysOfStretch 36 = .ok (.iload 4, 2) := by decide +kernel
theorem dX0_waysOfStretch_38 : decode cX0_waysOfStretch 38 = .ok (.if_icmp .ge 35, 3) := by decide +kernel
theorem dX0_waysOfStretch_41 : decode cX0_waysOfStretch 41 = .ok (.aload_n 0, 1) := by decide +kernel
theorem dX0_waysOfStretch_42 : decode cX0_waysOfStretch 42 = .ok (.iload 7, 2) := by decide +kernel
theorem dX0_waysOfStretch_44 : decode cX0_waysOfStretch 44 = .ok (.iload_n 1, 1) := by decide +kernel
theorem dX0_waysOfStretch_45 : decode cX0_waysOfStretch 45 = .ok (.invokevirtual 62, 3) := by decide +kernel
theorem dX0_waysOfStretch_48 : decode cX0_waysOfStretch 48 = .ok (.ifCond .eq 25, 3) := by decide +kernel
theorem dX0_waysOfStretch_51 : decode cX0_waysOfStretch 51 = .ok (.lload 5, 2) := by decide +kernel
theorem dX0_waysOfStretch_53 : decode cX0_waysOfStretch 53 = .ok (.aload_n 0, 1) := by decide +kernel
theorem dX0_waysOfStretch_54 : decode cX0_waysOfStretch 54 = .ok (.getfield 24, 3) := by decide +kernel
theorem dX0_waysOfStretch_57 : decode cX0_waysOfStretch 57 = .ok (.iload_n 1, 1) := by decide +kernel
theorem dX0_waysOfStretch_58 : decode cX0_waysOfStretch 58 = .ok (.aaload, 1) := by decide +kernel
theorem dX0_waysOfStretch_59 : decode cX0_waysOfStretch 59 = .ok (.iload 7, 2) := by decide +kernel
theorem dX0_waysOfStretch_61 : decode cX0_waysOfStretch 61 = .ok (.iconst 1, 1) := by decide +kernel
theorem dX0_waysOfStretch_62 : decode cX0_waysOfStretch 62 = .ok (.iadd, 1) := by decide +kernel
theorem dX0_waysOfStretch_63 : decode cX0_waysOfStretch 63 = .ok (.laload, 1) := by decide +kernel
theorem dX0_waysOfStretch_64 : decode cX0_waysOfStretch 64 = .ok (.ladd, 1) := by decide +kernel
theorem dX0_waysOfStretch_65 : decode cX0_waysOfStretch 65 = .ok (.lstore 5, 2) := by decide +kernel
theorem dX0_waysOfStretch_67 : decode cX0_waysOfStretch 67 = .ok (.iinc 7 1, 3) := by decide +kernel
theorem dX0_waysOfStretch_70 : decode cX0_waysOfStretch 70 = .ok (.goto (-36), 3) := by decide +kernel
theorem dX0_waysOfStretch_73 : decode cX0_waysOfStretch 73 = .ok (.lload 5, 2) := by decide +kernel
theorem dX0_waysOfStretch_75 : decode cX0_waysOfStretch 75 = .ok (.lreturn, 1) := by decide +kernel
theorem dX0_isPossible_0 : decode cX0_isPossible 0 = .ok (.aload_n 0, 1) := by decide +kernel
theorem dX0_isPossible_1 : decode cX0_isPossible 1 = .ok (.getfield 9, 3) := by decide +kernel
theorem dX0_isPossible_4 : decode cX0_isPossible 4 = .ok (.iload_n 1, 1) := by decide +kernel
theorem dX0_isPossible_5 : decode cX0_isPossible 5 = .ok (.iaload, 1) := by decide +kernel
theorem dX0_isPossible_6 : decode cX0_isPossible 6 = .ok (.bipush 9, 2) := by decide +kernel
theorem dX0_isPossible_8 : decode cX0_isPossible 8 = .ok (.if_icmp .eq 13, 3) := by decide +kernel
theorem dX0_isPossible_11 : decode cX0_isPossible 11 = .ok (.aload_n 0, 1) := by decide +kernel
theorem dX0_isPossible_12 : decode cX0_isPossible 12 = .ok (.getfield 9, 3) := by decide +kernel
theorem dX0_isPossible_15 : decode cX0_isPossible 15 = .ok (.iload_n 1, 1) := by decide +kernel
theorem dX0_isPossible_16 : decode cX0_isPossible 16 = .ok (.iaload, 1) := by decide +kernel
theorem dX0_isPossible_17 : decode cX0_isPossible 17 = .ok (.iload_n 2, 1) := by decide +kernel
theorem dX0_isPossible_18 : decode cX0_isPossible 18 = .ok (.if_icmp .ne 7, 3) := by decide +kernel
theorem dX0_isPossible_21 : decode cX0_isPossible 21 = .ok (.iconst 1, 1) := by decide +kernel
theorem dX0_isPossible_22 : decode cX0_isPossible 22 = .ok (.goto 4, 3) := by decide +kernel
theorem dX0_isPossible_25 : decode cX0_isPossible 25 = .ok (.iconst 0, 1) := by decide +kernel
theorem dX0_isPossible_26 : decode cX0_isPossible 26 = .ok (.ireturn, 1) := by decide +kernel
theorem dX1_init_0 : decode cX1_init 0 = .ok (.aload_n 0, 1) := by decide +kernel
theorem dX1_init_1 : decode cX1_init 1 = .ok (.invokespecial 3, 3) := by decide +kernel
theorem dX1_init_4 : decode cX1_init 4 = .ok (.aload_n 0, 1) := by decide +kernel
theorem dX1_init_5 : decode cX1_init 5 = .ok (.bipush 21, 2) := by decide +kernel
theorem dX1_init_7 : decode cX1_init 7 = .ok (.newarray .int, 2) := by decide +kernel
theorem dX1_init_9 : decode cX1_init 9 = .ok (.putfield 9, 3) := by decide +kernel
theorem dX1_init_12 : decode cX1_init 12 = .ok (.aload_n 0, 1) := by decide +kernel
theorem dX1_init_13 : decode cX1_init 13 = .ok (.iconst 0, 1) := by decide +kernel
theorem dX1_init_14 : decode cX1_init 14 = .ok (.putfield 15, 3) := by decide +kernel
theorem dX1_init_17 : decode cX1_init 17 = .ok (.aload_n 0, 1) := by decide +kernel
theorem dX1_init_18 : decode cX1_init 18 = .ok (.iconst 0, 1) := by decide +kernel
theorem dX1_init_19 : decode cX1_init 19 = .ok (.putfield 19, 3) := by decide +kernel
theorem dX1_init_22 : decode cX1_init 22 = .ok (.aload_n 0, 1) := by decide +kernel
theorem dX1_init_23 : decode cX1_init 23 = .ok (.iconst 0, 1) := by decide +kernel
theorem dX1_init_24 : decode cX1_init 24 = .ok (.putfield 22, 3) := by decide +kernel
theorem dX1_init_27 : decode cX1_init 27 = .ok (.aload_n 0, 1) := by decide +kernel
theorem dX1_init_28 : decode cX1_init 28 = .ok (.iconst 0, 1) := by decide +kernel
theorem dX1_init_29 : decode cX1_init 29 = .ok (.putfield 25, 3) := by decide +kernel
theorem dX1_init_32 : decode cX1_init 32 = .ok (.aload_n 0, 1) := by decide +kernel
theorem dX1_init_33 : decode cX1_init 33 = .ok (.iconst 0, 1) := by decide +kernel
theorem dX1_init_34 : decode cX1_init 34 = .ok (.putfield 28, 3) := by decide +kernel
theorem dX1_init_37 : decode cX1_init 37 = .ok (.aload_n 0, 1) := by decide +kernel
theorem dX1_init_38 : decode cX1_init 38 = .ok (.iconst 0, 1) := by decide +kernel
theorem dX1_init_39 : decode cX1_init 39 = .ok (.putfield 31, 3) := by decide +kernel
theorem dX1_init_42 : decode cX1_init 42 = .ok (.aload_n 0, 1) := by decide +kernel
theorem dX1_init_43 : decode cX1_init 43 = .ok (.iconst 0, 1) := by decide +kernel
theorem dX1_init_44 : decode cX1_init 44 = .ok (.putfield 34, 3) := by decide +kernel
theorem dX1_init_47 : decode cX1_init 47 = .ok (.aload_n 0, 1) := by decide +kernel
theorem dX1_init_48 : decode cX1_init 48 = .ok (.iconst 0, 1) := by decide +kernel
theorem dX1_init_49 : decode cX1_init 49 = .ok (.putfield 37, 3) := by decide +kernel
theorem dX1_init_52 : decode cX1_init 52 = .ok (.return_, 1) := by decide +kernel
theorem dX1_copyYear_0 : decode cX1_copyYear 0 = .ok (.aload_n 0, 1) := by decide +kernel
theorem dX1_copyYear_1 : decode cX1_copyYear 1 = .ok (.aload_n 1, 1) := by decide +kernel
theorem dX1_copyYear_2 : decode cX1_copyYear 2 = .ok (.getfield 40, 3) := by decide +kernel
theorem dX1_copyYear_5 : decode cX1_copyYear 5 = .ok (.putfield 15, 3) := by decide +kernel
theorem dX1_copyYear_8 : decode cX1_copyYear 8 = .ok (.aload_n 1, 1) := by decide +kernel
theorem dX1_copyYear_9 : decode cX1_copyYear 9 = .ok (.getfield 43, 3) := by decide +kernel
theorem dX1_copyYear_12 : decode cX1_copyYear 12 = .ok (.iconst 0, 1) := by decide +kernel
theorem dX1_copyYear_13 : decode cX1_copyYear 13 = .ok (.aload_n 0, 1) := by decide +kernel
theorem dX1_copyYear_14 : decode cX1_copyYear 14 = .ok (.getfield 9, 3) := by decide +kernel
theorem dX1_copyYear_17 : decode cX1_copyYear 17 = .ok (.iconst 0, 1) := by decide +kernel
theorem dX1_copyYear_18 : decode cX1_copyYear 18 = .ok (.bipush 20, 2) := by decide +kernel
theorem dX1_copyYear_20 : decode cX1_copyYear 20 = .ok (.invokestatic 44, 3) := by decide +kernel
theorem dX1_copyYear_23 : decode cX1_copyYear 23 = .ok (.return_, 1) := by decide +kernel
theorem dX1_addDay_0 : decode cX1_addDay 0 = .ok (.aload_n 0, 1) := by decide +kernel
theorem dX1_addDay_1 : decode cX1_addDay 1 = .ok (.getfield 15, 3) := by decide +kernel
theorem dX1_addDay_4 : decode cX1_addDay 4 = .ok (.aload_n 0, 1) := by decide +kernel
theorem dX1_addDay_5 : decode cX1_addDay 5 = .ok (.getfield 9, 3) := by decide +kernel
theorem dX1_addDay_8 : decode cX1_addDay 8 = .ok (.arraylength, 1) := by decide +kernel
theorem dX1_addDay_9 : decode cX1_addDay 9 = .ok (.if_icmp .ge 23, 3) := by decide +kernel
theorem dX1_addDay_12 : decode cX1_addDay 12 = .ok (.aload_n 0, 1) := by decide +kernel
theorem dX1_addDay_13 : decode cX1_addDay 13 = .ok (.getfield 9, 3) := by decide +kernel
theorem dX1_addDay_16 : decode cX1_addDay 16 = .ok (.aload_n 0, 1) := by decide +kernel
theorem dX1_addDay_17 : decode cX1_addDay 17 = .ok (.getfield 15, 3) := by decide +kernel
theorem dX1_addDay_20 : decode cX1_addDay 20 = .ok (.iload_n 1, 1) := by decide +kernel
theorem dX1_addDay_21 : decode cX1_addDay 21 = .ok (.iastore, 1) := by decide +kernel
theorem dX1_addDay_22 : decode cX1_addDay 22 = .ok (.aload_n 0, 1) := by decide +kernel
theorem dX1_addDay_23 : decode cX1_addDay 23 = .ok (.dup, 1) := by decide +kernel
theorem dX1_addDay_24 : decode cX1_addDay 24 = .ok (.getfield 15, 3) := by decide +kernel
theorem dX1_addDay_27 : decode cX1_addDay 27 = .ok (.iconst 1, 1) := by decide +kernel
theorem dX1_addDay_28 : decode cX1_addDay 28 = .ok (.iadd, 1) := by decide +kernel
theorem dX1_addDay_29 : decode cX1_addDay 29 = .ok (.putfield 15, 3) := by decide +kernel
theorem dX1_addDay_32 : decode cX1_addDay 32 = .ok (.return_, 1) := by decide +kernel
theorem dX1_drawYear_0 : decode cX1_drawYear 0 = .ok (.iload_n 2, 1) := by decide +kernel
theorem dX1_drawYear_1 : decode cX1_drawYear 1 = .ok (.istore_n 3, 1) := by decide +kernel
theorem dX1_drawYear_2 : decode cX1_drawYear 2 = .ok (.aload_n 0, 1) := by decide +kernel
theorem dX1_drawYear_3 : decode cX1_drawYear 3 = .ok (.aload_n 1, 1) := by decide +kernel
theorem dX1_drawYear_4 : decode cX1_drawYear 4 = .ok (.getfield 40, 3) := by decide +kernel
theorem dX1_drawYear_7 : decode cX1_drawYear 7 = .ok (.putfield 15, 3) := by decide +kernel
theorem dX1_drawYear_10 : decode cX1_drawYear 10 = .ok (.iconst 0, 1) := by decide +kernel
theorem dX1_drawYear_11 : decode cX1_drawYear 11 = .ok (.istore 4, 2) := by decide +kernel
theorem dX1_drawYear_13 : decode cX1_drawYear 13 = .ok (.iload 4, 2) := by decide +kernel
theorem dX1_drawYear_15 : decode cX1_drawYear 15 = .ok (.aload_n 0, 1) := by decide +kernel
theorem dX1_drawYear_16 : decode cX1_drawYear 16 = .ok (.getfield 15, 3) := by decide +kernel
theorem dX1_drawYear_19 : decode cX1_drawYear 19 = .ok (.if_icmp .ge 73, 3) := by decide +kernel
theorem dX1_drawYear_22 : decode cX1_drawYear 22 = .ok (.aload_n 1, 1) := by decide +kernel
theorem dX1_drawYear_23 : decode cX1_drawYear 23 = .ok (.getfield 50, 3) := by decide +kernel
theorem dX1_drawYear_26 : decode cX1_drawYear 26 = .ok (.iload 4, 2) := by decide +kernel
theorem dX1_drawYear_28 : decode cX1_drawYear 28 = .ok (.iaload, 1) := by decide +kernel
theorem dX1_drawYear_29 : decode cX1_drawYear 29 = .ok (.bipush (-9), 2) := by decide +kernel
theorem dX1_drawYear_31 : decode cX1_drawYear 31 = .ok (.if_icmp .eq 20, 3) := by decide +kernel
theorem dX1_drawYear_34 : decode cX1_drawYear 34 = .ok (.aload_n 0, 1) := by decide +kernel
theorem dX1_drawYear_35 : decode cX1_drawYear 35 = .ok (.getfield 9, 3) := by decide +kernel
theorem dX1_drawYear_38 : decode cX1_drawYear 38 = .ok (.iload 4, 2) := by decide +kernel
theorem dX1_drawYear_40 : decode cX1_drawYear 40 = .ok (.aload_n 1, 1) := by decide +kernel
theorem dX1_drawYear_41 : decode cX1_drawYear 41 = .ok (.getfield 50, 3) := by decide +kernel
theorem dX1_drawYear_44 : decode cX1_drawYear 44 = .ok (.iload 4, 2) := by decide +kernel
theorem dX1_drawYear_46 : decode cX1_drawYear 46 = .ok (.iaload, 1) := by decide +kernel
theorem dX1_drawYear_47 : decode cX1_drawYear 47 = .ok (.iastore, 1) := by decide +kernel
theorem dX1_drawYear_48 : decode cX1_drawYear 48 = .ok (.goto 38, 3) := by decide +kernel
theorem dX1_drawYear_51 : decode cX1_drawYear 51 = .ok (.aload_n 1, 1) := by decide +kernel
theorem dX1_drawYear_52 : decode cX1_drawYear 52 = .ok (.getfield 53, 3) := by decide +kernel
theorem dX1_drawYear_55 : decode cX1_drawYear 55 = .ok (.ifCond .le 31, 3) := by decide +kernel
theorem dX1_drawYear_58 : decode cX1_drawYear 58 = .ok (.iload_n 3, 1) := by decide +kernel
theorem dX1_drawYear_59 : decode cX1_drawYear 59 = .ok (.ldc 56, 2) := by decide +kernel
theorem dX1_drawYear_61 : decode cX1_drawYear 61 = .ok (.imul, 1) := by decide +kernel
theorem dX1_drawYear_62 : decode cX1_drawYear 62 = .ok (.ldc 57, 2) := by decide +kernel
theorem dX1_drawYear_64 : decode cX1_drawYear 64 = .ok (.iadd, 1) := by decide +kernel
theorem dX1_drawYear_65 : decode cX1_drawYear 65 = .ok (.istore_n 3, 1) := by decide +kernel
theorem dX1_drawYear_66 : decode cX1_drawYear 66 = .ok (.aload_n 0, 1) := by decide +kernel
theorem dX1_drawYear_67 : decode cX1_drawYear 67 = .ok (.getfield 9, 3) := by decide +kernel
theorem dX1_drawYear_70 : decode cX1_drawYear 70 = .ok (.iload 4, 2) := by decide +kernel
theorem dX1_drawYear_72 : decode cX1_drawYear 72 = .ok (.iload_n 3, 1) := by decide +kernel
theorem dX1_drawYear_73 : decode cX1_drawYear 73 = .ok (.ldc 58, 2) := by decide +kernel
theorem dX1_drawYear_75 : decode cX1_drawYear 75 = .ok (.iand, 1) := by decide +kernel
theorem dX1_drawYear_76 : decode cX1_drawYear 76 = .ok (.sipush 256, 3) := by decide +kernel
theorem dX1_drawYear_79 : decode cX1_drawYear 79 = .ok (.idiv, 1) := by decide +kernel
theorem dX1_drawYear_80 : decode cX1_drawYear 80 = .ok (.aload_n 1, 1) := by decide +kernel
theorem dX1_drawYear_81 : decode cX1_drawYear 81 = .ok (.getfield 53, 3) := by decide +kernel
theorem dX1_drawYear_84 : decode cX1_drawYear 84 = .ok (.irem, 1) := by decide +kernel
theorem dX1_drawYear_85 : decode cX1_drawYear 85 = .ok (.iastore, 1) := by decide +kernel
theorem dX1_drawYear_86 : decode cX1_drawYear 86 = .ok (.iinc 4 1, 3) := by decide +kernel
theorem dX1_drawYear_89 : decode cX1_drawYear 89 = .ok (.goto (-76), 3) := by decide +kernel
theorem dX1_drawYear_92 : decode cX1_drawYear 92 = .ok (.iload_n 3, 1) := by decide +kernel
theorem dX1_drawYear_93 : decode cX1_drawYear 93 = .ok (.ireturn, 1) := by decide +kernel
set_option maxRecDepth 20000 in
theorem ggX1_tally_X1_clear : GoodIn wsX1_tally wsX1_clear := goodIn_r _ [10, 4, 3, 11, 12, 13, 14, 15, 46, 47, 48, 49, 50, 51, 52, 53, 54] (by decide +kernel) (by decide +kernel)
set_option maxRecDepth 20000 in
theorem gX1_tally_X1_clear : GoodIn wsX1_tally (wsV RX1 59 RX1 yX1_clear wsX1_clear) := goodIn_app (goodIn_of _ (by decide +kernel)) ggX1_tally_X1_clear
set_option maxRecDepth 20000 in
theorem ggX1_tally_X1_endStretch : GoodIn wsX1_tally wsX1_endStretch := goodIn_r _ [19, 11, 14, 20, 21, 22, 23, 15, 12, 13, 24, 25, 26, 27, 28, 29, 30, 31, 32, 33, 34, 46, 47, 48, 49, 50, 51, 52, 53, 54, 55, 56, 57, 58, 59, 60, 61, 62, 63, 64] (by decide +kernel) (by decide +kernel)
set_option maxRecDepth 20000 in
theorem gX1_tally_X1_endStretch : GoodIn wsX1_tally (wsV RX1 62 RX1 yX1_endStretch wsX1_endStretch) := goodIn_app (goodIn_of _ (by decide +kernel)) ggX1_tally_X1_endStretch
set_option maxRecDepth 20000 in
theorem ggX1_tally_X4_valueOf : GoodIn wsX1_tally wsX4_valueOf := goodIn_r _ [38, 29, 39, 30, 31, 32, 27, 33, 34, 40, 41, 42, 43, 44, 45, 55, 56, 57, 58, 59, 60, 61, 62, 63, 64] (by decide +kernel) (by decide +kernel)
set_option maxRecDepth 20000 in
theorem gX1_tally_X4_valueOf : GoodIn wsX1_tally (wsV RX1 66 RX4 yX4_valueOf wsX4_valueOf) := goodIn_app (goodIn_of _ (by decide +kernel)) ggX1_tally_X4_valueOf
theorem dX1_tally_0 : decode cX1_tally 0 = .ok (.aload_n 0, 1) := by decide +kernel
theorem dX1_tally_1 : decode cX1_tally 1 = .ok (.invokevirtual 59, 3) := by decide +kernel
theorem dX1_tally_4 : decode cX1_tally 4 = .ok (.iconst 0, 1) := by decide +kernel
theorem dX1_tally_5 : decode cX1_tally 5 = .ok (.istore_n 2, 1) := by decide +kernel
theorem dX1_tally_6 : decode cX1_tally 6 = .ok (.iconst 0, 1) := by decide +kernel
theorem dX1_tally_7 : decode cX1_tally 7 = .ok (.istore_n 3, 1) := by decide +kernel
theorem dX1_tally_8 : decode cX1_tally 8 = .ok (.iload_n 3, 1) := by decide +kernel
theorem dX1_tally_9 : decode cX1_tally 9 = .ok (.aload_n 0, 1) := by decide +kernel
theorem dX1_tally_10 : decode cX1_tally 10 = .ok (.getfield 15, 3) := by decide +kernel
theorem dX1_tally_13 : decode cX1_tally 13 = .ok (.if_icmp .ge 79, 3) := by decide +kernel
theorem dX1_tally_16 : decode cX1_tally 16 = .ok (.iload_n 3, 1) := by decide +kernel
theorem dX1_tally_17 : decode cX1_tally 17 = .ok (.ifCond .le 46, 3) := by decide +kernel
theorem dX1_tally_20 : decode cX1_tally 20 = .ok (.aload_n 0, 1) := by decide +kernel
theorem dX1_tally_21 : decode cX1_tally 21 = .ok (.getfield 9, 3) := by decide +kernel
theorem dX1_tally_24 : decode cX1_tally 24 = .ok (.iload_n 3, 1) := by decide +kernel
theorem dX1_tally_25 : decode cX1_tally 25 = .ok (.iaload, 1) := by decide +kernel
theorem dX1_tally_26 : decode cX1_tally 26 = .ok (.aload_n 0, 1) := by decide +kernel
theorem dX1_tally_27 : decode cX1_tally 27 = .ok (.getfield 9, 3) := by decide +kernel
theorem dX1_tally_30 : decode cX1_tally 30 = .ok (.iload_n 3, 1) := by decide +kernel
theorem dX1_tally_31 : decode cX1_tally 31 = .ok (.iconst 1, 1) := by decide +kernel
theorem dX1_tally_32 : decode cX1_tally 32 = .ok (.isub, 1) := by decide +kernel
theorem dX1_tally_33 : decode cX1_tally 33 = .ok (.iaload, 1) := by decide +kernel
theorem dX1_tally_34 : decode cX1_tally 34 = .ok (.if_icmp .eq 29, 3) := by decide +kernel
theorem dX1_tally_37 : decode cX1_tally 37 = .ok (.aload_n 0, 1) := by decide +kernel
theorem dX1_tally_38 : decode cX1_tally 38 = .ok (.aload_n 1, 1) := by decide +kernel
theorem dX1_tally_39 : decode cX1_tally 39 = .ok (.aload_n 0, 1) := by decide +kernel
theorem dX1_tally_40 : decode cX1_tally 40 = .ok (.getfield 9, 3) := by decide +kernel
theorem dX1_tally_43 : decode cX1_tally 43 = .ok (.iload_n 3, 1) := by decide +kernel
theorem dX1_tally_44 : decode cX1_tally 44 = .ok (.iconst 1, 1) := by decide +kernel
theorem dX1_tally_45 : decode cX1_tally 45 = .ok (.isub, 1) := by decide +kernel
theorem dX1_tally_46 : decode cX1_tally 46 = .ok (.iaload, 1) := by decide +kernel
theorem dX1_tally_47 : decode cX1_tally 47 = .ok (.iload_n 2, 1) := by decide +kernel
theorem dX1_tally_48 : decode cX1_tally 48 = .ok (.invokevirtual 62, 3) := by decide +kernel
theorem dX1_tally_51 : decode cX1_tally 51 = .ok (.aload_n 0, 1) := by decide +kernel
theorem dX1_tally_52 : decode cX1_tally 52 = .ok (.dup, 1) := by decide +kernel
theorem dX1_tally_53 : decode cX1_tally 53 = .ok (.getfield 22, 3) := by decide +kernel
theorem dX1_tally_56 : decode cX1_tally 56 = .ok (.iconst 1, 1) := by decide +kernel
theorem dX1_tally_57 : decode cX1_tally 57 = .ok (.iadd, 1) := by decide +kernel
theorem dX1_tally_58 : decode cX1_tally 58 = .ok (.putfield 22, 3) := by decide +kernel
theorem dX1_tally_61 : decode cX1_tally 61 = .ok (.iconst 0, 1) := by decide +kernel
theorem dX1_tally_62 : decode cX1_tally 62 = .ok (.istore_n 2, 1) := by decide +kernel
theorem dX1_tally_63 : decode cX1_tally 63 = .ok (.iinc 2 1, 3) := by decide +kernel
theorem dX1_tally_66 : decode cX1_tally 66 = .ok (.aload_n 0, 1) := by decide +kernel
theorem dX1_tally_67 : decode cX1_tally 67 = .ok (.dup, 1) := by decide +kernel
theorem dX1_tally_68 : decode cX1_tally 68 = .ok (.getfield 19, 3) := by decide +kernel
theorem dX1_tally_71 : decode cX1_tally 71 = .ok (.aload_n 1, 1) := by decide +kernel
theorem dX1_tally_72 : decode cX1_tally 72 = .ok (.aload_n 0, 1) := by decide +kernel
theorem dX1_tally_73 : decode cX1_tally 73 = .ok (.getfield 9, 3) := by decide +kernel
theorem dX1_tally_76 : decode cX1_tally 76 = .ok (.iload_n 3, 1) := by decide +kernel
theorem dX1_tally_77 : decode cX1_tally 77 = .ok (.iaload, 1) := by decide +kernel
theorem dX1_tally_78 : decode cX1_tally 78 = .ok (.iload_n 2, 1) := by decide +kernel
theorem dX1_tally_79 : decode cX1_tally 79 = .ok (.invokevirtual 66, 3) := by decide +kernel
theorem dX1_tally_82 : decode cX1_tally 82 = .ok (.iadd, 1) := by decide +kernel
theorem dX1_tally_83 : decode cX1_tally 83 = .ok (.putfield 19, 3) := by decide +kernel
theorem dX1_tally_86 : decode cX1_tally 86 = .ok (.iinc 3 1, 3) := by decide +kernel
theorem dX1_tally_89 : decode cX1_tally 89 = .ok (.goto (-81), 3) := by decide +kernel
theorem dX1_tally_92 : decode cX1_tally 92 = .ok (.aload_n 0, 1) := by decide +kernel
theorem dX1_tally_93 : decode cX1_tally 93 = .ok (.getfield 15, 3) := by decide +kernel
theorem dX1_tally_96 : decode cX1_tally 96 = .ok (.ifCond .le 20, 3) := by decide +kernel
theorem dX1_tally_99 : decode cX1_tally 99 = .ok (.aload_n 0, 1) := by decide +kernel
theorem dX1_tally_100 : decode cX1_tally 100 = .ok (.aload_n 1, 1) := by decide +kernel
theorem dX1_tally_101 : decode cX1_tally 101 = .ok (.aload_n 0, 1) := by decide +kernel
theorem dX1_tally_102 : decode cX1_tally 102 = .ok (.getfield 9, 3) := by decide +kernel
theorem dX1_tally_105 : decode cX1_tally 105 = .ok (.aload_n 0, 1) := by decide +kernel
theorem dX1_tally_106 : decode cX1_tally 106 = .ok (.getfield 15, 3) := by decide +kernel
theorem dX1_tally_109 : decode cX1_tally 109 = .ok (.iconst 1, 1) := by decide +kernel
theorem dX1_tally_110 : decode cX1_tally 110 = .ok (.isub, 1) := by decide +kernel
theorem dX1_tally_111 : decode cX1_tally 111 = .ok (.iaload, 1) := by decide +kernel
theorem dX1_tally_112 : decode cX1_tally 112 = .ok (.iload_n 2, 1) := by decide +kernel
theorem dX1_tally_113 : decode cX1_tally 113 = .ok (.invokevirtual 62, 3) := by decide +kernel
theorem dX1_tally_116 : decode cX1_tally 116 = .ok (.aload_n 0, 1) := by decide +kernel
theorem dX1_tally_117 : decode cX1_tally 117 = .ok (.dup, 1) := by decide +kernel
theorem dX1_tally_118 : decode cX1_tally 118 = .ok (.getfield 19, 3) := by decide +kernel
theorem dX1_tally_121 : decode cX1_tally 121 = .ok (.aload_n 0, 1) := by decide +kernel
theorem dX1_tally_122 : decode cX1_tally 122 = .ok (.getfield 22, 3) := by decide +kernel
theorem dX1_tally_125 : decode cX1_tally 125 = .ok (.aload_n 1, 1) := by decide +kernel
theorem dX1_tally_126 : decode cX1_tally 126 = .ok (.getfield 70, 3) := by decide +kernel
theorem dX1_tally_129 : decode cX1_tally 129 = .ok (.imul, 1) := by decide +kernel
theorem dX1_tally_130 : decode cX1_tally 130 = .ok (.isub, 1) := by decide +kernel
theorem dX1_tally_131 : decode cX1_tally 131 = .ok (.putfield 19, 3) := by decide +kernel
theorem dX1_tally_134 : decode cX1_tally 134 = .ok (.return_, 1) := by decide +kernel
theorem dX1_clear_0 : decode cX1_clear 0 = .ok (.aload_n 0, 1) := by decide +kernel
theorem dX1_clear_1 : decode cX1_clear 1 = .ok (.iconst 0, 1) := by decide +kernel
theorem dX1_clear_2 : decode cX1_clear 2 = .ok (.putfield 19, 3) := by decide +kernel
theorem dX1_clear_5 : decode cX1_clear 5 = .ok (.aload_n 0, 1) := by decide +kernel
theorem dX1_clear_6 : decode cX1_clear 6 = .ok (.iconst 0, 1) := by decide +kernel
theorem dX1_clear_7 : decode cX1_clear 7 = .ok (.putfield 22, 3) := by decide +kernel
theorem dX1_clear_10 : decode cX1_clear 10 = .ok (.aload_n 0, 1) := by decide +kernel
theorem dX1_clear_11 : decode cX1_clear 11 = .ok (.iconst 0, 1) := by decide +kernel
theorem dX1_clear_12 : decode cX1_clear 12 = .ok (.putfield 25, 3) := by decide +kernel
theorem dX1_clear_15 : decode cX1_clear 15 = .ok (.aload_n 0, 1) := by decide +kernel
theorem dX1_clear_16 : decode cX1_clear 16 = .ok (.iconst 0, 1) := by decide +kernel
theorem dX1_clear_17 : decode cX1_clear 17 = .ok (.putfield 28, 3) := by decide +kernel
theorem dX1_clear_20 : decode cX1_clear 20 = .ok (.aload_n 0, 1) := by decide +kernel
theorem dX1_clear_21 : decode cX1_clear 21 = .ok (.iconst 0, 1) := by decide +kernel
theorem dX1_clear_22 : decode cX1_clear 22 = .ok (.putfield 31, 3) := by decide +kernel
theorem dX1_clear_25 : decode cX1_clear 25 = .ok (.aload_n 0, 1) := by decide +kernel
theorem dX1_clear_26 : decode cX1_clear 26 = .ok (.iconst 0, 1) := by decide +kernel
theorem dX1_clear_27 : decode cX1_clear 27 = .ok (.putfield 34, 3) := by decide +kernel
theorem dX1_clear_30 : decode cX1_clear 30 = .ok (.aload_n 0, 1) := by decide +kernel
theorem dX1_clear_31 : decode cX1_clear 31 = .ok (.iconst 0, 1) := by decide +kernel
theorem dX1_clear_32 : decode cX1_clear 32 = .ok (.putfield 37, 3) := by decide +kernel
theorem dX1_clear_35 : decode cX1_clear 35 = .ok (.return_, 1) := by decide +kernel
set_option maxRecDepth 20000 in
theorem ggX1_endStretch_X4_isTaxed : GoodIn wsX1_endStretch wsX4_isTaxed := goodIn_r _ [14, 15, 16, 17, 18, 13, 19, 20, 30, 31, 32, 33, 34, 35, 36, 37, 38, 39] (by decide +kernel) (by decide +kernel)
set_option maxRecDepth 20000 in
theorem gX1_endStretch_X4_isTaxed : GoodIn wsX1_endStretch (wsV RX1 73 RX4 yX4_isTaxed wsX4_isTaxed) := goodIn_app (goodIn_of _ (by decide +kernel)) ggX1_endStretch_X4_isTaxed
theorem dX1_endStretch_0 : decode cX1_endStretch 0 = .ok (.aload_n 1, 1) := by decide +kernel
theorem dX1_endStretch_1 : decode cX1_endStretch 1 = .ok (.iload_n 2, 1) := by decide +kernel
theorem dX1_endStretch_2 : decode cX1_endStretch 2 = .ok (.invokevirtual 73, 3) := by decide +kernel
theorem dX1_endStretch_5 : decode cX1_endStretch 5 = .ok (.ifCond .ne 4, 3) := by decide +kernel
theorem dX1_endStretch_8 : decode cX1_endStretch 8 = .ok (.return_, 1) := by decide +kernel
theorem dX1_endStretch_9 : decode cX1_endStretch 9 = .ok (.aload_n 0, 1) := by decide +kernel
theorem dX1_endStretch_10 : decode cX1_endStretch 10 = .ok (.aload_n 0, 1) := by decide +kernel
theorem dX1_endStretch_11 : decode cX1_endStretch 11 = .ok (.getfield 25, 3) := by decide +kernel
theorem dX1_endStretch_14 : decode cX1_endStretch 14 = .ok (.ifCond .ne 7, 3) := by decide +kernel
theorem dX1_endStretch_17 : decode cX1_endStretch 17 = .ok (.iload_n 3, 1) := by decide +kernel
theorem dX1_endStretch_18 : decode cX1_endStretch 18 = .ok (.goto 11, 3) := by decide +kernel
theorem dX1_endStretch_21 : decode cX1_endStretch 21 = .ok (.aload_n 0, 1) := by decide +kernel
theorem dX1_endStretch_22 : decode cX1_endStretch 22 = .ok (.getfield 34, 3) := by decide +kernel
theorem dX1_endStretch_25 : decode cX1_endStretch 25 = .ok (.iload_n 3, 1) := by decide +kernel
theorem dX1_endStretch_26 : decode cX1_endStretch 26 = .ok (.invokestatic 77, 3) := by decide +kernel
theorem dX1_endStretch_29 : decode cX1_endStretch 29 = .ok (.putfield 34, 3) := by decide +kernel
theorem dX1_endStretch_32 : decode cX1_endStretch 32 = .ok (.aload_n 0, 1) := by decide +kernel
theorem dX1_endStretch_33 : decode cX1_endStretch 33 = .ok (.dup, 1) := by decide +kernel
theorem dX1_endStretch_34 : decode cX1_endStretch 34 = .ok (.getfield 25, 3) := by decide +kernel
theorem dX1_endStretch_37 : decode cX1_endStretch 37 = .ok (.iconst 1, 1) := by decide +kernel
theorem dX1_endStretch_38 : decode cX1_endStretch 38 = .ok (.iadd, 1) := by decide +kernel
theorem dX1_endStretch_39 : decode cX1_endStretch 39 = .ok (.putfield 25, 3) := by decide +kernel
theorem dX1_endStretch_42 : decode cX1_endStretch 42 = .ok (.aload_n 0, 1) := by decide +kernel
theorem dX1_endStretch_43 : decode cX1_endStretch 43 = .ok (.dup, 1) := by decide +kernel
theorem dX1_endStretch_44 : decode cX1_endStretch 44 = .ok (.getfield 37, 3) := by decide +kernel
theorem dX1_endStretch_47 : decode cX1_endStretch 47 = .ok (.iload_n 3, 1) := by decide +kernel
theorem dX1_endStretch_48 : decode cX1_endStretch 48 = .ok (.iload_n 3, 1) := by decide +kernel
theorem dX1_endStretch_49 : decode cX1_endStretch 49 = .ok (.imul, 1) := by decide +kernel
theorem dX1_endStretch_50 : decode cX1_endStretch 50 = .ok (.iadd, 1) := by decide +kernel
theorem dX1_endStretch_51 : decode cX1_endStretch 51 = .ok (.putfield 37, 3) := by decide +kernel
theorem dX1_endStretch_54 : decode cX1_endStretch 54 = .ok (.iload_n 3, 1) := by decide +kernel
theorem dX1_endStretch_55 : decode cX1_endStretch 55 = .ok (.aload_n 0, 1) := by decide +kernel
theorem dX1_endStretch_56 : decode cX1_endStretch 56 = .ok (.getfield 28, 3) := by decide +kernel
theorem dX1_endStretch_59 : decode cX1_endStretch 59 = .ok (.if_icmp .le 19, 3) := by decide +kernel
theorem dX1_endStretch_62 : decode cX1_endStretch 62 = .ok (.aload_n 0, 1) := by decide +kernel
theorem dX1_endStretch_63 : decode cX1_endStretch 63 = .ok (.aload_n 0, 1) := by decide +kernel
theorem dX1_endStretch_64 : decode cX1_endStretch 64 = .ok (.getfield 28, 3) := by decide +kernel
theorem dX1_endStretch_67 : decode cX1_endStretch 67 = .ok (.putfield 31, 3) := by decide +kernel
theorem dX1_endStretch_70 : decode cX1_endStretch 70 = .ok (.aload_n 0, 1) := by decide +kernel
theorem dX1_endStretch_71 : decode cX1_endStretch 71 = .ok (.iload_n 3, 1) := by decide +kernel
theorem dX1_endStretch_72 : decode cX1_endStretch 72 = .ok (.putfield 28, 3) := by decide +kernel
theorem dX1_endStretch_75 : decode cX1_endStretch 75 = .ok (.goto 16, 3) := by decide +kernel
theorem dX1_endStretch_78 : decode cX1_endStretch 78 = .ok (.iload_n 3, 1) := by decide +kernel
theorem dX1_endStretch_79 : decode cX1_endStretch 79 = .ok (.aload_n 0, 1) := by decide +kernel
theorem dX1_endStretch_80 : decode cX1_endStretch 80 = .ok (.getfield 31, 3) := by decide +kernel
theorem dX1_endStretch_83 : decode cX1_endStretch 83 = .ok (.if_icmp .le 8, 3) := by decide +kernel
theorem dX1_endStretch_86 : decode cX1_endStretch 86 = .ok (.aload_n 0, 1) := by decide +kernel
theorem dX1_endStretch_87 : decode cX1_endStretch 87 = .ok (.iload_n 3, 1) := by decide +kernel
theorem dX1_endStretch_88 : decode cX1_endStretch 88 = .ok (.putfield 31, 3) := by decide +kernel
theorem dX1_endStretch_91 : decode cX1_endStretch 91 = .ok (.return_, 1) := by decide +kernel
theorem dX1_taxBy_0 : decode cX1_taxBy 0 = .ok (.iload_n 1, 1) := by decide +kernel
theorem dX1_taxBy_1 : decode cX1_taxBy 1 = .ok (.tableswitch 73 1 5 #[35, 45, 50, 58, 68], 35) := by decide +kernel
theorem dX1_taxBy_36 : decode cX1_taxBy 36 = .ok (.aload_n 0, 1) := by decide +kernel
theorem dX1_taxBy_37 : decode cX1_taxBy 37 = .ok (.getfield 31, 3) := by decide +kernel
theorem dX1_taxBy_40 : decode cX1_taxBy 40 = .ok (.aload_n 0, 1) := by decide +kernel
theorem dX1_taxBy_41 : decode cX1_taxBy 41 = .ok (.getfield 31, 3) := by decide +kernel
theorem dX1_taxBy_44 : decode cX1_taxBy 44 = .ok (.imul, 1) := by decide +kernel
theorem dX1_taxBy_45 : decode cX1_taxBy 45 = .ok (.ireturn, 1) := by decide +kernel
theorem dX1_taxBy_46 : decode cX1_taxBy 46 = .ok (.aload_n 0, 1) := by decide +kernel
theorem dX1_taxBy_47 : decode cX1_taxBy 47 = .ok (.getfield 37, 3) := by decide +kernel
theorem dX1_taxBy_50 : decode cX1_taxBy 50 = .ok (.ireturn, 1) := by decide +kernel
theorem dX1_taxBy_51 : decode cX1_taxBy 51 = .ok (.bipush 9, 2) := by decide +kernel
theorem dX1_taxBy_53 : decode cX1_taxBy 53 = .ok (.aload_n 0, 1) := by decide +kernel
theorem dX1_taxBy_54 : decode cX1_taxBy 54 = .ok (.getfield 22, 3) := by decide +kernel
theorem dX1_taxBy_57 : decode cX1_taxBy 57 = .ok (.imul, 1) := by decide +kernel
theorem dX1_taxBy_58 : decode cX1_taxBy 58 = .ok (.ireturn, 1) := by decide +kernel
theorem dX1_taxBy_59 : decode cX1_taxBy 59 = .ok (.aload_n 0, 1) := by decide +kernel
theorem dX1_taxBy_60 : decode cX1_taxBy 60 = .ok (.getfield 34, 3) := by decide +kernel
theorem dX1_taxBy_63 : decode cX1_taxBy 63 = .ok (.aload_n 0, 1) := by decide +kernel
theorem dX1_taxBy_64 : decode cX1_taxBy 64 = .ok (.getfield 34, 3) := by decide +kernel
theorem dX1_taxBy_67 : decode cX1_taxBy 67 = .ok (.imul, 1) := by decide +kernel
theorem dX1_taxBy_68 : decode cX1_taxBy 68 = .ok (.ireturn, 1) := by decide +kernel
theorem dX1_taxBy_69 : decode cX1_taxBy 69 = .ok (.aload_n 0, 1) := by decide +kernel
theorem dX1_taxBy_70 : decode cX1_taxBy 70 = .ok (.getfield 15, 3) := by decide +kernel
theorem dX1_taxBy_73 : decode cX1_taxBy 73 = .ok (.ireturn, 1) := by decide +kernel
theorem dX1_taxBy_74 : decode cX1_taxBy 74 = .ok (.aload_n 0, 1) := by decide +kernel
theorem dX1_taxBy_75 : decode cX1_taxBy 75 = .ok (.getfield 28, 3) := by decide +kernel
theorem dX1_taxBy_78 : decode cX1_taxBy 78 = .ok (.aload_n 0, 1) := by decide +kernel
theorem dX1_taxBy_79 : decode cX1_taxBy 79 = .ok (.getfield 28, 3) := by decide +kernel
theorem dX1_taxBy_82 : decode cX1_taxBy 82 = .ok (.imul, 1) := by decide +kernel
theorem dX1_taxBy_83 : decode cX1_taxBy 83 = .ok (.ireturn, 1) := by decide +kernel
set_option maxRecDepth 20000 in
theorem ggX1_leftBy_X1_taxBy : GoodIn wsX1_leftBy wsX1_taxBy := goodIn_r _ [6, 7, 8, 9, 10, 11, 12, 13, 14, 15, 16, 17, 18, 19, 20, 21] (by decide +kernel) (by decide +kernel)
set_option maxRecDepth 20000 in
theorem gX1_leftBy_X1_taxBy : GoodIn wsX1_leftBy (wsV RX1 82 RX1 yX1_taxBy wsX1_taxBy) := goodIn_app (goodIn_of _ (by decide +kernel)) ggX1_leftBy_X1_taxBy
theorem dX1_leftBy_0 : decode cX1_leftBy 0 = .ok (.aload_n 0, 1) := by decide +kernel
theorem dX1_leftBy_1 : decode cX1_leftBy 1 = .ok (.getfield 19, 3) := by decide +kernel
theorem dX1_leftBy_4 : decode cX1_leftBy 4 = .ok (.aload_n 0, 1) := by decide +kernel
theorem dX1_leftBy_5 : decode cX1_leftBy 5 = .ok (.iload_n 1, 1) := by decide +kernel
theorem dX1_leftBy_6 : decode cX1_leftBy 6 = .ok (.invokevirtual 82, 3) := by decide +kernel
theorem dX1_leftBy_9 : decode cX1_leftBy 9 = .ok (.isub, 1) := by decide +kernel
theorem dX1_leftBy_10 : decode cX1_leftBy 10 = .ok (.ireturn, 1) := by decide +kernel
theorem dX2_init_0 : decode cX2_init 0 = .ok (.aload_n 0, 1) := by decide +kernel
theorem dX2_init_1 : decode cX2_init 1 = .ok (.invokespecial 3, 3) := by decide +kernel
theorem dX2_init_4 : decode cX2_init 4 = .ok (.aload_n 0, 1) := by decide +kernel
theorem dX2_init_5 : decode cX2_init 5 = .ok (.iconst 4, 1) := by decide +kernel
theorem dX2_init_6 : decode cX2_init 6 = .ok (.bipush 21, 2) := by decide +kernel
theorem dX2_init_8 : decode cX2_init 8 = .ok (.multianewarray 9 2, 4) := by decide +kernel
theorem dX2_init_12 : decode cX2_init 12 = .ok (.putfield 11, 3) := by decide +kernel
theorem dX2_init_15 : decode cX2_init 15 = .ok (.aload_n 0, 1) := by decide +kernel
theorem dX2_init_16 : decode cX2_init 16 = .ok (.iconst 4, 1) := by decide +kernel
theorem dX2_init_17 : decode cX2_init 17 = .ok (.bipush 21, 2) := by decide +kernel
theorem dX2_init_19 : decode cX2_init 19 = .ok (.multianewarray 9 2, 4) := by decide +kernel
theorem dX2_init_23 : decode cX2_init 23 = .ok (.putfield 16, 3) := by decide +kernel
theorem dX2_init_26 : decode cX2_init 26 = .ok (.aload_n 0, 1) := by decide +kernel
theorem dX2_init_27 : decode cX2_init 27 = .ok (.iconst 4, 1) := by decide +kernel
theorem dX2_init_28 : decode cX2_init 28 = .ok (.bipush 21, 2) := by decide +kernel
theorem dX2_init_30 : decode cX2_init 30 = .ok (.multianewarray 9 2, 4) := by decide +kernel
theorem dX2_init_34 : decode cX2_init 34 = .ok (.putfield 19, 3) := by decide +kernel
theorem dX2_init_37 : decode cX2_init 37 = .ok (.aload_n 0, 1) := by decide +kernel
theorem dX2_init_38 : decode cX2_init 38 = .ok (.bipush 20, 2) := by decide +kernel
theorem dX2_init_40 : decode cX2_init 40 = .ok (.newarray .int, 2) := by decide +kernel
theorem dX2_init_42 : decode cX2_init 42 = .ok (.putfield 22, 3) := by decide +kernel
theorem dX2_init_45 : decode cX2_init 45 = .ok (.aload_n 0, 1) := by decide +kernel
theorem dX2_init_46 : decode cX2_init 46 = .ok (.sipush (-999), 3) := by decide +kernel
theorem dX2_init_49 : decode cX2_init 49 = .ok (.putfield 26, 3) := by decide +kernel
theorem dX2_init_52 : decode cX2_init 52 = .ok (.aload_n 0, 1) := by decide +kernel
theorem dX2_init_53 : decode cX2_init 53 = .ok (.bipush (-9), 2) := by decide +kernel
theorem dX2_init_55 : decode cX2_init 55 = .ok (.putfield 30, 3) := by decide +kernel
theorem dX2_init_58 : decode cX2_init 58 = .ok (.return_, 1) := by decide +kernel
set_option maxRecDepth 20000 in
theorem ggX2_begin_X4_valueOf : GoodIn wsX2_begin wsX4_valueOf := goodIn_r _ [8, 9, 10, 11, 12, 13, 7, 14, 15, 16, 17, 18, 19, 20, 21, 22, 23, 24, 25, 26, 27, 28, 29, 30, 31] (by decide +kernel) (by decide +kernel)
set_option maxRecDepth 20000 in
theorem gX2_begin_X4_valueOf : GoodIn wsX2_begin (wsV RX2 41 RX4 yX4_valueOf wsX4_valueOf) := goodIn_app (goodIn_of _ (by decide +kernel)) ggX2_begin_X4_valueOf
theorem dX2_begin_0 : decode cX2_begin 0 = .ok (.iconst 0, 1) := by decide +kernel
theorem dX2_begin_1 : decode cX2_begin 1 = .ok (.istore_n 2, 1) := by decide +kernel
theorem dX2_begin_2 : decode cX2_begin 2 = .ok (.iload_n 2, 1) := by decide +kernel
theorem dX2_begin_3 : decode cX2_begin 3 = .ok (.aload_n 1, 1) := by decide +kernel
theorem dX2_begin_4 : decode cX2_begin 4 = .ok (.getfield 33, 3) := by decide +kernel
theorem dX2_begin_7 : decode cX2_begin 7 = .ok (.if_icmp .ge 50, 3) := by decide +kernel
theorem dX2_begin_10 : decode cX2_begin 10 = .ok (.iconst 1, 1) := by decide +kernel
theorem dX2_begin_11 : decode cX2_begin 11 = .ok (.istore_n 3, 1) := by decide +kernel
theorem dX2_begin_12 : decode cX2_begin 12 = .ok (.iload_n 3, 1) := by decide +kernel
theorem dX2_begin_13 : decode cX2_begin 13 = .ok (.aload_n 1, 1) := by decide +kernel
theorem dX2_begin_14 : decode cX2_begin 14 = .ok (.getfield 38, 3) := by decide +kernel
theorem dX2_begin_17 : decode cX2_begin 17 = .ok (.if_icmp .gt 34, 3) := by decide +kernel
theorem dX2_begin_20 : decode cX2_begin 20 = .ok (.aload_n 0, 1) := by decide +kernel
theorem dX2_begin_21 : decode cX2_begin 21 = .ok (.getfield 11, 3) := by decide +kernel
theorem dX2_begin_24 : decode cX2_begin 24 = .ok (.iload_n 2, 1) := by decide +kernel
theorem dX2_begin_25 : decode cX2_begin 25 = .ok (.aaload, 1) := by decide +kernel
theorem dX2_begin_26 : decode cX2_begin 26 = .ok (.iload_n 3, 1) := by decide +kernel
theorem dX2_begin_27 : decode cX2_begin 27 = .ok (.aload_n 0, 1) := by decide +kernel
theorem dX2_begin_28 : decode cX2_begin 28 = .ok (.getfield 11, 3) := by decide +kernel
theorem dX2_begin_31 : decode cX2_begin 31 = .ok (.iload_n 2, 1) := by decide +kernel
theorem dX2_begin_32 : decode cX2_begin 32 = .ok (.aaload, 1) := by decide +kernel
theorem dX2_begin_33 : decode cX2_begin 33 = .ok (.iload_n 3, 1) := by decide +kernel
theorem dX2_begin_34 : decode cX2_begin 34 = .ok (.iconst 1, 1) := by decide +kernel
theorem dX2_begin_35 : decode cX2_begin 35 = .ok (.isub, 1) := by decide +kernel
theorem dX2_begin_36 : decode cX2_begin 36 = .ok (.iaload, 1) := by decide +kernel
theorem dX2_begin_37 : decode cX2_begin 37 = .ok (.aload_n 1, 1) := by decide +kernel
theorem dX2_begin_38 : decode cX2_begin 38 = .ok (.iload_n 2, 1) := by decide +kernel
theorem dX2_begin_39 : decode cX2_begin 39 = .ok (.iload_n 3, 1) := by decide +kernel
theorem dX2_begin_40 : decode cX2_begin 40 = .ok (.invokevirtual 41, 3) := by decide +kernel
theorem dX2_begin_43 : decode cX2_begin 43 = .ok (.iadd, 1) := by decide +kernel
theorem dX2_begin_44 : decode cX2_begin 44 = .ok (.iastore, 1) := by decide +kernel
theorem dX2_begin_45 : decode cX2_begin 45 = .ok (.iinc 3 1, 3) := by decide +kernel
theorem dX2_begin_48 : decode cX2_begin 48 = .ok (.goto (-36), 3) := by decide +kernel
theorem dX2_begin_51 : decode cX2_begin 51 = .ok (.iinc 2 1, 3) := by decide +kernel
theorem dX2_begin_54 : decode cX2_begin 54 = .ok (.goto (-52), 3) := by decide +kernel
theorem dX2_begin_57 : decode cX2_begin 57 = .ok (.return_, 1) := by decide +kernel
set_option maxRecDepth 20000 in
theorem ggX2_mostWithin_X2_mostOfStretch : GoodIn wsX2_mostWithin wsX2_mostOfStretch := goodIn_r _ [13, 2, 14, 5, 6, 7, 8, 15, 16, 17, 12, 18, 3, 19, 20, 21, 22, 23, 24, 25, 26, 27, 28, 29, 30, 31, 32, 33, 34, 35, 36, 37, 53, 54, 55, 56, 57, 58, 43, 44, 45, 46, 47, 48, 49, 50, 51, 52] (by decide +kernel) (by decide +kernel)
set_option maxRecDepth 20000 in
theorem gX2_mostWithin_X2_mostOfStretch : GoodIn wsX2_mostWithin (wsV RX2 45 RX2 yX2_mostOfStretch wsX2_mostOfStretch) := goodIn_app (goodIn_of _ (by decide +kernel)) ggX2_mostWithin_X2_mostOfStretch
set_option maxRecDepth 20000 in
theorem ggX2_mostWithin_X2_mostOfOthers : GoodIn wsX2_mostWithin wsX2_mostOfOthers := goodIn_r _ [41, 1, 4, 42, 5, 6, 7, 8, 43, 44, 45, 46, 47, 48, 49, 50, 51, 52, 53, 54, 55, 56, 57, 58] (by decide +kernel) (by decide +kernel)
set_option maxRecDepth 20000 in
theorem gX2_mostWithin_X2_mostOfOthers : GoodIn wsX2_mostWithin (wsV RX2 49 RX2 yX2_mostOfOthers wsX2_mostOfOthers) := goodIn_app (goodIn_of _ (by decide +kernel)) ggX2_mostWithin_X2_mostOfOthers
theorem dX2_mostWithin_0 : decode cX2_mostWithin 0 = .ok (.iconst 0, 1) := by decide +kernel
theorem dX2_mostWithin_1 : decode cX2_mostWithin 1 = .ok (.istore_n 3, 1) := by decide +kernel
theorem dX2_mostWithin_2 : decode cX2_mostWithin 2 = .ok (.iload_n 3, 1) := by decide +kernel
theorem dX2_mostWithin_3 : decode cX2_mostWithin 3 = .ok (.aload_n 1, 1) := by decide +kernel
theorem dX2_mostWithin_4 : decode cX2_mostWithin 4 = .ok (.getfield 33, 3) := by decide +kernel
theorem dX2_mostWithin_7 : decode cX2_mostWithin 7 = .ok (.if_icmp .ge 21, 3) := by decide +kernel
theorem dX2_mostWithin_10 : decode cX2_mostWithin 10 = .ok (.aload_n 0, 1) := by decide +kernel
theorem dX2_mostWithin_11 : decode cX2_mostWithin 11 = .ok (.getfield 19, 3) := by decide +kernel
theorem dX2_mostWithin_14 : decode cX2_mostWithin 14 = .ok (.iload_n 3, 1) := by decide +kernel
theorem dX2_mostWithin_15 : decode cX2_mostWithin 15 = .ok (.aaload, 1) := by decide +kernel
theorem dX2_mostWithin_16 : decode cX2_mostWithin 16 = .ok (.aload_n 1, 1) := by decide +kernel
theorem dX2_mostWithin_17 : decode cX2_mostWithin 17 = .ok (.getfield 38, 3) := by decide +kernel
theorem dX2_mostWithin_20 : decode cX2_mostWithin 20 = .ok (.iconst 0, 1) := by decide +kernel
theorem dX2_mostWithin_21 : decode cX2_mostWithin 21 = .ok (.iastore, 1) := by decide +kernel
theorem dX2_mostWithin_22 : decode cX2_mostWithin 22 = .ok (.iinc 3 1, 3) := by decide +kernel
theorem dX2_mostWithin_25 : decode cX2_mostWithin 25 = .ok (.goto (-23), 3) := by decide +kernel
theorem dX2_mostWithin_28 : decode cX2_mostWithin 28 = .ok (.aload_n 1, 1) := by decide +kernel
theorem dX2_mostWithin_29 : decode cX2_mostWithin 29 = .ok (.getfield 38, 3) := by decide +kernel
theorem dX2_mostWithin_32 : decode cX2_mostWithin 32 = .ok (.iconst 1, 1) := by decide +kernel
theorem dX2_mostWithin_33 : decode cX2_mostWithin 33 = .ok (.isub, 1) := by decide +kernel
theorem dX2_mostWithin_34 : decode cX2_mostWithin 34 = .ok (.istore_n 3, 1) := by decide +kernel
theorem dX2_mostWithin_35 : decode cX2_mostWithin 35 = .ok (.iload_n 3, 1) := by decide +kernel
theorem dX2_mostWithin_36 : decode cX2_mostWithin 36 = .ok (.ifCond .lt 80, 3) := by decide +kernel
theorem dX2_mostWithin_39 : decode cX2_mostWithin 39 = .ok (.iconst 0, 1) := by decide +kernel
theorem dX2_mostWithin_40 : decode cX2_mostWithin 40 = .ok (.istore 4, 2) := by decide +kernel
theorem dX2_mostWithin_42 : decode cX2_mostWithin 42 = .ok (.iload 4, 2) := by decide +kernel
theorem dX2_mostWithin_44 : decode cX2_mostWithin 44 = .ok (.aload_n 1, 1) := by decide +kernel
theorem dX2_mostWithin_45 : decode cX2_mostWithin 45 = .ok (.getfield 33, 3) := by decide +kernel
theorem dX2_mostWithin_48 : decode cX2_mostWithin 48 = .ok (.if_icmp .ge 27, 3) := by decide +kernel
theorem dX2_mostWithin_51 : decode cX2_mostWithin 51 = .ok (.aload_n 0, 1) := by decide +kernel
theorem dX2_mostWithin_52 : decode cX2_mostWithin 52 = .ok (.getfield 16, 3) := by decide +kernel
theorem dX2_mostWithin_55 : decode cX2_mostWithin 55 = .ok (.iload 4, 2) := by decide +kernel
theorem dX2_mostWithin_57 : decode cX2_mostWithin 57 = .ok (.aaload, 1) := by decide +kernel
theorem dX2_mostWithin_58 : decode cX2_mostWithin 58 = .ok (.iload_n 3, 1) := by decide +kernel
theorem dX2_mostWithin_59 : decode cX2_mostWithin 59 = .ok (.aload_n 0, 1) := by decide +kernel
theorem dX2_mostWithin_60 : decode cX2_mostWithin 60 = .ok (.aload_n 1, 1) := by decide +kernel
theorem dX2_mostWithin_61 : decode cX2_mostWithin 61 = .ok (.iload 4, 2) := by decide +kernel
theorem dX2_mostWithin_63 : decode cX2_mostWithin 63 = .ok (.iload_n 3, 1) := by decide +kernel
theorem dX2_mostWithin_64 : decode cX2_mostWithin 64 = .ok (.iload_n 2, 1) := by decide +kernel
theorem dX2_mostWithin_65 : decode cX2_mostWithin 65 = .ok (.invokevirtual 45, 3) := by decide +kernel
theorem dX2_mostWithin_68 : decode cX2_mostWithin 68 = .ok (.iastore, 1) := by decide +kernel
theorem dX2_mostWithin_69 : decode cX2_mostWithin 69 = .ok (.iinc 4 1, 3) := by decide +kernel
theorem dX2_mostWithin_72 : decode cX2_mostWithin 72 = .ok (.goto (-30), 3) := by decide +kernel
theorem dX2_mostWithin_75 : decode cX2_mostWithin 75 = .ok (.iconst 0, 1) := by decide +kernel
theorem dX2_mostWithin_76 : decode cX2_mostWithin 76 = .ok (.istore 4, 2) := by decide +kernel
theorem dX2_mostWithin_78 : decode cX2_mostWithin 78 = .ok (.iload 4, 2) := by decide +kernel
theorem dX2_mostWithin_80 : decode cX2_mostWithin 80 = .ok (.aload_n 1, 1) := by decide +kernel
theorem dX2_mostWithin_81 : decode cX2_mostWithin 81 = .ok (.getfield 33, 3) := by decide +kernel
theorem dX2_mostWithin_84 : decode cX2_mostWithin 84 = .ok (.if_icmp .ge 26, 3) := by decide +kernel
theorem dX2_mostWithin_87 : decode cX2_mostWithin 87 = .ok (.aload_n 0, 1) := by decide +kernel
theorem dX2_mostWithin_88 : decode cX2_mostWithin 88 = .ok (.getfield 19, 3) := by decide +kernel
theorem dX2_mostWithin_91 : decode cX2_mostWithin 91 = .ok (.iload 4, 2) := by decide +kernel
theorem dX2_mostWithin_93 : decode cX2_mostWithin 93 = .ok (.aaload, 1) := by decide +kernel
theorem dX2_mostWithin_94 : decode cX2_mostWithin 94 = .ok (.iload_n 3, 1) := by decide +kernel
theorem dX2_mostWithin_95 : decode cX2_mostWithin 95 = .ok (.aload_n 0, 1) := by decide +kernel
theorem dX2_mostWithin_96 : decode cX2_mostWithin 96 = .ok (.aload_n 1, 1) := by decide +kernel
theorem dX2_mostWithin_97 : decode cX2_mostWithin 97 = .ok (.iload 4, 2) := by decide +kernel
theorem dX2_mostWithin_99 : decode cX2_mostWithin 99 = .ok (.iload_n 3, 1) := by decide +kernel
theorem dX2_mostWithin_100 : decode cX2_mostWithin 100 = .ok (.invokevirtual 49, 3) := by decide +kernel
theorem dX2_mostWithin_103 : decode cX2_mostWithin 103 = .ok (.iastore, 1) := by decide +kernel
theorem dX2_mostWithin_104 : decode cX2_mostWithin 104 = .ok (.iinc 4 1, 3) := by decide +kernel
theorem dX2_mostWithin_107 : decode cX2_mostWithin 107 = .ok (.goto (-29), 3) := by decide +kernel
theorem dX2_mostWithin_110 : decode cX2_mostWithin 110 = .ok (.iinc 3 (-1), 3) := by decide +kernel
theorem dX2_mostWithin_113 : decode cX2_mostWithin 113 = .ok (.goto (-78), 3) := by decide +kernel
theorem dX2_mostWithin_116 : decode cX2_mostWithin 116 = .ok (.sipush (-999), 3) := by decide +kernel
theorem dX2_mostWithin_119 : decode cX2_mostWithin 119 = .ok (.istore_n 3, 1) := by decide +kernel
theorem dX2_mostWithin_120 : decode cX2_mostWithin 120 = .ok (.iconst 0, 1) := by decide +kernel
theorem dX2_mostWithin_121 : decode cX2_mostWithin 121 = .ok (.istore 4, 2) := by decide +kernel
theorem dX2_mostWithin_123 : decode cX2_mostWithin 123 = .ok (.iload 4, 2) := by decide +kernel
theorem dX2_mostWithin_125 : decode cX2_mostWithin 125 = .ok (.aload_n 1, 1) := by decide +kernel
theorem dX2_mostWithin_126 : decode cX2_mostWithin 126 = .ok (.getfield 33, 3) := by decide +kernel
theorem dX2_mostWithin_129 : decode cX2_mostWithin 129 = .ok (.if_icmp .ge 23, 3) := by decide +kernel
theorem dX2_mostWithin_132 : decode cX2_mostWithin 132 = .ok (.iload_n 3, 1) := by decide +kernel
theorem dX2_mostWithin_133 : decode cX2_mostWithin 133 = .ok (.aload_n 0, 1) := by decide +kernel
theorem dX2_mostWithin_134 : decode cX2_mostWithin 134 = .ok (.getfield 16, 3) := by decide +kernel
theorem dX2_mostWithin_137 : decode cX2_mostWithin 137 = .ok (.iload 4, 2) := by decide +kernel
theorem dX2_mostWithin_139 : decode cX2_mostWithin 139 = .ok (.aaload, 1) := by decide +kernel
theorem dX2_mostWithin_140 : decode cX2_mostWithin 140 = .ok (.iconst 0, 1) := by decide +kernel
theorem dX2_mostWithin_141 : decode cX2_mostWithin 141 = .ok (.iaload, 1) := by decide +kernel
theorem dX2_mostWithin_142 : decode cX2_mostWithin 142 = .ok (.invokestatic 53, 3) := by decide +kernel
theorem dX2_mostWithin_145 : decode cX2_mostWithin 145 = .ok (.istore_n 3, 1) := by decide +kernel
theorem dX2_mostWithin_146 : decode cX2_mostWithin 146 = .ok (.iinc 4 1, 3) := by decide +kernel
theorem dX2_mostWithin_149 : decode cX2_mostWithin 149 = .ok (.goto (-26), 3) := by decide +kernel
theorem dX2_mostWithin_152 : decode cX2_mostWithin 152 = .ok (.iload_n 3, 1) := by decide +kernel
theorem dX2_mostWithin_153 : decode cX2_mostWithin 153 = .ok (.ireturn, 1) := by decide +kernel
set_option maxRecDepth 20000 in
theorem ggX2_mostOfStretch_X2_lastEnd : GoodIn wsX2_mostOfStretch wsX2_lastEnd := goodIn_r _ [11, 12, 13, 14, 5, 15, 16, 17, 18, 19, 20, 21, 22, 23, 24, 25, 26, 27, 28, 29, 30, 31, 38, 39, 40, 41, 42, 43, 44, 45, 46, 47] (by decide +kernel) (by decide +kernel)
set_option maxRecDepth 20000 in
theorem gX2_mostOfStretch_X2_lastEnd : GoodIn wsX2_mostOfStretch (wsV RX2 58 RX2 yX2_lastEnd wsX2_lastEnd) := goodIn_app (goodIn_of _ (by decide +kernel)) ggX2_mostOfStretch_X2_lastEnd
theorem dX2_mostOfStretch_0 : decode cX2_mostOfStretch 0 = .ok (.aload_n 0, 1) := by decide +kernel
theorem dX2_mostOfStretch_1 : decode cX2_mostOfStretch 1 = .ok (.aload_n 1, 1) := by decide +kernel
theorem dX2_mostOfStretch_2 : decode cX2_mostOfStretch 2 = .ok (.iload_n 2, 1) := by decide +kernel
theorem dX2_mostOfStretch_3 : decode cX2_mostOfStretch 3 = .ok (.iload_n 3, 1) := by decide +kernel
theorem dX2_mostOfStretch_4 : decode cX2_mostOfStretch 4 = .ok (.iload 4, 2) := by decide +kernel
theorem dX2_mostOfStretch_6 : decode cX2_mostOfStretch 6 = .ok (.invokevirtual 58, 3) := by decide +kernel
theorem dX2_mostOfStretch_9 : decode cX2_mostOfStretch 9 = .ok (.istore 5, 2) := by decide +kernel
theorem dX2_mostOfStretch_11 : decode cX2_mostOfStretch 11 = .ok (.sipush (-999), 3) := by decide +kernel
theorem dX2_mostOfStretch_14 : decode cX2_mostOfStretch 14 = .ok (.istore 6, 2) := by decide +kernel
theorem dX2_mostOfStretch_16 : decode cX2_mostOfStretch 16 = .ok (.iload_n 3, 1) := by decide +kernel
theorem dX2_mostOfStretch_17 : decode cX2_mostOfStretch 17 = .ok (.iconst 1, 1) := by decide +kernel
theorem dX2_mostOfStretch_18 : decode cX2_mostOfStretch 18 = .ok (.iadd, 1) := by decide +kernel
theorem dX2_mostOfStretch_19 : decode cX2_mostOfStretch 19 = .ok (.istore 7, 2) := by decide +kernel
theorem dX2_mostOfStretch_21 : decode cX2_mostOfStretch 21 = .ok (.iload 7, 2) := by decide +kernel
theorem dX2_mostOfStretch_23 : decode cX2_mostOfStretch 23 = .ok (.iload 5, 2) := by decide +kernel
theorem dX2_mostOfStretch_25 : decode cX2_mostOfStretch 25 = .ok (.if_icmp .gt 52, 3) := by decide +kernel
theorem dX2_mostOfStretch_28 : decode cX2_mostOfStretch 28 = .ok (.aload_n 0, 1) := by decide +kernel
theorem dX2_mostOfStretch_29 : decode cX2_mostOfStretch 29 = .ok (.getfield 19, 3) := by decide +kernel
theorem dX2_mostOfStretch_32 : decode cX2_mostOfStretch 32 = .ok (.iload_n 2, 1) := by decide +kernel
theorem dX2_mostOfStretch_33 : decode cX2_mostOfStretch 33 = .ok (.aaload, 1) := by decide +kernel
theorem dX2_mostOfStretch_34 : decode cX2_mostOfStretch 34 = .ok (.iload 7, 2) := by decide +kernel
theorem dX2_mostOfStretch_36 : decode cX2_mostOfStretch 36 = .ok (.iaload, 1) := by decide +kernel
theorem dX2_mostOfStretch_37 : decode cX2_mostOfStretch 37 = .ok (.sipush (-999), 3) := by decide +kernel
theorem dX2_mostOfStretch_40 : decode cX2_mostOfStretch 40 = .ok (.if_icmp .eq 31, 3) := by decide +kernel
theorem dX2_mostOfStretch_43 : decode cX2_mostOfStretch 43 = .ok (.iload 6, 2) := by decide +kernel
theorem dX2_mostOfStretch_45 : decode cX2_mostOfStretch 45 = .ok (.aload_n 0, 1) := by decide +kernel
theorem dX2_mostOfStretch_46 : decode cX2_mostOfStretch 46 = .ok (.getfield 11, 3) := by decide +kernel
theorem dX2_mostOfStretch_49 : decode cX2_mostOfStretch 49 = .ok (.iload_n 2, 1) := by decide +kernel
theorem dX2_mostOfStretch_50 : decode cX2_mostOfStretch 50 = .ok (.aaload, 1) := by decide +kernel
theorem dX2_mostOfStretch_51 : decode cX2_mostOfStretch 51 = .ok (.iload 7, 2) := by decide +kernel
theorem dX2_mostOfStretch_53 : decode cX2_mostOfStretch 53 = .ok (.iload_n 3, 1) := by decide +kernel
theorem dX2_mostOfStretch_54 : decode cX2_mostOfStretch 54 = .ok (.isub, 1) := by decide +kernel
theorem dX2_mostOfStretch_55 : decode cX2_mostOfStretch 55 = .ok (.iaload, 1) := by decide +kernel
theorem dX2_mostOfStretch_56 : decode cX2_mostOfStretch 56 = .ok (.aload_n 0, 1) := by decide +kernel
theorem dX2_mostOfStretch_57 : decode cX2_mostOfStretch 57 = .ok (.getfield 19, 3) := by decide +kernel
theorem dX2_mostOfStretch_60 : decode cX2_mostOfStretch 60 = .ok (.iload_n 2, 1) := by decide +kernel
theorem dX2_mostOfStretch_61 : decode cX2_mostOfStretch 61 = .ok (.aaload, 1) := by decide +kernel
theorem dX2_mostOfStretch_62 : decode cX2_mostOfStretch 62 = .ok (.iload 7, 2) := by decide +kernel
theorem dX2_mostOfStretch_64 : decode cX2_mostOfStretch 64 = .ok (.iaload, 1) := by decide +kernel
theorem dX2_mostOfStretch_65 : decode cX2_mostOfStretch 65 = .ok (.iadd, 1) := by decide +kernel
theorem dX2_mostOfStretch_66 : decode cX2_mostOfStretch 66 = .ok (.invokestatic 53, 3) := by decide +kernel
theorem dX2_mostOfStretch_69 : decode cX2_mostOfStretch 69 = .ok (.istore 6, 2) := by decide +kernel
theorem dX2_mostOfStretch_71 : decode cX2_mostOfStretch 71 = .ok (.iinc 7 1, 3) := by decide +kernel
theorem dX2_mostOfStretch_74 : decode cX2_mostOfStretch 74 = .ok (.goto (-53), 3) := by decide +kernel
theorem dX2_mostOfStretch_77 : decode cX2_mostOfStretch 77 = .ok (.iload 6, 2) := by decide +kernel
theorem dX2_mostOfStretch_79 : decode cX2_mostOfStretch 79 = .ok (.ireturn, 1) := by decide +kernel
set_option maxRecDepth 20000 in
theorem ggX2_lastEnd_X4_isTaxed : GoodIn wsX2_lastEnd wsX4_isTaxed := goodIn_r _ [10, 11, 12, 13, 14, 9, 15, 16, 22, 23, 24, 25, 26, 27, 28, 29, 30, 31] (by decide +kernel) (by decide +kernel)
set_option maxRecDepth 20000 in
theorem gX2_lastEnd_X4_isTaxed : GoodIn wsX2_lastEnd (wsV RX2 61 RX4 yX4_isTaxed wsX4_isTaxed) := goodIn_app (goodIn_of _ (by decide +kernel)) ggX2_lastEnd_X4_isTaxed
set_option maxRecDepth 20000 in
theorem ggX2_lastEnd_X4_isBoundElse : GoodIn wsX2_lastEnd wsX4_isBoundElse := goodIn_r _ [20, 21, 22, 23, 24, 25, 26, 27, 28, 29, 30, 31] (by decide +kernel) (by decide +kernel)
set_option maxRecDepth 20000 in
theorem gX2_lastEnd_X4_isBoundElse : GoodIn wsX2_lastEnd (wsV RX2 68 RX4 yX4_isBoundElse wsX4_isBoundElse) := goodIn_app (goodIn_of _ (by decide +kernel)) ggX2_lastEnd_X4_isBoundElse
theorem dX2_lastEnd_0 : decode cX2_lastEnd 0 = .ok (.aload_n 1, 1) := by decide +kernel
theorem dX2_lastEnd_1 : decode cX2_lastEnd 1 = .ok (.iload_n 2, 1) := by decide +kernel
theorem dX2_lastEnd_2 : decode cX2_lastEnd 2 = .ok (.invokevirtual 61, 3) := by decide +kernel
theorem dX2_lastEnd_5 : decode cX2_lastEnd 5 = .ok (.ifCond .eq 17, 3) := by decide +kernel
theorem dX2_lastEnd_8 : decode cX2_lastEnd 8 = .ok (.aload_n 1, 1) := by decide +kernel
theorem dX2_lastEnd_9 : decode cX2_lastEnd 9 = .ok (.getfield 38, 3) := by decide +kernel
theorem dX2_lastEnd_12 : decode cX2_lastEnd 12 = .ok (.iload_n 3, 1) := by decide +kernel
theorem dX2_lastEnd_13 : decode cX2_lastEnd 13 = .ok (.iload 4, 2) := by decide +kernel
theorem dX2_lastEnd_15 : decode cX2_lastEnd 15 = .ok (.iadd, 1) := by decide +kernel
theorem dX2_lastEnd_16 : decode cX2_lastEnd 16 = .ok (.invokestatic 65, 3) := by decide +kernel
theorem dX2_lastEnd_19 : decode cX2_lastEnd 19 = .ok (.goto 7, 3) := by decide +kernel
theorem dX2_lastEnd_22 : decode cX2_lastEnd 22 = .ok (.aload_n 1, 1) := by decide +kernel
theorem dX2_lastEnd_23 : decode cX2_lastEnd 23 = .ok (.getfield 38, 3) := by decide +kernel
theorem dX2_lastEnd_26 : decode cX2_lastEnd 26 = .ok (.istore 5, 2) := by decide +kernel
theorem dX2_lastEnd_28 : decode cX2_lastEnd 28 = .ok (.iload_n 3, 1) := by decide +kernel
theorem dX2_lastEnd_29 : decode cX2_lastEnd 29 = .ok (.istore 6, 2) := by decide +kernel
theorem dX2_lastEnd_31 : decode cX2_lastEnd 31 = .ok (.iload 6, 2) := by decide +kernel
theorem dX2_lastEnd_33 : decode cX2_lastEnd 33 = .ok (.iload 5, 2) := by decide +kernel
theorem dX2_lastEnd_35 : decode cX2_lastEnd 35 = .ok (.if_icmp .ge 19, 3) := by decide +kernel
theorem dX2_lastEnd_38 : decode cX2_lastEnd 38 = .ok (.aload_n 1, 1) := by decide +kernel
theorem dX2_lastEnd_39 : decode cX2_lastEnd 39 = .ok (.iload 6, 2) := by decide +kernel
theorem dX2_lastEnd_41 : decode cX2_lastEnd 41 = .ok (.iload_n 2, 1) := by decide +kernel
theorem dX2_lastEnd_42 : decode cX2_lastEnd 42 = .ok (.invokevirtual 68, 3) := by decide +kernel
theorem dX2_lastEnd_45 : decode cX2_lastEnd 45 = .ok (.ifCond .ne 9, 3) := by decide +kernel
theorem dX2_lastEnd_48 : decode cX2_lastEnd 48 = .ok (.iinc 6 1, 3) := by decide +kernel
theorem dX2_lastEnd_51 : decode cX2_lastEnd 51 = .ok (.goto (-20), 3) := by decide +kernel
theorem dX2_lastEnd_54 : decode cX2_lastEnd 54 = .ok (.iload 6, 2) := by decide +kernel
theorem dX2_lastEnd_56 : decode cX2_lastEnd 56 = .ok (.ireturn, 1) := by decide +kernel
theorem dX2_mostOfOthers_0 : decode cX2_mostOfOthers 0 = .ok (.sipush (-999), 3) := by decide +kernel
theorem dX2_mostOfOthers_3 : decode cX2_mostOfOthers 3 = .ok (.istore 4, 2) := by decide +kernel
theorem dX2_mostOfOthers_5 : decode cX2_mostOfOthers 5 = .ok (.iconst 0, 1) := by decide +kernel
theorem dX2_mostOfOthers_6 : decode cX2_mostOfOthers 6 = .ok (.istore 5, 2) := by decide +kernel
theorem dX2_mostOfOthers_8 : decode cX2_mostOfOthers 8 = .ok (.iload 5, 2) := by decide +kernel
theorem dX2_mostOfOthers_10 : decode cX2_mostOfOthers 10 = .ok (.aload_n 1, 1) := by decide +kernel
theorem dX2_mostOfOthers_11 : decode cX2_mostOfOthers 11 = .ok (.getfield 33, 3) := by decide +kernel
theorem dX2_mostOfOthers_14 : decode cX2_mostOfOthers 14 = .ok (.if_icmp .ge 51, 3) := by decide +kernel
theorem dX2_mostOfOthers_17 : decode cX2_mostOfOthers 17 = .ok (.iload 5, 2) := by decide +kernel
theorem dX2_mostOfOthers_19 : decode cX2_mostOfOthers 19 = .ok (.iload_n 2, 1) := by decide +kernel
theorem dX2_mostOfOthers_20 : decode cX2_mostOfOthers 20 = .ok (.if_icmp .eq 39, 3) := by decide +kernel
theorem dX2_mostOfOthers_23 : decode cX2_mostOfOthers 23 = .ok (.aload_n 0, 1) := by decide +kernel
theorem dX2_mostOfOthers_24 : decode cX2_mostOfOthers 24 = .ok (.getfield 16, 3) := by decide +kernel
theorem dX2_mostOfOthers_27 : decode cX2_mostOfOthers 27 = .ok (.iload 5, 2) := by decide +kernel
theorem dX2_mostOfOthers_29 : decode cX2_mostOfOthers 29 = .ok (.aaload, 1) := by decide +kernel
theorem dX2_mostOfOthers_30 : decode cX2_mostOfOthers 30 = .ok (.iload_n 3, 1) := by decide +kernel
theorem dX2_mostOfOthers_31 : decode cX2_mostOfOthers 31 = .ok (.iaload, 1) := by decide +kernel
theorem dX2_mostOfOthers_32 : decode cX2_mostOfOthers 32 = .ok (.sipush (-999), 3) := by decide +kernel
theorem dX2_mostOfOthers_35 : decode cX2_mostOfOthers 35 = .ok (.if_icmp .eq 24, 3) := by decide +kernel
theorem dX2_mostOfOthers_38 : decode cX2_mostOfOthers 38 = .ok (.iload 4, 2) := by decide +kernel
theorem dX2_mostOfOthers_40 : decode cX2_mostOfOthers 40 = .ok (.aload_n 0, 1) := by decide +kernel
theorem dX2_mostOfOthers_41 : decode cX2_mostOfOthers 41 = .ok (.getfield 16, 3) := by decide +kernel
theorem dX2_mostOfOthers_44 : decode cX2_mostOfOthers 44 = .ok (.iload 5, 2) := by decide +kernel
theorem dX2_mostOfOthers_46 : decode cX2_mostOfOthers 46 = .ok (.aaload, 1) := by decide +kernel
theorem dX2_mostOfOthers_47 : decode cX2_mostOfOthers 47 = .ok (.iload_n 3, 1) := by decide +kernel
theorem dX2_mostOfOthers_48 : decode cX2_mostOfOthers 48 = .ok (.iaload, 1) := by decide +kernel
theorem dX2_mostOfOthers_49 : decode cX2_mostOfOthers 49 = .ok (.aload_n 1, 1) := by decide +kernel
theorem dX2_mostOfOthers_50 : decode cX2_mostOfOthers 50 = .ok (.getfield 72, 3) := by decide +kernel
theorem dX2_mostOfOthers_53 : decode cX2_mostOfOthers 53 = .ok (.isub, 1) := by decide +kernel
theorem dX2_mostOfOthers_54 : decode cX2_mostOfOthers 54 = .ok (.invokestatic 53, 3) := by decide +kernel
theorem dX2_mostOfOthers_57 : decode cX2_mostOfOthers 57 = .ok (.istore 4, 2) := by decide +kernel
theorem dX2_mostOfOthers_59 : decode cX2_mostOfOthers 59 = .ok (.iinc 5 1, 3) := by decide +kernel
theorem dX2_mostOfOthers_62 : decode cX2_mostOfOthers 62 = .ok (.goto (-54), 3) := by decide +kernel
theorem dX2_mostOfOthers_65 : decode cX2_mostOfOthers 65 = .ok (.iload 4, 2) := by decide +kernel
theorem dX2_mostOfOthers_67 : decode cX2_mostOfOthers 67 = .ok (.ireturn, 1) := by decide +kernel
set_option maxRecDepth 20000 in
theorem ggX2_findBest_X2_begin : GoodIn wsX2_findBest wsX2_begin := goodIn_r _ [8, 9, 3, 10, 11, 12, 13, 14, 15, 16, 17, 18, 19, 20, 21, 22, 23, 24, 25, 26, 27, 28, 70, 71, 72, 73, 74, 75, 76, 77, 78, 79, 64, 65, 66, 67, 68, 69] (by decide +kernel) (by decide +kernel)
set_option maxRecDepth 20000 in
theorem gX2_findBest_X2_begin : GoodIn wsX2_findBest (wsV RX2 75 RX2 yX2_begin wsX2_begin) := goodIn_app (goodIn_of _ (by decide +kernel)) ggX2_findBest_X2_begin
set_option maxRecDepth 20000 in
theorem ggX2_findBest_X2_mostWithin : GoodIn wsX2_findBest wsX2_mostWithin := goodIn_r _ [32, 9, 33, 3, 34, 35, 36, 37, 38, 39, 40, 41, 7, 42, 10, 43, 44, 45, 46, 47, 48, 49, 50, 51, 52, 14, 53, 16, 18, 19, 20, 21, 22, 54, 55, 56, 57, 58, 59, 60, 61, 62, 63, 70, 71, 72, 73, 74, 75, 76, 77, 78, 79, 64, 65, 66, 67, 68, 69] (by decide +kernel) (by decide +kernel)
set_option maxRecDepth 20000 in
theorem gX2_findBest_X2_mostWithin : GoodIn wsX2_findBest (wsV RX2 79 RX2 yX2_mostWithin wsX2_mostWithin) := goodIn_app (goodIn_of _ (by decide +kernel)) ggX2_findBest_X2_mostWithin
theorem dX2_findBest_0 : decode cX2_findBest 0 = .ok (.aload_n 0, 1) := by decide +kernel
theorem dX2_findBest_1 : decode cX2_findBest 1 = .ok (.aload_n 1, 1) := by decide +kernel
theorem dX2_findBest_2 : decode cX2_findBest 2 = .ok (.invokevirtual 75, 3) := by decide +kernel
theorem dX2_findBest_5 : decode cX2_findBest 5 = .ok (.aload_n 0, 1) := by decide +kernel
theorem dX2_findBest_6 : decode cX2_findBest 6 = .ok (.sipush (-999), 3) := by decide +kernel
theorem dX2_findBest_9 : decode cX2_findBest 9 = .ok (.putfield 26, 3) := by decide +kernel
theorem dX2_findBest_12 : decode cX2_findBest 12 = .ok (.aload_n 0, 1) := by decide +kernel
theorem dX2_findBest_13 : decode cX2_findBest 13 = .ok (.bipush (-9), 2) := by decide +kernel
theorem dX2_findBest_15 : decode cX2_findBest 15 = .ok (.putfield 30, 3) := by decide +kernel
theorem dX2_findBest_18 : decode cX2_findBest 18 = .ok (.aload_n 0, 1) := by decide +kernel
theorem dX2_findBest_19 : decode cX2_findBest 19 = .ok (.aload_n 1, 1) := by decide +kernel
theorem dX2_findBest_20 : decode cX2_findBest 20 = .ok (.aload_n 1, 1) := by decide +kernel
theorem dX2_findBest_21 : decode cX2_findBest 21 = .ok (.getfield 38, 3) := by decide +kernel
theorem dX2_findBest_24 : decode cX2_findBest 24 = .ok (.invokevirtual 79, 3) := by decide +kernel
theorem dX2_findBest_27 : decode cX2_findBest 27 = .ok (.istore_n 2, 1) := by decide +kernel
theorem dX2_findBest_28 : decode cX2_findBest 28 = .ok (.iconst 1, 1) := by decide +kernel
theorem dX2_findBest_29 : decode cX2_findBest 29 = .ok (.istore_n 3, 1) := by decide +kernel
theorem dX2_findBest_30 : decode cX2_findBest 30 = .ok (.iload_n 3, 1) := by decide +kernel
theorem dX2_findBest_31 : decode cX2_findBest 31 = .ok (.aload_n 1, 1) := by decide +kernel
theorem dX2_findBest_32 : decode cX2_findBest 32 = .ok (.getfield 38, 3) := by decide +kernel
theorem dX2_findBest_35 : decode cX2_findBest 35 = .ok (.if_icmp .gt 65, 3) := by decide +kernel
theorem dX2_findBest_38 : decode cX2_findBest 38 = .ok (.iload_n 2, 1) := by decide +kernel
theorem dX2_findBest_39 : decode cX2_findBest 39 = .ok (.iload_n 3, 1) := by decide +kernel
theorem dX2_findBest_40 : decode cX2_findBest 40 = .ok (.iload_n 3, 1) := by decide +kernel
theorem dX2_findBest_41 : decode cX2_findBest 41 = .ok (.imul, 1) := by decide +kernel
theorem dX2_findBest_42 : decode cX2_findBest 42 = .ok (.isub, 1) := by decide +kernel
theorem dX2_findBest_43 : decode cX2_findBest 43 = .ok (.aload_n 0, 1) := by decide +kernel
theorem dX2_findBest_44 : decode cX2_findBest 44 = .ok (.getfield 26, 3) := by decide +kernel
theorem dX2_findBest_47 : decode cX2_findBest 47 = .ok (.if_icmp .le 53, 3) := by decide +kernel
theorem dX2_findBest_50 : decode cX2_findBest 50 = .ok (.aload_n 0, 1) := by decide +kernel
theorem dX2_findBest_51 : decode cX2_findBest 51 = .ok (.aload_n 1, 1) := by decide +kernel
theorem dX2_findBest_52 : decode cX2_findBest 52 = .ok (.iload_n 3, 1) := by decide +kernel
theorem dX2_findBest_53 : decode cX2_findBest 53 = .ok (.invokevirtual 79, 3) := by decide +kernel
theorem dX2_findBest_56 : decode cX2_findBest 56 = .ok (.istore 4, 2) := by decide +kernel
theorem dX2_findBest_58 : decode cX2_findBest 58 = .ok (.iload 4, 2) := by decide +kernel
theorem dX2_findBest_60 : decode cX2_findBest 60 = .ok (.sipush (-999), 3) := by decide +kernel
theorem dX2_findBest_63 : decode cX2_findBest 63 = .ok (.if_icmp .eq 31, 3) := by decide +kernel
theorem dX2_findBest_66 : decode cX2_findBest 66 = .ok (.iload 4, 2) := by decide +kernel
theorem dX2_findBest_68 : decode cX2_findBest 68 = .ok (.iload_n 3, 1) := by decide +kernel
theorem dX2_findBest_69 : decode cX2_findBest 69 = .ok (.iload_n 3, 1) := by decide +kernel
theorem dX2_findBest_70 : decode cX2_findBest 70 = .ok (.imul, 1) := by decide +kernel
theorem dX2_findBest_71 : decode cX2_findBest 71 = .ok (.isub, 1) := by decide +kernel
theorem dX2_findBest_72 : decode cX2_findBest 72 = .ok (.aload_n 0, 1) := by decide +kernel
theorem dX2_findBest_73 : decode cX2_findBest 73 = .ok (.getfield 26, 3) := by decide +kernel
theorem dX2_findBest_76 : decode cX2_findBest 76 = .ok (.if_icmp .le 18, 3) := by decide +kernel
theorem dX2_findBest_79 : decode cX2_findBest 79 = .ok (.aload_n 0, 1) := by decide +kernel
theorem dX2_findBest_80 : decode cX2_findBest 80 = .ok (.iload 4, 2) := by decide +kernel
theorem dX2_findBest_82 : decode cX2_findBest 82 = .ok (.iload_n 3, 1) := by decide +kernel
theorem dX2_findBest_83 : decode cX2_findBest 83 = .ok (.iload_n 3, 1) := by decide +kernel
theorem dX2_findBest_84 : decode cX2_findBest 84 = .ok (.imul, 1) := by decide +kernel
theorem dX2_findBest_85 : decode cX2_findBest 85 = .ok (.isub, 1) := by decide +kernel
theorem dX2_findBest_86 : decode cX2_findBest 86 = .ok (.putfield 26, 3) := by decide +kernel
theorem dX2_findBest_89 : decode cX2_findBest 89 = .ok (.aload_n 0, 1) := by decide +kernel
theorem dX2_findBest_90 : decode cX2_findBest 90 = .ok (.iload_n 3, 1) := by decide +kernel
theorem dX2_findBest_91 : decode cX2_findBest 91 = .ok (.putfield 30, 3) := by decide +kernel
theorem dX2_findBest_94 : decode cX2_findBest 94 = .ok (.iinc 3 1, 3) := by decide +kernel
theorem dX2_findBest_97 : decode cX2_findBest 97 = .ok (.goto (-67), 3) := by decide +kernel
theorem dX2_findBest_100 : decode cX2_findBest 100 = .ok (.return_, 1) := by decide +kernel
set_option maxRecDepth 20000 in
theorem ggX2_findFirstYear_X2_mostWithin : GoodIn wsX2_findFirstYear wsX2_mostWithin := goodIn_r _ [8, 9, 10, 3, 11, 12, 13, 14, 15, 16, 17, 18, 7, 19, 20, 21, 22, 23, 24, 25, 26, 27, 28, 29, 30, 31, 32, 33, 34, 35, 36, 37, 38, 39, 40, 41, 42, 43, 44, 45, 46, 47, 48, 71, 72, 73, 74, 75, 76, 77, 78, 79, 80, 65, 66, 67, 68, 69, 70] (by decide +kernel) (by decide +kernel)
set_option maxRecDepth 20000 in
theorem gX2_findFirstYear_X2_mostWithin : GoodIn wsX2_findFirstYear (wsV RX2 79 RX2 yX2_mostWithin wsX2_mostWithin) := goodIn_app (goodIn_of _ (by decide +kernel)) ggX2_findFirstYear_X2_mostWithin
set_option maxRecDepth 20000 in
theorem ggX2_findFirstYear_X2_firstStart : GoodIn wsX2_findFirstYear wsX2_firstStart := goodIn_r _ [52, 9, 11, 71, 72, 73, 74, 75, 76, 77, 78, 79, 80, 65, 66, 67, 68, 69, 70] (by decide +kernel) (by decide +kernel)
set_option maxRecDepth 20000 in
theorem gX2_findFirstYear_X2_firstStart : GoodIn wsX2_findFirstYear (wsV RX2 83 RX2 yX2_firstStart wsX2_firstStart) := goodIn_app (goodIn_of _ (by decide +kernel)) ggX2_findFirstYear_X2_firstStart
set_option maxRecDepth 20000 in
theorem ggX2_findFirstYear_X2_nextThing : GoodIn wsX2_findFirstYear wsX2_nextThing := goodIn_r _ [56, 2, 11, 20, 9, 57, 58, 59, 7, 60, 1, 10, 21, 22, 23, 24, 3, 25, 26, 14, 27, 28, 29, 30, 31, 32, 33, 34, 35, 36, 37, 38, 39, 40, 41, 42, 43, 61, 62, 63, 64, 48, 65, 66, 67, 68, 69, 70, 71, 72, 73, 74, 75, 76, 77, 78, 79, 80] (by decide +kernel) (by decide +kernel)
set_option maxRecDepth 20000 in
theorem gX2_findFirstYear_X2_nextThing : GoodIn wsX2_findFirstYear (wsV RX2 86 RX2 yX2_nextThing wsX2_nextThing) := goodIn_app (goodIn_of _ (by decide +kernel)) ggX2_findFirstYear_X2_nextThing
theorem dX2_findFirstYear_0 : decode cX2_findFirstYear 0 = .ok (.aload_n 0, 1) := by decide +kernel
theorem dX2_findFirstYear_1 : decode cX2_findFirstYear 1 = .ok (.aload_n 1, 1) := by decide +kernel
theorem dX2_findFirstYear_2 : decode cX2_findFirstYear 2 = .ok (.aload_n 0, 1) := by decide +kernel
theorem dX2_findFirstYear_3 : decode cX2_findFirstYear 3 = .ok (.getfield 30, 3) := by decide +kernel
theorem dX2_findFirstYear_6 : decode cX2_findFirstYear 6 = .ok (.invokevirtual 79, 3) := by decide +kernel
theorem dX2_findFirstYear_9 : decode cX2_findFirstYear 9 = .ok (.istore_n 2, 1) := by decide +kernel
theorem dX2_findFirstYear_10 : decode cX2_findFirstYear 10 = .ok (.iconst 0, 1) := by decide +kernel
theorem dX2_findFirstYear_11 : decode cX2_findFirstYear 11 = .ok (.istore_n 3, 1) := by decide +kernel
theorem dX2_findFirstYear_12 : decode cX2_findFirstYear 12 = .ok (.aload_n 0, 1) := by decide +kernel
theorem dX2_findFirstYear_13 : decode cX2_findFirstYear 13 = .ok (.getfield 22, 3) := by decide +kernel
theorem dX2_findFirstYear_16 : decode cX2_findFirstYear 16 = .ok (.iconst 0, 1) := by decide +kernel
theorem dX2_findFirstYear_17 : decode cX2_findFirstYear 17 = .ok (.aload_n 0, 1) := by decide +kernel
theorem dX2_findFirstYear_18 : decode cX2_findFirstYear 18 = .ok (.aload_n 1, 1) := by decide +kernel
theorem dX2_findFirstYear_19 : decode cX2_findFirstYear 19 = .ok (.iload_n 2, 1) := by decide +kernel
theorem dX2_findFirstYear_20 : decode cX2_findFirstYear 20 = .ok (.invokevirtual 83, 3) := by decide +kernel
theorem dX2_findFirstYear_23 : decode cX2_findFirstYear 23 = .ok (.iastore, 1) := by decide +kernel
theorem dX2_findFirstYear_24 : decode cX2_findFirstYear 24 = .ok (.iconst 1, 1) := by decide +kernel
theorem dX2_findFirstYear_25 : decode cX2_findFirstYear 25 = .ok (.istore 4, 2) := by decide +kernel
theorem dX2_findFirstYear_27 : decode cX2_findFirstYear 27 = .ok (.iload 4, 2) := by decide +kernel
theorem dX2_findFirstYear_29 : decode cX2_findFirstYear 29 = .ok (.aload_n 1, 1) := by decide +kernel
theorem dX2_findFirstYear_30 : decode cX2_findFirstYear 30 = .ok (.getfield 38, 3) := by decide +kernel
theorem dX2_findFirstYear_33 : decode cX2_findFirstYear 33 = .ok (.if_icmp .ge 43, 3) := by decide +kernel
theorem dX2_findFirstYear_36 : decode cX2_findFirstYear 36 = .ok (.aload_n 0, 1) := by decide +kernel
theorem dX2_findFirstYear_37 : decode cX2_findFirstYear 37 = .ok (.getfield 22, 3) := by decide +kernel
theorem dX2_findFirstYear_40 : decode cX2_findFirstYear 40 = .ok (.iload 4, 2) := by decide +kernel
theorem dX2_findFirstYear_42 : decode cX2_findFirstYear 42 = .ok (.aload_n 0, 1) := by decide +kernel
theorem dX2_findFirstYear_43 : decode cX2_findFirstYear 43 = .ok (.aload_n 1, 1) := by decide +kernel
theorem dX2_findFirstYear_44 : decode cX2_findFirstYear 44 = .ok (.iload_n 3, 1) := by decide +kernel
theorem dX2_findFirstYear_45 : decode cX2_findFirstYear 45 = .ok (.iload 4, 2) := by decide +kernel
theorem dX2_findFirstYear_47 : decode cX2_findFirstYear 47 = .ok (.invokevirtual 86, 3) := by decide +kernel
theorem dX2_findFirstYear_50 : decode cX2_findFirstYear 50 = .ok (.iastore, 1) := by decide +kernel
theorem dX2_findFirstYear_51 : decode cX2_findFirstYear 51 = .ok (.aload_n 0, 1) := by decide +kernel
theorem dX2_findFirstYear_52 : decode cX2_findFirstYear 52 = .ok (.getfield 22, 3) := by decide +kernel
theorem dX2_findFirstYear_55 : decode cX2_findFirstYear 55 = .ok (.iload 4, 2) := by decide +kernel
theorem dX2_findFirstYear_57 : decode cX2_findFirstYear 57 = .ok (.iaload, 1) := by decide +kernel
theorem dX2_findFirstYear_58 : decode cX2_findFirstYear 58 = .ok (.aload_n 0, 1) := by decide +kernel
theorem dX2_findFirstYear_59 : decode cX2_findFirstYear 59 = .ok (.getfield 22, 3) := by decide +kernel
theorem dX2_findFirstYear_62 : decode cX2_findFirstYear 62 = .ok (.iload_n 3, 1) := by decide +kernel
theorem dX2_findFirstYear_63 : decode cX2_findFirstYear 63 = .ok (.iaload, 1) := by decide +kernel
theorem dX2_findFirstYear_64 : decode cX2_findFirstYear 64 = .ok (.if_icmp .eq 6, 3) := by decide +kernel
theorem dX2_findFirstYear_67 : decode cX2_findFirstYear 67 = .ok (.iload 4, 2) := by decide +kernel
theorem dX2_findFirstYear_69 : decode cX2_findFirstYear 69 = .ok (.istore_n 3, 1) := by decide +kernel
theorem dX2_findFirstYear_70 : decode cX2_findFirstYear 70 = .ok (.iinc 4 1, 3) := by decide +kernel
theorem dX2_findFirstYear_73 : decode cX2_findFirstYear 73 = .ok (.goto (-46), 3) := by decide +kernel
theorem dX2_findFirstYear_76 : decode cX2_findFirstYear 76 = .ok (.return_, 1) := by decide +kernel
theorem dX2_firstStart_0 : decode cX2_firstStart 0 = .ok (.iconst 0, 1) := by decide +kernel
theorem dX2_firstStart_1 : decode cX2_firstStart 1 = .ok (.istore_n 3, 1) := by decide +kernel
theorem dX2_firstStart_2 : decode cX2_firstStart 2 = .ok (.iload_n 3, 1) := by decide +kernel
theorem dX2_firstStart_3 : decode cX2_firstStart 3 = .ok (.aload_n 1, 1) := by decide +kernel
theorem dX2_firstStart_4 : decode cX2_firstStart 4 = .ok (.getfield 33, 3) := by decide +kernel
theorem dX2_firstStart_7 : decode cX2_firstStart 7 = .ok (.if_icmp .ge 23, 3) := by decide +kernel
theorem dX2_firstStart_10 : decode cX2_firstStart 10 = .ok (.aload_n 0, 1) := by decide +kernel
theorem dX2_firstStart_11 : decode cX2_firstStart 11 = .ok (.getfield 16, 3) := by decide +kernel
theorem dX2_firstStart_14 : decode cX2_firstStart 14 = .ok (.iload_n 3, 1) := by decide +kernel
theorem dX2_firstStart_15 : decode cX2_firstStart 15 = .ok (.aaload, 1) := by decide +kernel
theorem dX2_firstStart_16 : decode cX2_firstStart 16 = .ok (.iconst 0, 1) := by decide +kernel
theorem dX2_firstStart_17 : decode cX2_firstStart 17 = .ok (.iaload, 1) := by decide +kernel
theorem dX2_firstStart_18 : decode cX2_firstStart 18 = .ok (.iload_n 2, 1) := by decide +kernel
theorem dX2_firstStart_19 : decode cX2_firstStart 19 = .ok (.if_icmp .ne 5, 3) := by decide +kernel
theorem dX2_firstStart_22 : decode cX2_firstStart 22 = .ok (.iload_n 3, 1) := by decide +kernel
theorem dX2_firstStart_23 : decode cX2_firstStart 23 = .ok (.ireturn, 1) := by decide +kernel
theorem dX2_firstStart_24 : decode cX2_firstStart 24 = .ok (.iinc 3 1, 3) := by decide +kernel
theorem dX2_firstStart_27 : decode cX2_firstStart 27 = .ok (.goto (-25), 3) := by decide +kernel
theorem dX2_firstStart_30 : decode cX2_firstStart 30 = .ok (.iconst 0, 1) := by decide +kernel
theorem dX2_firstStart_31 : decode cX2_firstStart 31 = .ok (.ireturn, 1) := by decide +kernel
set_option maxRecDepth 20000 in
theorem ggX2_nextThing_X2_goesOn : GoodIn wsX2_nextThing wsX2_goesOn := goodIn_r _ [9, 1, 10, 11, 3, 2, 12, 13, 14, 8, 15, 16, 17, 18, 19, 20, 21, 22, 23, 24, 25, 26, 27, 28, 29, 30, 31, 32, 33, 34, 35, 36, 42, 43, 44, 45, 46, 47, 48, 49, 50, 51, 52, 53, 54, 55, 56, 57] (by decide +kernel) (by decide +kernel)
set_option maxRecDepth 20000 in
theorem gX2_nextThing_X2_goesOn : GoodIn wsX2_nextThing (wsV RX2 89 RX2 yX2_goesOn wsX2_goesOn) := goodIn_app (goodIn_of _ (by decide +kernel)) ggX2_nextThing_X2_goesOn
set_option maxRecDepth 20000 in
theorem ggX2_nextThing_X2_turnsTo : GoodIn wsX2_nextThing wsX2_turnsTo := goodIn_r _ [40, 2, 41, 42, 43, 44, 45, 46, 47, 48, 49, 50, 51, 52, 53, 54, 55, 56, 57] (by decide +kernel) (by decide +kernel)
set_option maxRecDepth 20000 in
theorem gX2_nextThing_X2_turnsTo : GoodIn wsX2_nextThing (wsV RX2 93 RX2 yX2_turnsTo wsX2_turnsTo) := goodIn_app (goodIn_of _ (by decide +kernel)) ggX2_nextThing_X2_turnsTo
theorem dX2_nextThing_0 : decode cX2_nextThing 0 = .ok (.aload_n 0, 1) := by decide +kernel
theorem dX2_nextThing_1 : decode cX2_nextThing 1 = .ok (.getfield 22, 3) := by decide +kernel
theorem dX2_nextThing_4 : decode cX2_nextThing 4 = .ok (.iload_n 2, 1) := by decide +kernel
theorem dX2_nextThing_5 : decode cX2_nextThing 5 = .ok (.iaload, 1) := by decide +kernel
theorem dX2_nextThing_6 : decode cX2_nextThing 6 = .ok (.istore 4, 2) := by decide +kernel
theorem dX2_nextThing_8 : decode cX2_nextThing 8 = .ok (.aload_n 0, 1) := by decide +kernel
theorem dX2_nextThing_9 : decode cX2_nextThing 9 = .ok (.getfield 16, 3) := by decide +kernel
theorem dX2_nextThing_12 : decode cX2_nextThing 12 = .ok (.iload 4, 2) := by decide +kernel
theorem dX2_nextThing_14 : decode cX2_nextThing 14 = .ok (.aaload, 1) := by decide +kernel
theorem dX2_nextThing_15 : decode cX2_nextThing 15 = .ok (.iload_n 2, 1) := by decide +kernel
theorem dX2_nextThing_16 : decode cX2_nextThing 16 = .ok (.iaload, 1) := by decide +kernel
theorem dX2_nextThing_17 : decode cX2_nextThing 17 = .ok (.aload_n 0, 1) := by decide +kernel
theorem dX2_nextThing_18 : decode cX2_nextThing 18 = .ok (.getfield 11, 3) := by decide +kernel
theorem dX2_nextThing_21 : decode cX2_nextThing 21 = .ok (.iload 4, 2) := by decide +kernel
theorem dX2_nextThing_23 : decode cX2_nextThing 23 = .ok (.aaload, 1) := by decide +kernel
theorem dX2_nextThing_24 : decode cX2_nextThing 24 = .ok (.iload_n 3, 1) := by decide +kernel
theorem dX2_nextThing_25 : decode cX2_nextThing 25 = .ok (.iload_n 2, 1) := by decide +kernel
theorem dX2_nextThing_26 : decode cX2_nextThing 26 = .ok (.isub, 1) := by decide +kernel
theorem dX2_nextThing_27 : decode cX2_nextThing 27 = .ok (.iaload, 1) := by decide +kernel
theorem dX2_nextThing_28 : decode cX2_nextThing 28 = .ok (.isub, 1) := by decide +kernel
theorem dX2_nextThing_29 : decode cX2_nextThing 29 = .ok (.istore 5, 2) := by decide +kernel
theorem dX2_nextThing_31 : decode cX2_nextThing 31 = .ok (.iconst 0, 1) := by decide +kernel
theorem dX2_nextThing_32 : decode cX2_nextThing 32 = .ok (.istore 6, 2) := by decide +kernel
theorem dX2_nextThing_34 : decode cX2_nextThing 34 = .ok (.iload 6, 2) := by decide +kernel
theorem dX2_nextThing_36 : decode cX2_nextThing 36 = .ok (.aload_n 1, 1) := by decide +kernel
theorem dX2_nextThing_37 : decode cX2_nextThing 37 = .ok (.getfield 33, 3) := by decide +kernel
theorem dX2_nextThing_40 : decode cX2_nextThing 40 = .ok (.if_icmp .ge 45, 3) := by decide +kernel
theorem dX2_nextThing_43 : decode cX2_nextThing 43 = .ok (.iload 6, 2) := by decide +kernel
theorem dX2_nextThing_45 : decode cX2_nextThing 45 = .ok (.iload 4, 2) := by decide +kernel
theorem dX2_nextThing_47 : decode cX2_nextThing 47 = .ok (.if_icmp .ne 16, 3) := by decide +kernel
theorem dX2_nextThing_50 : decode cX2_nextThing 50 = .ok (.aload_n 0, 1) := by decide +kernel
theorem dX2_nextThing_51 : decode cX2_nextThing 51 = .ok (.aload_n 1, 1) := by decide +kernel
theorem dX2_nextThing_52 : decode cX2_nextThing 52 = .ok (.iload_n 2, 1) := by decide +kernel
theorem dX2_nextThing_53 : decode cX2_nextThing 53 = .ok (.iload_n 3, 1) := by decide +kernel
theorem dX2_nextThing_54 : decode cX2_nextThing 54 = .ok (.invokevirtual 89, 3) := by decide +kernel
theorem dX2_nextThing_57 : decode cX2_nextThing 57 = .ok (.ifCond .eq 22, 3) := by decide +kernel
theorem dX2_nextThing_60 : decode cX2_nextThing 60 = .ok (.goto 16, 3) := by decide +kernel
theorem dX2_nextThing_63 : decode cX2_nextThing 63 = .ok (.aload_n 0, 1) := by decide +kernel
theorem dX2_nextThing_64 : decode cX2_nextThing 64 = .ok (.aload_n 1, 1) := by decide +kernel
theorem dX2_nextThing_65 : decode cX2_nextThing 65 = .ok (.iload 6, 2) := by decide +kernel
theorem dX2_nextThing_67 : decode cX2_nextThing 67 = .ok (.iload_n 3, 1) := by decide +kernel
theorem dX2_nextThing_68 : decode cX2_nextThing 68 = .ok (.iload 5, 2) := by decide +kernel
theorem dX2_nextThing_70 : decode cX2_nextThing 70 = .ok (.invokevirtual 93, 3) := by decide +kernel
theorem dX2_nextThing_73 : decode cX2_nextThing 73 = .ok (.ifCond .eq 6, 3) := by decide +kernel
theorem dX2_nextThing_76 : decode cX2_nextThing 76 = .ok (.iload 6, 2) := by decide +kernel
theorem dX2_nextThing_78 : decode cX2_nextThing 78 = .ok (.ireturn, 1) := by decide +kernel
theorem dX2_nextThing_79 : decode cX2_nextThing 79 = .ok (.iinc 6 1, 3) := by decide +kernel
theorem dX2_nextThing_82 : decode cX2_nextThing 82 = .ok (.goto (-48), 3) := by decide +kernel
theorem dX2_nextThing_85 : decode cX2_nextThing 85 = .ok (.iload 4, 2) := by decide +kernel
theorem dX2_nextThing_87 : decode cX2_nextThing 87 = .ok (.ireturn, 1) := by decide +kernel
set_option maxRecDepth 20000 in
theorem ggX2_goesOn_X2_lastEnd : GoodIn wsX2_goesOn wsX2_lastEnd := goodIn_r _ [10, 11, 12, 13, 14, 15, 16, 17, 18, 19, 20, 21, 22, 23, 24, 25, 26, 27, 28, 29, 30, 31, 38, 39, 40, 41, 42, 43, 44, 45, 46, 47] (by decide +kernel) (by decide +kernel)
set_option maxRecDepth 20000 in
theorem gX2_goesOn_X2_lastEnd : GoodIn wsX2_goesOn (wsV RX2 58 RX2 yX2_lastEnd wsX2_lastEnd) := goodIn_app (goodIn_of _ (by decide +kernel)) ggX2_goesOn_X2_lastEnd
theorem dX2_goesOn_0 : decode cX2_goesOn 0 = .ok (.aload_n 0, 1) := by decide +kernel
theorem dX2_goesOn_1 : decode cX2_goesOn 1 = .ok (.getfield 22, 3) := by decide +kernel
theorem dX2_goesOn_4 : decode cX2_goesOn 4 = .ok (.iload_n 2, 1) := by decide +kernel
theorem dX2_goesOn_5 : decode cX2_goesOn 5 = .ok (.iaload, 1) := by decide +kernel
theorem dX2_goesOn_6 : decode cX2_goesOn 6 = .ok (.istore 4, 2) := by decide +kernel
theorem dX2_goesOn_8 : decode cX2_goesOn 8 = .ok (.aload_n 0, 1) := by decide +kernel
theorem dX2_goesOn_9 : decode cX2_goesOn 9 = .ok (.aload_n 1, 1) := by decide +kernel
theorem dX2_goesOn_10 : decode cX2_goesOn 10 = .ok (.iload 4, 2) := by decide +kernel
theorem dX2_goesOn_12 : decode cX2_goesOn 12 = .ok (.iload_n 2, 1) := by decide +kernel
theorem dX2_goesOn_13 : decode cX2_goesOn 13 = .ok (.aload_n 0, 1) := by decide +kernel
theorem dX2_goesOn_14 : decode cX2_goesOn 14 = .ok (.getfield 30, 3) := by decide +kernel
theorem dX2_goesOn_17 : decode cX2_goesOn 17 = .ok (.invokevirtual 58, 3) := by decide +kernel
theorem dX2_goesOn_20 : decode cX2_goesOn 20 = .ok (.istore 5, 2) := by decide +kernel
theorem dX2_goesOn_22 : decode cX2_goesOn 22 = .ok (.iload_n 3, 1) := by decide +kernel
theorem dX2_goesOn_23 : decode cX2_goesOn 23 = .ok (.iconst 1, 1) := by decide +kernel
theorem dX2_goesOn_24 : decode cX2_goesOn 24 = .ok (.iadd, 1) := by decide +kernel
theorem dX2_goesOn_25 : decode cX2_goesOn 25 = .ok (.istore 6, 2) := by decide +kernel
theorem dX2_goesOn_27 : decode cX2_goesOn 27 = .ok (.iload 6, 2) := by decide +kernel
theorem dX2_goesOn_29 : decode cX2_goesOn 29 = .ok (.iload 5, 2) := by decide +kernel
theorem dX2_goesOn_31 : decode cX2_goesOn 31 = .ok (.if_icmp .gt 62, 3) := by decide +kernel
theorem dX2_goesOn_34 : decode cX2_goesOn 34 = .ok (.aload_n 0, 1) := by decide +kernel
theorem dX2_goesOn_35 : decode cX2_goesOn 35 = .ok (.getfield 19, 3) := by decide +kernel
theorem dX2_goesOn_38 : decode cX2_goesOn 38 = .ok (.iload 4, 2) := by decide +kernel
theorem dX2_goesOn_40 : decode cX2_goesOn 40 = .ok (.aaload, 1) := by decide +kernel
theorem dX2_goesOn_41 : decode cX2_goesOn 41 = .ok (.iload 6, 2) := by decide +kernel
theorem dX2_goesOn_43 : decode cX2_goesOn 43 = .ok (.iaload, 1) := by decide +kernel
theorem dX2_goesOn_44 : decode cX2_goesOn 44 = .ok (.sipush (-999), 3) := by decide +kernel
theorem dX2_goesOn_47 : decode cX2_goesOn 47 = .ok (.if_icmp .eq 40, 3) := by decide +kernel
theorem dX2_goesOn_50 : decode cX2_goesOn 50 = .ok (.aload_n 0, 1) := by decide +kernel
theorem dX2_goesOn_51 : decode cX2_goesOn 51 = .ok (.getfield 11, 3) := by decide +kernel
theorem dX2_goesOn_54 : decode cX2_goesOn 54 = .ok (.iload 4, 2) := by decide +kernel
theorem dX2_goesOn_56 : decode cX2_goesOn 56 = .ok (.aaload, 1) := by decide +kernel
theorem dX2_goesOn_57 : decode cX2_goesOn 57 = .ok (.iload 6, 2) := by decide +kernel
theorem dX2_goesOn_59 : decode cX2_goesOn 59 = .ok (.iload_n 2, 1) := by decide +kernel
theorem dX2_goesOn_60 : decode cX2_goesOn 60 = .ok (.isub, 1) := by decide +kernel
theorem dX2_goesOn_61 : decode cX2_goesOn 61 = .ok (.iaload, 1) := by decide +kernel
theorem dX2_goesOn_62 : decode cX2_goesOn 62 = .ok (.aload_n 0, 1) := by decide +kernel
theorem dX2_goesOn_63 : decode cX2_goesOn 63 = .ok (.getfield 19, 3) := by decide +kernel
theorem dX2_goesOn_66 : decode cX2_goesOn 66 = .ok (.iload 4, 2) := by decide +kernel
theorem dX2_goesOn_68 : decode cX2_goesOn 68 = .ok (.aaload, 1) := by decide +kernel
theorem dX2_goesOn_69 : decode cX2_goesOn 69 = .ok (.iload 6, 2) := by decide +kernel
theorem dX2_goesOn_71 : decode cX2_goesOn 71 = .ok (.iaload, 1) := by decide +kernel
theorem dX2_goesOn_72 : decode cX2_goesOn 72 = .ok (.iadd, 1) := by decide +kernel
theorem dX2_goesOn_73 : decode cX2_goesOn 73 = .ok (.aload_n 0, 1) := by decide +kernel
theorem dX2_goesOn_74 : decode cX2_goesOn 74 = .ok (.getfield 16, 3) := by decide +kernel
theorem dX2_goesOn_77 : decode cX2_goesOn 77 = .ok (.iload 4, 2) := by decide +kernel
theorem dX2_goesOn_79 : decode cX2_goesOn 79 = .ok (.aaload, 1) := by decide +kernel
theorem dX2_goesOn_80 : decode cX2_goesOn 80 = .ok (.iload_n 2, 1) := by decide +kernel
theorem dX2_goesOn_81 : decode cX2_goesOn 81 = .ok (.iaload, 1) := by decide +kernel
theorem dX2_goesOn_82 : decode cX2_goesOn 82 = .ok (.if_icmp .ne 5, 3) := by decide +kernel
theorem dX2_goesOn_85 : decode cX2_goesOn 85 = .ok (.iconst 1, 1) := by decide +kernel
theorem dX2_goesOn_86 : decode cX2_goesOn 86 = .ok (.ireturn, 1) := by decide +kernel
theorem dX2_goesOn_87 : decode cX2_goesOn 87 = .ok (.iinc 6 1, 3) := by decide +kernel
theorem dX2_goesOn_90 : decode cX2_goesOn 90 = .ok (.goto (-63), 3) := by decide +kernel
theorem dX2_goesOn_93 : decode cX2_goesOn 93 = .ok (.iconst 0, 1) := by decide +kernel
theorem dX2_goesOn_94 : decode cX2_goesOn 94 = .ok (.ireturn, 1) := by decide +kernel
theorem dX2_turnsTo_0 : decode cX2_turnsTo 0 = .ok (.aload_n 0, 1) := by decide +kernel
theorem dX2_turnsTo_1 : decode cX2_turnsTo 1 = .ok (.getfield 16, 3) := by decide +kernel
theorem dX2_turnsTo_4 : decode cX2_turnsTo 4 = .ok (.iload_n 2, 1) := by decide +kernel
theorem dX2_turnsTo_5 : decode cX2_turnsTo 5 = .ok (.aaload, 1) := by decide +kernel
theorem dX2_turnsTo_6 : decode cX2_turnsTo 6 = .ok (.iload_n 3, 1) := by decide +kernel
theorem dX2_turnsTo_7 : decode cX2_turnsTo 7 = .ok (.iaload, 1) := by decide +kernel
theorem dX2_turnsTo_8 : decode cX2_turnsTo 8 = .ok (.sipush (-999), 3) := by decide +kernel
theorem dX2_turnsTo_11 : decode cX2_turnsTo 11 = .ok (.if_icmp .eq 25, 3) := by decide +kernel
theorem dX2_turnsTo_14 : decode cX2_turnsTo 14 = .ok (.aload_n 0, 1) := by decide +kernel
theorem dX2_turnsTo_15 : decode cX2_turnsTo 15 = .ok (.getfield 16, 3) := by decide +kernel
theorem dX2_turnsTo_18 : decode cX2_turnsTo 18 = .ok (.iload_n 2, 1) := by decide +kernel
theorem dX2_turnsTo_19 : decode cX2_turnsTo 19 = .ok (.aaload, 1) := by decide +kernel
theorem dX2_turnsTo_20 : decode cX2_turnsTo 20 = .ok (.iload_n 3, 1) := by decide +kernel
theorem dX2_turnsTo_21 : decode cX2_turnsTo 21 = .ok (.iaload, 1) := by decide +kernel
theorem dX2_turnsTo_22 : decode cX2_turnsTo 22 = .ok (.aload_n 1, 1) := by decide +kernel
theorem dX2_turnsTo_23 : decode cX2_turnsTo 23 = .ok (.getfield 72, 3) := by decide +kernel
theorem dX2_turnsTo_26 : decode cX2_turnsTo 26 = .ok (.isub, 1) := by decide +kernel
theorem dX2_turnsTo_27 : decode cX2_turnsTo 27 = .ok (.iload 4, 2) := by decide +kernel
theorem dX2_turnsTo_29 : decode cX2_turnsTo 29 = .ok (.if_icmp .ne 7, 3) := by decide +kernel
theorem dX2_turnsTo_32 : decode cX2_turnsTo 32 = .ok (.iconst 1, 1) := by decide +kernel
theorem dX2_turnsTo_33 : decode cX2_turnsTo 33 = .ok (.goto 4, 3) := by decide +kernel
theorem dX2_turnsTo_36 : decode cX2_turnsTo 36 = .ok (.iconst 0, 1) := by decide +kernel
theorem dX2_turnsTo_37 : decode cX2_turnsTo 37 = .ok (.ireturn, 1) := by decide +kernel
