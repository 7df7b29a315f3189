set_option maxRecDepth 20000 in
theorem ggX3_init_X4_init : GoodIn wsX3_init wsX4_init := goodIn_r _ [16, 17, 2, 3, 4, 18, 19, 20, 21, 22, 23, 24, 25, 26, 27, 28, 29, 30, 31, 38, 39, 40, 41, 42, 43, 44, 45, 46, 47] (by decide +kernel) (by decide +kernel)
set_option maxRecDepth 20000 in
theorem gX3_init_X4_init : GoodIn wsX3_init (wsX4_init) := ggX3_init_X4_init
theorem dX3_init_0 : decode cX3_init 0 = .ok (.aload_n 0, 1) := by decide +kernel
theorem dX3_init_1 : decode cX3_init 1 = .ok (.invokespecial 3, 3) := by decide +kernel
theorem dX3_init_4 : decode cX3_init 4 = .ok (.aload_n 0, 1) := by decide +kernel
theorem dX3_init_5 : decode cX3_init 5 = .ok (.bipush 80, 2) := by decide +kernel
theorem dX3_init_7 : decode cX3_init 7 = .ok (.newarray .int, 2) := by decide +kernel
theorem dX3_init_9 : decode cX3_init 9 = .ok (.putfield 9, 3) := by decide +kernel
theorem dX3_init_12 : decode cX3_init 12 = .ok (.aload_n 0, 1) := by decide +kernel
theorem dX3_init_13 : decode cX3_init 13 = .ok (.iconst 0, 1) := by decide +kernel
theorem dX3_init_14 : decode cX3_init 14 = .ok (.putfield 15, 3) := by decide +kernel
theorem dX3_init_17 : decode cX3_init 17 = .ok (.aload_n 0, 1) := by decide +kernel
theorem dX3_init_18 : decode cX3_init 18 = .ok (.iconst 0, 1) := by decide +kernel
theorem dX3_init_19 : decode cX3_init 19 = .ok (.putfield 19, 3) := by decide +kernel
theorem dX3_init_22 : decode cX3_init 22 = .ok (.aload_n 0, 1) := by decide +kernel
theorem dX3_init_23 : decode cX3_init 23 = .ok (.iconst 0, 1) := by decide +kernel
theorem dX3_init_24 : decode cX3_init 24 = .ok (.putfield 22, 3) := by decide +kernel
theorem dX3_init_27 : decode cX3_init 27 = .ok (.aload_n 0, 1) := by decide +kernel
theorem dX3_init_28 : decode cX3_init 28 = .ok (.iconst 4, 1) := by decide +kernel
theorem dX3_init_29 : decode cX3_init 29 = .ok (.newarray .int, 2) := by decide +kernel
theorem dX3_init_31 : decode cX3_init 31 = .ok (.putfield 25, 3) := by decide +kernel
theorem dX3_init_34 : decode cX3_init 34 = .ok (.aload_n 0, 1) := by decide +kernel
theorem dX3_init_35 : decode cX3_init 35 = .ok (.new 28, 3) := by decide +kernel
theorem dX3_init_38 : decode cX3_init 38 = .ok (.dup, 1) := by decide +kernel
theorem dX3_init_39 : decode cX3_init 39 = .ok (.invokespecial 30, 3) := by decide +kernel
theorem dX3_init_42 : decode cX3_init 42 = .ok (.putfield 31, 3) := by decide +kernel
theorem dX3_init_45 : decode cX3_init 45 = .ok (.return_, 1) := by decide +kernel
theorem dX3_isFull_0 : decode cX3_isFull 0 = .ok (.aload_n 0, 1) := by decide +kernel
theorem dX3_isFull_1 : decode cX3_isFull 1 = .ok (.getfield 15, 3) := by decide +kernel
theorem dX3_isFull_4 : decode cX3_isFull 4 = .ok (.aload_n 0, 1) := by decide +kernel
theorem dX3_isFull_5 : decode cX3_isFull 5 = .ok (.getfield 9, 3) := by decide +kernel
theorem dX3_isFull_8 : decode cX3_isFull 8 = .ok (.arraylength, 1) := by decide +kernel
theorem dX3_isFull_9 : decode cX3_isFull 9 = .ok (.if_icmp .lt 7, 3) := by decide +kernel
theorem dX3_isFull_12 : decode cX3_isFull 12 = .ok (.iconst 1, 1) := by decide +kernel
theorem dX3_isFull_13 : decode cX3_isFull 13 = .ok (.goto 4, 3) := by decide +kernel
theorem dX3_isFull_16 : decode cX3_isFull 16 = .ok (.iconst 0, 1) := by decide +kernel
theorem dX3_isFull_17 : decode cX3_isFull 17 = .ok (.ireturn, 1) := by decide +kernel
set_option maxRecDepth 20000 in
theorem ggX3_append_X3_isFull : GoodIn wsX3_append wsX3_isFull := goodIn_r _ [7, 2, 1, 8, 9, 10, 11, 12, 13] (by decide +kernel) (by decide +kernel)
set_option maxRecDepth 20000 in
theorem gX3_append_X3_isFull : GoodIn wsX3_append (wsV RX3 35 RX3 yX3_isFull wsX3_isFull) := goodIn_app (goodIn_of _ (by decide +kernel)) ggX3_append_X3_isFull
theorem dX3_append_0 : decode cX3_append 0 = .ok (.aload_n 0, 1) := by decide +kernel
theorem dX3_append_1 : decode cX3_append 1 = .ok (.invokevirtual 35, 3) := by decide +kernel
theorem dX3_append_4 : decode cX3_append 4 = .ok (.ifCond .ne 23, 3) := by decide +kernel
theorem dX3_append_7 : decode cX3_append 7 = .ok (.aload_n 0, 1) := by decide +kernel
theorem dX3_append_8 : decode cX3_append 8 = .ok (.getfield 9, 3) := by decide +kernel
theorem dX3_append_11 : decode cX3_append 11 = .ok (.aload_n 0, 1) := by decide +kernel
theorem dX3_append_12 : decode cX3_append 12 = .ok (.getfield 15, 3) := by decide +kernel
theorem dX3_append_15 : decode cX3_append 15 = .ok (.iload_n 1, 1) := by decide +kernel
theorem dX3_append_16 : decode cX3_append 16 = .ok (.iastore, 1) := by decide +kernel
theorem dX3_append_17 : decode cX3_append 17 = .ok (.aload_n 0, 1) := by decide +kernel
theorem dX3_append_18 : decode cX3_append 18 = .ok (.dup, 1) := by decide +kernel
theorem dX3_append_19 : decode cX3_append 19 = .ok (.getfield 15, 3) := by decide +kernel
theorem dX3_append_22 : decode cX3_append 22 = .ok (.iconst 1, 1) := by decide +kernel
theorem dX3_append_23 : decode cX3_append 23 = .ok (.iadd, 1) := by decide +kernel
theorem dX3_append_24 : decode cX3_append 24 = .ok (.putfield 15, 3) := by decide +kernel
theorem dX3_append_27 : decode cX3_append 27 = .ok (.aload_n 0, 1) := by decide +kernel
theorem dX3_append_28 : decode cX3_append 28 = .ok (.getfield 15, 3) := by decide +kernel
theorem dX3_append_31 : decode cX3_append 31 = .ok (.ireturn, 1) := by decide +kernel
set_option maxRecDepth 20000 in
theorem ggX3_becomeLand_X3_isWellFormed : GoodIn wsX3_becomeLand wsX3_isWellFormed := goodIn_r _ [8, 1, 3, 9, 10, 11, 7, 12, 13, 14, 15, 16, 17, 18, 19, 20, 21, 22, 23, 24, 25, 26, 27, 28, 29, 30, 31, 32, 33, 34, 35, 36, 37, 38, 39, 40, 41, 42, 43, 44, 45, 46, 47, 48, 49, 50, 51, 52, 53, 54, 55, 56, 57, 58, 59, 60, 61, 62, 63, 64, 65, 66, 67, 68, 69, 70, 71, 72, 73, 74, 75, 76, 77, 78, 79, 80, 81, 82, 83, 84, 85, 86, 87, 88, 89, 90, 91, 92, 93, 94, 95, 96, 97, 98, 99, 100, 101, 102, 103, 104, 105, 106, 107, 108, 109, 110, 111, 112, 113, 114, 115, 116, 117, 118, 119, 120, 121, 122, 123, 124, 202, 203, 204, 205, 206, 207] (by decide +kernel) (by decide +kernel)
set_option maxRecDepth 20000 in
theorem gX3_becomeLand_X3_isWellFormed : GoodIn wsX3_becomeLand (wsV RX3 39 RX3 yX3_isWellFormed wsX3_isWellFormed) := goodIn_app (goodIn_of _ (by decide +kernel)) ggX3_becomeLand_X3_isWellFormed
set_option maxRecDepth 20000 in
theorem ggX3_becomeLand_X3_tryStatements : GoodIn wsX3_becomeLand wsX3_tryStatements := goodIn_r _ [128, 2, 1, 3, 129, 130, 131, 132, 133, 134, 135, 136, 137, 138, 139, 140, 141, 142, 143, 144, 145, 146, 147, 9, 10, 11, 7, 12, 13, 14, 15, 16, 17, 18, 19, 20, 21, 22, 23, 24, 25, 26, 27, 28, 29, 30, 31, 32, 33, 34, 35, 36, 37, 38, 39, 40, 41, 42, 43, 44, 45, 46, 47, 48, 49, 50, 51, 52, 53, 54, 55, 56, 57, 58, 59, 60, 61, 62, 63, 64, 65, 66, 67, 68, 69, 70, 71, 72, 73, 74, 75, 76, 77, 78, 79, 80, 81, 82, 83, 84, 85, 86, 87, 88, 89, 90, 91, 92, 93, 94, 95, 96, 97, 98, 99, 100, 101, 102, 103, 104, 105, 106, 107, 108, 109, 110, 111, 112, 113, 114, 115, 116, 117, 118, 119, 120, 121, 122, 123, 124, 148, 149, 150, 151, 152, 153, 154, 155, 156, 157, 158, 159, 160, 161, 162, 163, 164, 165, 166, 167, 168, 169, 170, 171, 172, 173, 174, 175, 176, 177, 178, 179, 180, 181, 182, 183, 184, 185, 186, 187, 188, 189, 190, 191, 192, 193, 194, 195, 196, 197, 198, 199, 200, 201, 202, 203, 204, 205, 206, 207, 208, 209, 210, 211, 212, 213, 214, 215, 216, 217] (by decide +kernel) (by decide +kernel)
set_option maxRecDepth 20000 in
theorem gX3_becomeLand_X3_tryStatements : GoodIn wsX3_becomeLand (wsV RX3 42 RX3 yX3_tryStatements wsX3_tryStatements) := goodIn_app (goodIn_of _ (by decide +kernel)) ggX3_becomeLand_X3_tryStatements
set_option maxRecDepth 20000 in
theorem ggX3_becomeLand_X4_copyFrom : GoodIn wsX3_becomeLand wsX4_copyFrom := goodIn_r _ [133, 134, 135, 136, 137, 138, 139, 140, 141, 142, 143, 144, 145, 146, 147, 208, 209, 210, 211, 212, 213, 214, 215, 216, 217] (by decide +kernel) (by decide +kernel)
set_option maxRecDepth 20000 in
theorem gX3_becomeLand_X4_copyFrom : GoodIn wsX3_becomeLand (wsV RX3 46 RX4 yX4_copyFrom wsX4_copyFrom) := goodIn_app (goodIn_of _ (by decide +kernel)) ggX3_becomeLand_X4_copyFrom
theorem dX3_becomeLand_0 : decode cX3_becomeLand 0 = .ok (.aload_n 0, 1) := by decide +kernel
theorem dX3_becomeLand_1 : decode cX3_becomeLand 1 = .ok (.invokevirtual 39, 3) := by decide +kernel
theorem dX3_becomeLand_4 : decode cX3_becomeLand 4 = .ok (.ifCond .eq 11, 3) := by decide +kernel
theorem dX3_becomeLand_7 : decode cX3_becomeLand 7 = .ok (.aload_n 0, 1) := by decide +kernel
theorem dX3_becomeLand_8 : decode cX3_becomeLand 8 = .ok (.aload_n 1, 1) := by decide +kernel
theorem dX3_becomeLand_9 : decode cX3_becomeLand 9 = .ok (.invokevirtual 42, 3) := by decide +kernel
theorem dX3_becomeLand_12 : decode cX3_becomeLand 12 = .ok (.goto 11, 3) := by decide +kernel
theorem dX3_becomeLand_15 : decode cX3_becomeLand 15 = .ok (.sipush (-1000), 3) := by decide +kernel
theorem dX3_becomeLand_18 : decode cX3_becomeLand 18 = .ok (.aload_n 0, 1) := by decide +kernel
theorem dX3_becomeLand_19 : decode cX3_becomeLand 19 = .ok (.getfield 19, 3) := by decide +kernel
theorem dX3_becomeLand_22 : decode cX3_becomeLand 22 = .ok (.isub, 1) := by decide +kernel
theorem dX3_becomeLand_23 : decode cX3_becomeLand 23 = .ok (.istore_n 2, 1) := by decide +kernel
theorem dX3_becomeLand_24 : decode cX3_becomeLand 24 = .ok (.iload_n 2, 1) := by decide +kernel
theorem dX3_becomeLand_25 : decode cX3_becomeLand 25 = .ok (.ifCond .lt 11, 3) := by decide +kernel
theorem dX3_becomeLand_28 : decode cX3_becomeLand 28 = .ok (.aload_n 1, 1) := by decide +kernel
theorem dX3_becomeLand_29 : decode cX3_becomeLand 29 = .ok (.aload_n 0, 1) := by decide +kernel
theorem dX3_becomeLand_30 : decode cX3_becomeLand 30 = .ok (.getfield 31, 3) := by decide +kernel
theorem dX3_becomeLand_33 : decode cX3_becomeLand 33 = .ok (.invokevirtual 46, 3) := by decide +kernel
theorem dX3_becomeLand_36 : decode cX3_becomeLand 36 = .ok (.aload_n 0, 1) := by decide +kernel
theorem dX3_becomeLand_37 : decode cX3_becomeLand 37 = .ok (.iconst 0, 1) := by decide +kernel
theorem dX3_becomeLand_38 : decode cX3_becomeLand 38 = .ok (.putfield 15, 3) := by decide +kernel
theorem dX3_becomeLand_41 : decode cX3_becomeLand 41 = .ok (.iload_n 2, 1) := by decide +kernel
theorem dX3_becomeLand_42 : decode cX3_becomeLand 42 = .ok (.ireturn, 1) := by decide +kernel
set_option maxRecDepth 20000 in
theorem ggX3_isWellFormed_X3_readStatement : GoodIn wsX3_isWellFormed wsX3_readStatement := goodIn_r _ [7, 8, 1, 9, 10, 11, 6, 12, 2, 13, 14, 15, 16, 17, 18, 19, 20, 21, 22, 23, 24, 25, 26, 27, 28, 29, 30, 31, 32, 33, 34, 35, 36, 37, 38, 39, 40, 41, 42, 43, 44, 45, 46, 47, 48, 49, 50, 51, 52, 53, 54, 55, 56, 57, 58, 59, 60, 61, 62, 63, 64, 65, 66, 67, 68, 69, 70, 71, 72, 73, 74, 75, 76, 77, 78, 79, 80, 81, 82, 83, 84, 85, 86, 87, 88, 89, 90, 91, 92, 93, 94, 95, 96, 97, 98, 99, 100, 101, 102, 103, 104, 105, 106, 107, 108, 109, 110, 111, 112, 113, 114, 115, 116, 117, 118, 119, 120, 121, 122, 123, 124, 125] (by decide +kernel) (by decide +kernel)
set_option maxRecDepth 20000 in
theorem gX3_isWellFormed_X3_readStatement : GoodIn wsX3_isWellFormed (wsV RX3 50 RX3 yX3_readStatement wsX3_readStatement) := goodIn_app (goodIn_of _ (by decide +kernel)) ggX3_isWellFormed_X3_readStatement
theorem dX3_isWellFormed_0 : decode cX3_isWellFormed 0 = .ok (.aload_n 0, 1) := by decide +kernel
theorem dX3_isWellFormed_1 : decode cX3_isWellFormed 1 = .ok (.iconst 0, 1) := by decide +kernel
theorem dX3_isWellFormed_2 : decode cX3_isWellFormed 2 = .ok (.putfield 19, 3) := by decide +kernel
theorem dX3_isWellFormed_5 : decode cX3_isWellFormed 5 = .ok (.aload_n 0, 1) := by decide +kernel
theorem dX3_isWellFormed_6 : decode cX3_isWellFormed 6 = .ok (.getfield 15, 3) := by decide +kernel
theorem dX3_isWellFormed_9 : decode cX3_isWellFormed 9 = .ok (.ifCond .le 7, 3) := by decide +kernel
theorem dX3_isWellFormed_12 : decode cX3_isWellFormed 12 = .ok (.iconst 1, 1) := by decide +kernel
theorem dX3_isWellFormed_13 : decode cX3_isWellFormed 13 = .ok (.goto 4, 3) := by decide +kernel
theorem dX3_isWellFormed_16 : decode cX3_isWellFormed 16 = .ok (.iconst 0, 1) := by decide +kernel
theorem dX3_isWellFormed_17 : decode cX3_isWellFormed 17 = .ok (.istore_n 1, 1) := by decide +kernel
theorem dX3_isWellFormed_18 : decode cX3_isWellFormed 18 = .ok (.iconst 0, 1) := by decide +kernel
theorem dX3_isWellFormed_19 : decode cX3_isWellFormed 19 = .ok (.istore_n 2, 1) := by decide +kernel
theorem dX3_isWellFormed_20 : decode cX3_isWellFormed 20 = .ok (.iload_n 2, 1) := by decide +kernel
theorem dX3_isWellFormed_21 : decode cX3_isWellFormed 21 = .ok (.bipush 80, 2) := by decide +kernel
theorem dX3_isWellFormed_23 : decode cX3_isWellFormed 23 = .ok (.if_icmp .ge 29, 3) := by decide +kernel
theorem dX3_isWellFormed_26 : decode cX3_isWellFormed 26 = .ok (.iload_n 1, 1) := by decide +kernel
theorem dX3_isWellFormed_27 : decode cX3_isWellFormed 27 = .ok (.ifCond .eq 25, 3) := by decide +kernel
theorem dX3_isWellFormed_30 : decode cX3_isWellFormed 30 = .ok (.aload_n 0, 1) := by decide +kernel
theorem dX3_isWellFormed_31 : decode cX3_isWellFormed 31 = .ok (.getfield 19, 3) := by decide +kernel
theorem dX3_isWellFormed_34 : decode cX3_isWellFormed 34 = .ok (.aload_n 0, 1) := by decide +kernel
theorem dX3_isWellFormed_35 : decode cX3_isWellFormed 35 = .ok (.getfield 15, 3) := by decide +kernel
theorem dX3_isWellFormed_38 : decode cX3_isWellFormed 38 = .ok (.if_icmp .ge 14, 3) := by decide +kernel
theorem dX3_isWellFormed_41 : decode cX3_isWellFormed 41 = .ok (.aload_n 0, 1) := by decide +kernel
theorem dX3_isWellFormed_42 : decode cX3_isWellFormed 42 = .ok (.invokevirtual 50, 3) := by decide +kernel
theorem dX3_isWellFormed_45 : decode cX3_isWellFormed 45 = .ok (.istore_n 1, 1) := by decide +kernel
theorem dX3_isWellFormed_46 : decode cX3_isWellFormed 46 = .ok (.iinc 2 1, 3) := by decide +kernel
theorem dX3_isWellFormed_49 : decode cX3_isWellFormed 49 = .ok (.goto (-29), 3) := by decide +kernel
theorem dX3_isWellFormed_52 : decode cX3_isWellFormed 52 = .ok (.iload_n 1, 1) := by decide +kernel
theorem dX3_isWellFormed_53 : decode cX3_isWellFormed 53 = .ok (.ireturn, 1) := by decide +kernel
set_option maxRecDepth 20000 in
theorem ggX3_tryStatements_X4_copyFrom : GoodIn wsX3_tryStatements wsX4_copyFrom := goodIn_r _ [8, 9, 10, 11, 12, 13, 14, 15, 16, 17, 18, 19, 20, 21, 22, 200, 201, 202, 203, 204, 205, 206, 207, 208, 209] (by decide +kernel) (by decide +kernel)
set_option maxRecDepth 20000 in
theorem gX3_tryStatements_X4_copyFrom : GoodIn wsX3_tryStatements (wsV RX3 46 RX4 yX4_copyFrom wsX4_copyFrom) := goodIn_app (goodIn_of _ (by decide +kernel)) ggX3_tryStatements_X4_copyFrom
set_option maxRecDepth 20000 in
theorem ggX3_tryStatements_X3_readStatement : GoodIn wsX3_tryStatements wsX3_readStatement := goodIn_r _ [27, 28, 2, 29, 30, 31, 26, 32, 3, 33, 34, 35, 36, 37, 38, 39, 40, 41, 42, 43, 44, 45, 46, 47, 48, 49, 50, 51, 52, 53, 54, 55, 56, 57, 58, 59, 60, 61, 62, 63, 64, 65, 66, 67, 68, 69, 70, 71, 72, 73, 74, 75, 76, 77, 78, 79, 80, 81, 82, 83, 84, 85, 86, 87, 88, 89, 90, 91, 92, 93, 94, 95, 96, 97, 98, 99, 100, 101, 102, 103, 104, 105, 106, 107, 108, 109, 110, 111, 112, 113, 114, 115, 116, 117, 118, 119, 120, 121, 122, 123, 124, 125, 126, 127, 128, 129, 130, 131, 132, 133, 134, 135, 136, 137, 138, 139, 194, 195, 196, 197, 198, 199] (by decide +kernel) (by decide +kernel)
set_option maxRecDepth 20000 in
theorem gX3_tryStatements_X3_readStatement : GoodIn wsX3_tryStatements (wsV RX3 50 RX3 yX3_readStatement wsX3_readStatement) := goodIn_app (goodIn_of _ (by decide +kernel)) ggX3_tryStatements_X3_readStatement
set_option maxRecDepth 20000 in
theorem ggX3_tryStatements_X3_tryStatement : GoodIn wsX3_tryStatements wsX3_tryStatement := goodIn_r _ [143, 28, 1, 38, 144, 145, 146, 147, 7, 148, 19, 9, 14, 15, 16, 149, 150, 151, 152, 20, 17, 18, 153, 154, 155, 156, 157, 158, 159, 26, 160, 161, 162, 163, 164, 165, 166, 167, 168, 169, 170, 171, 172, 173, 174, 175, 176, 177, 178, 179, 180, 181, 182, 183, 184, 185, 186, 187, 188, 189, 190, 191, 192, 193, 194, 195, 196, 197, 198, 199, 200, 201, 202, 203, 204, 205, 206, 207, 208, 209] (by decide +kernel) (by decide +kernel)
set_option maxRecDepth 20000 in
theorem gX3_tryStatements_X3_tryStatement : GoodIn wsX3_tryStatements (wsV RX3 53 RX3 yX3_tryStatement wsX3_tryStatement) := goodIn_app (goodIn_of _ (by decide +kernel)) ggX3_tryStatements_X3_tryStatement
theorem dX3_tryStatements_0 : decode cX3_tryStatements 0 = .ok (.aload_n 0, 1) := by decide +kernel
theorem dX3_tryStatements_1 : decode cX3_tryStatements 1 = .ok (.getfield 31, 3) := by decide +kernel
theorem dX3_tryStatements_4 : decode cX3_tryStatements 4 = .ok (.aload_n 1, 1) := by decide +kernel
theorem dX3_tryStatements_5 : decode cX3_tryStatements 5 = .ok (.invokevirtual 46, 3) := by decide +kernel
theorem dX3_tryStatements_8 : decode cX3_tryStatements 8 = .ok (.aload_n 0, 1) := by decide +kernel
theorem dX3_tryStatements_9 : decode cX3_tryStatements 9 = .ok (.iconst 0, 1) := by decide +kernel
theorem dX3_tryStatements_10 : decode cX3_tryStatements 10 = .ok (.putfield 19, 3) := by decide +kernel
theorem dX3_tryStatements_13 : decode cX3_tryStatements 13 = .ok (.iconst 0, 1) := by decide +kernel
theorem dX3_tryStatements_14 : decode cX3_tryStatements 14 = .ok (.istore_n 2, 1) := by decide +kernel
theorem dX3_tryStatements_15 : decode cX3_tryStatements 15 = .ok (.iconst 0, 1) := by decide +kernel
theorem dX3_tryStatements_16 : decode cX3_tryStatements 16 = .ok (.istore_n 3, 1) := by decide +kernel
theorem dX3_tryStatements_17 : decode cX3_tryStatements 17 = .ok (.iload_n 3, 1) := by decide +kernel
theorem dX3_tryStatements_18 : decode cX3_tryStatements 18 = .ok (.bipush 80, 2) := by decide +kernel
theorem dX3_tryStatements_20 : decode cX3_tryStatements 20 = .ok (.if_icmp .ge 50, 3) := by decide +kernel
theorem dX3_tryStatements_23 : decode cX3_tryStatements 23 = .ok (.aload_n 0, 1) := by decide +kernel
theorem dX3_tryStatements_24 : decode cX3_tryStatements 24 = .ok (.getfield 19, 3) := by decide +kernel
theorem dX3_tryStatements_27 : decode cX3_tryStatements 27 = .ok (.aload_n 0, 1) := by decide +kernel
theorem dX3_tryStatements_28 : decode cX3_tryStatements 28 = .ok (.getfield 15, 3) := by decide +kernel
theorem dX3_tryStatements_31 : decode cX3_tryStatements 31 = .ok (.if_icmp .ge 39, 3) := by decide +kernel
theorem dX3_tryStatements_34 : decode cX3_tryStatements 34 = .ok (.aload_n 0, 1) := by decide +kernel
theorem dX3_tryStatements_35 : decode cX3_tryStatements 35 = .ok (.getfield 19, 3) := by decide +kernel
theorem dX3_tryStatements_38 : decode cX3_tryStatements 38 = .ok (.istore 4, 2) := by decide +kernel
theorem dX3_tryStatements_40 : decode cX3_tryStatements 40 = .ok (.aload_n 0, 1) := by decide +kernel
theorem dX3_tryStatements_41 : decode cX3_tryStatements 41 = .ok (.invokevirtual 50, 3) := by decide +kernel
theorem dX3_tryStatements_44 : decode cX3_tryStatements 44 = .ok (.ifCond .eq 10, 3) := by decide +kernel
theorem dX3_tryStatements_47 : decode cX3_tryStatements 47 = .ok (.aload_n 0, 1) := by decide +kernel
theorem dX3_tryStatements_48 : decode cX3_tryStatements 48 = .ok (.invokevirtual 53, 3) := by decide +kernel
theorem dX3_tryStatements_51 : decode cX3_tryStatements 51 = .ok (.ifCond .ne 10, 3) := by decide +kernel
theorem dX3_tryStatements_54 : decode cX3_tryStatements 54 = .ok (.sipush (-2000), 3) := by decide +kernel
theorem dX3_tryStatements_57 : decode cX3_tryStatements 57 = .ok (.iload 4, 2) := by decide +kernel
theorem dX3_tryStatements_59 : decode cX3_tryStatements 59 = .ok (.isub, 1) := by decide +kernel
theorem dX3_tryStatements_60 : decode cX3_tryStatements 60 = .ok (.ireturn, 1) := by decide +kernel
theorem dX3_tryStatements_61 : decode cX3_tryStatements 61 = .ok (.iinc 2 1, 3) := by decide +kernel
theorem dX3_tryStatements_64 : decode cX3_tryStatements 64 = .ok (.iinc 3 1, 3) := by decide +kernel
theorem dX3_tryStatements_67 : decode cX3_tryStatements 67 = .ok (.goto (-50), 3) := by decide +kernel
theorem dX3_tryStatements_70 : decode cX3_tryStatements 70 = .ok (.iload_n 2, 1) := by decide +kernel
theorem dX3_tryStatements_71 : decode cX3_tryStatements 71 = .ok (.ireturn, 1) := by decide +kernel
set_option maxRecDepth 20000 in
theorem ggX3_readStatement_X3_letterHere : GoodIn wsX3_readStatement wsX3_letterHere := goodIn_r _ [7, 2, 8, 9, 116, 117, 118, 119, 120, 121] (by decide +kernel) (by decide +kernel)
set_option maxRecDepth 20000 in
theorem gX3_readStatement_X3_letterHere : GoodIn wsX3_readStatement (wsV RX3 56 RX3 yX3_letterHere wsX3_letterHere) := goodIn_app (goodIn_of _ (by decide +kernel)) ggX3_readStatement_X3_letterHere
set_option maxRecDepth 20000 in
theorem ggX3_readStatement_X3_readKind : GoodIn wsX3_readStatement wsX3_readKind := goodIn_r _ [13, 14, 2, 3, 4, 5, 6, 7, 8, 9, 15, 16, 17, 18, 19, 20, 21, 22, 23, 24, 25, 26, 27, 28, 29, 30, 31, 32, 33, 34, 35, 36, 37, 38, 39, 40, 41, 42, 43, 44, 45, 46, 47, 48, 49, 50, 51, 52, 53, 54, 55, 56, 57, 58, 59, 60, 61, 62, 63, 64, 65, 66, 67, 68, 69, 70, 71, 72, 73, 74, 75, 76, 77, 78, 79, 80, 81, 82, 83, 84, 85, 86, 87, 88, 89, 90, 91, 92, 93, 94, 95, 96, 97, 98, 99, 100, 101, 102, 103, 116, 117, 118, 119, 120, 121] (by decide +kernel) (by decide +kernel)
set_option maxRecDepth 20000 in
theorem gX3_readStatement_X3_readKind : GoodIn wsX3_readStatement (wsV RX3 60 RX3 yX3_readKind wsX3_readKind) := goodIn_app (goodIn_of _ (by decide +kernel)) ggX3_readStatement_X3_readKind
set_option maxRecDepth 20000 in
theorem ggX3_readStatement_X3_readDigit : GoodIn wsX3_readStatement wsX3_readDigit := goodIn_r _ [107, 14, 2, 3, 4, 5, 6, 7, 8, 9, 116, 117, 118, 119, 120, 121] (by decide +kernel) (by decide +kernel)
set_option maxRecDepth 20000 in
theorem gX3_readStatement_X3_readDigit : GoodIn wsX3_readStatement (wsV RX3 63 RX3 yX3_readDigit wsX3_readDigit) := goodIn_app (goodIn_of _ (by decide +kernel)) ggX3_readStatement_X3_readDigit
set_option maxRecDepth 20000 in
theorem ggX3_readStatement_X3_readSign : GoodIn wsX3_readStatement wsX3_readSign := goodIn_r _ [111, 2, 3, 4, 5, 6, 7, 8, 9, 116, 117, 118, 119, 120, 121] (by decide +kernel) (by decide +kernel)
set_option maxRecDepth 20000 in
theorem gX3_readStatement_X3_readSign : GoodIn wsX3_readStatement (wsV RX3 67 RX3 yX3_readSign wsX3_readSign) := goodIn_app (goodIn_of _ (by decide +kernel)) ggX3_readStatement_X3_readSign
set_option maxRecDepth 20000 in
theorem ggX3_readStatement_X3_readNumber : GoodIn wsX3_readStatement wsX3_readNumber := goodIn_r _ [115, 14, 104, 105, 106, 6, 107, 2, 3, 4, 5, 7, 8, 9, 116, 117, 118, 119, 120, 121] (by decide +kernel) (by decide +kernel)
set_option maxRecDepth 20000 in
theorem gX3_readStatement_X3_readNumber : GoodIn wsX3_readStatement (wsV RX3 70 RX3 yX3_readNumber wsX3_readNumber) := goodIn_app (goodIn_of _ (by decide +kernel)) ggX3_readStatement_X3_readNumber
theorem dX3_readStatement_0 : decode cX3_readStatement 0 = .ok (.aload_n 0, 1) := by decide +kernel
theorem dX3_readStatement_1 : decode cX3_readStatement 1 = .ok (.aload_n 0, 1) := by decide +kernel
theorem dX3_readStatement_2 : decode cX3_readStatement 2 = .ok (.invokevirtual 56, 3) := by decide +kernel
theorem dX3_readStatement_5 : decode cX3_readStatement 5 = .ok (.putfield 22, 3) := by decide +kernel
theorem dX3_readStatement_8 : decode cX3_readStatement 8 = .ok (.aload_n 0, 1) := by decide +kernel
theorem dX3_readStatement_9 : decode cX3_readStatement 9 = .ok (.getfield 22, 3) := by decide +kernel
theorem dX3_readStatement_12 : decode cX3_readStatement 12 = .ok (.lookupswitch 232 #[(98, 149), (99, 199), (100, 149), (108, 199), (116, 60), (121, 116)], 60) := by decide +kernel
theorem dX3_readStatement_72 : decode cX3_readStatement 72 = .ok (.aload_n 0, 1) := by decide +kernel
theorem dX3_readStatement_73 : decode cX3_readStatement 73 = .ok (.dup, 1) := by decide +kernel
theorem dX3_readStatement_74 : decode cX3_readStatement 74 = .ok (.getfield 19, 3) := by decide +kernel
theorem dX3_readStatement_77 : decode cX3_readStatement 77 = .ok (.iconst 1, 1) := by decide +kernel
theorem dX3_readStatement_78 : decode cX3_readStatement 78 = .ok (.iadd, 1) := by decide +kernel
theorem dX3_readStatement_79 : decode cX3_readStatement 79 = .ok (.putfield 19, 3) := by decide +kernel
theorem dX3_readStatement_82 : decode cX3_readStatement 82 = .ok (.aload_n 0, 1) := by decide +kernel
theorem dX3_readStatement_83 : decode cX3_readStatement 83 = .ok (.invokevirtual 60, 3) := by decide +kernel
theorem dX3_readStatement_86 : decode cX3_readStatement 86 = .ok (.ifCond .eq 40, 3) := by decide +kernel
theorem dX3_readStatement_89 : decode cX3_readStatement 89 = .ok (.aload_n 0, 1) := by decide +kernel
theorem dX3_readStatement_90 : decode cX3_readStatement 90 = .ok (.iconst 1, 1) := by decide +kernel
theorem dX3_readStatement_91 : decode cX3_readStatement 91 = .ok (.invokevirtual 63, 3) := by decide +kernel
theorem dX3_readStatement_94 : decode cX3_readStatement 94 = .ok (.ifCond .eq 32, 3) := by decide +kernel
theorem dX3_readStatement_97 : decode cX3_readStatement 97 = .ok (.aload_n 0, 1) := by decide +kernel
theorem dX3_readStatement_98 : decode cX3_readStatement 98 = .ok (.iconst 2, 1) := by decide +kernel
theorem dX3_readStatement_99 : decode cX3_readStatement 99 = .ok (.invokevirtual 63, 3) := by decide +kernel
theorem dX3_readStatement_102 : decode cX3_readStatement 102 = .ok (.ifCond .eq 24, 3) := by decide +kernel
theorem dX3_readStatement_105 : decode cX3_readStatement 105 = .ok (.aload_n 0, 1) := by decide +kernel
theorem dX3_readStatement_106 : decode cX3_readStatement 106 = .ok (.iconst 3, 1) := by decide +kernel
theorem dX3_readStatement_107 : decode cX3_readStatement 107 = .ok (.invokevirtual 63, 3) := by decide +kernel
theorem dX3_readStatement_110 : decode cX3_readStatement 110 = .ok (.ifCond .eq 16, 3) := by decide +kernel
theorem dX3_readStatement_113 : decode cX3_readStatement 113 = .ok (.aload_n 0, 1) := by decide +kernel
theorem dX3_readStatement_114 : decode cX3_readStatement 114 = .ok (.bipush 59, 2) := by decide +kernel
theorem dX3_readStatement_116 : decode cX3_readStatement 116 = .ok (.invokevirtual 67, 3) := by decide +kernel
theorem dX3_readStatement_119 : decode cX3_readStatement 119 = .ok (.ifCond .eq 7, 3) := by decide +kernel
theorem dX3_readStatement_122 : decode cX3_readStatement 122 = .ok (.iconst 1, 1) := by decide +kernel
theorem dX3_readStatement_123 : decode cX3_readStatement 123 = .ok (.goto 4, 3) := by decide +kernel
theorem dX3_readStatement_126 : decode cX3_readStatement 126 = .ok (.iconst 0, 1) := by decide +kernel
theorem dX3_readStatement_127 : decode cX3_readStatement 127 = .ok (.ireturn, 1) := by decide +kernel
theorem dX3_readStatement_128 : decode cX3_readStatement 128 = .ok (.aload_n 0, 1) := by decide +kernel
theorem dX3_readStatement_129 : decode cX3_readStatement 129 = .ok (.dup, 1) := by decide +kernel
theorem dX3_readStatement_130 : decode cX3_readStatement 130 = .ok (.getfield 19, 3) := by decide +kernel
theorem dX3_readStatement_133 : decode cX3_readStatement 133 = .ok (.iconst 1, 1) := by decide +kernel
theorem dX3_readStatement_134 : decode cX3_readStatement 134 = .ok (.iadd, 1) := by decide +kernel
theorem dX3_readStatement_135 : decode cX3_readStatement 135 = .ok (.putfield 19, 3) := by decide +kernel
theorem dX3_readStatement_138 : decode cX3_readStatement 138 = .ok (.aload_n 0, 1) := by decide +kernel
theorem dX3_readStatement_139 : decode cX3_readStatement 139 = .ok (.iconst 0, 1) := by decide +kernel
theorem dX3_readStatement_140 : decode cX3_readStatement 140 = .ok (.invokevirtual 70, 3) := by decide +kernel
theorem dX3_readStatement_143 : decode cX3_readStatement 143 = .ok (.ifCond .eq 16, 3) := by decide +kernel
theorem dX3_readStatement_146 : decode cX3_readStatement 146 = .ok (.aload_n 0, 1) := by decide +kernel
theorem dX3_readStatement_147 : decode cX3_readStatement 147 = .ok (.bipush 59, 2) := by decide +kernel
theorem dX3_readStatement_149 : decode cX3_readStatement 149 = .ok (.invokevirtual 67, 3) := by decide +kernel
theorem dX3_readStatement_152 : decode cX3_readStatement 152 = .ok (.ifCond .eq 7, 3) := by decide +kernel
theorem dX3_readStatement_155 : decode cX3_readStatement 155 = .ok (.iconst 1, 1) := by decide +kernel
theorem dX3_readStatement_156 : decode cX3_readStatement 156 = .ok (.goto 4, 3) := by decide +kernel
theorem dX3_readStatement_159 : decode cX3_readStatement 159 = .ok (.iconst 0, 1) := by decide +kernel
theorem dX3_readStatement_160 : decode cX3_readStatement 160 = .ok (.ireturn, 1) := by decide +kernel
theorem dX3_readStatement_161 : decode cX3_readStatement 161 = .ok (.aload_n 0, 1) := by decide +kernel
theorem dX3_readStatement_162 : decode cX3_readStatement 162 = .ok (.dup, 1) := by decide +kernel
theorem dX3_readStatement_163 : decode cX3_readStatement 163 = .ok (.getfield 19, 3) := by decide +kernel
theorem dX3_readStatement_166 : decode cX3_readStatement 166 = .ok (.iconst 1, 1) := by decide +kernel
theorem dX3_readStatement_167 : decode cX3_readStatement 167 = .ok (.iadd, 1) := by decide +kernel
theorem dX3_readStatement_168 : decode cX3_readStatement 168 = .ok (.putfield 19, 3) := by decide +kernel
theorem dX3_readStatement_171 : decode cX3_readStatement 171 = .ok (.aload_n 0, 1) := by decide +kernel
theorem dX3_readStatement_172 : decode cX3_readStatement 172 = .ok (.iconst 0, 1) := by decide +kernel
theorem dX3_readStatement_173 : decode cX3_readStatement 173 = .ok (.invokevirtual 70, 3) := by decide +kernel
theorem dX3_readStatement_176 : decode cX3_readStatement 176 = .ok (.ifCond .eq 33, 3) := by decide +kernel
theorem dX3_readStatement_179 : decode cX3_readStatement 179 = .ok (.aload_n 0, 1) := by decide +kernel
theorem dX3_readStatement_180 : decode cX3_readStatement 180 = .ok (.bipush 44, 2) := by decide +kernel
theorem dX3_readStatement_182 : decode cX3_readStatement 182 = .ok (.invokevirtual 67, 3) := by decide +kernel
theorem dX3_readStatement_185 : decode cX3_readStatement 185 = .ok (.ifCond .eq 24, 3) := by decide +kernel
theorem dX3_readStatement_188 : decode cX3_readStatement 188 = .ok (.aload_n 0, 1) := by decide +kernel
theorem dX3_readStatement_189 : decode cX3_readStatement 189 = .ok (.iconst 1, 1) := by decide +kernel
theorem dX3_readStatement_190 : decode cX3_readStatement 190 = .ok (.invokevirtual 63, 3) := by decide +kernel
theorem dX3_readStatement_193 : decode cX3_readStatement 193 = .ok (.ifCond .eq 16, 3) := by decide +kernel
theorem dX3_readStatement_196 : decode cX3_readStatement 196 = .ok (.aload_n 0, 1) := by decide +kernel
theorem dX3_readStatement_197 : decode cX3_readStatement 197 = .ok (.bipush 59, 2) := by decide +kernel
theorem dX3_readStatement_199 : decode cX3_readStatement 199 = .ok (.invokevirtual 67, 3) := by decide +kernel
theorem dX3_readStatement_202 : decode cX3_readStatement 202 = .ok (.ifCond .eq 7, 3) := by decide +kernel
theorem dX3_readStatement_205 : decode cX3_readStatement 205 = .ok (.iconst 1, 1) := by decide +kernel
theorem dX3_readStatement_206 : decode cX3_readStatement 206 = .ok (.goto 4, 3) := by decide +kernel
theorem dX3_readStatement_209 : decode cX3_readStatement 209 = .ok (.iconst 0, 1) := by decide +kernel
theorem dX3_readStatement_210 : decode cX3_readStatement 210 = .ok (.ireturn, 1) := by decide +kernel
theorem dX3_readStatement_211 : decode cX3_readStatement 211 = .ok (.aload_n 0, 1) := by decide +kernel
theorem dX3_readStatement_212 : decode cX3_readStatement 212 = .ok (.dup, 1) := by decide +kernel
theorem dX3_readStatement_213 : decode cX3_readStatement 213 = .ok (.getfield 19, 3) := by decide +kernel
theorem dX3_readStatement_216 : decode cX3_readStatement 216 = .ok (.iconst 1, 1) := by decide +kernel
theorem dX3_readStatement_217 : decode cX3_readStatement 217 = .ok (.iadd, 1) := by decide +kernel
theorem dX3_readStatement_218 : decode cX3_readStatement 218 = .ok (.putfield 19, 3) := by decide +kernel
theorem dX3_readStatement_221 : decode cX3_readStatement 221 = .ok (.aload_n 0, 1) := by decide +kernel
theorem dX3_readStatement_222 : decode cX3_readStatement 222 = .ok (.iconst 0, 1) := by decide +kernel
theorem dX3_readStatement_223 : decode cX3_readStatement 223 = .ok (.invokevirtual 63, 3) := by decide +kernel
theorem dX3_readStatement_226 : decode cX3_readStatement 226 = .ok (.ifCond .eq 16, 3) := by decide +kernel
theorem dX3_readStatement_229 : decode cX3_readStatement 229 = .ok (.aload_n 0, 1) := by decide +kernel
theorem dX3_readStatement_230 : decode cX3_readStatement 230 = .ok (.bipush 59, 2) := by decide +kernel
theorem dX3_readStatement_232 : decode cX3_readStatement 232 = .ok (.invokevirtual 67, 3) := by decide +kernel
theorem dX3_readStatement_235 : decode cX3_readStatement 235 = .ok (.ifCond .eq 7, 3) := by decide +kernel
theorem dX3_readStatement_238 : decode cX3_readStatement 238 = .ok (.iconst 1, 1) := by decide +kernel
theorem dX3_readStatement_239 : decode cX3_readStatement 239 = .ok (.goto 4, 3) := by decide +kernel
theorem dX3_readStatement_242 : decode cX3_readStatement 242 = .ok (.iconst 0, 1) := by decide +kernel
theorem dX3_readStatement_243 : decode cX3_readStatement 243 = .ok (.ireturn, 1) := by decide +kernel
theorem dX3_readStatement_244 : decode cX3_readStatement 244 = .ok (.iconst 0, 1) := by decide +kernel
theorem dX3_readStatement_245 : decode cX3_readStatement 245 = .ok (.ireturn, 1) := by decide +kernel
set_option maxRecDepth 20000 in
theorem ggX3_tryStatement_X4_addThing : GoodIn wsX3_tryStatement wsX4_addThing := goodIn_r _ [9, 10, 11, 12, 13, 14, 70, 71, 72, 73, 74, 75, 76, 77, 78, 79] (by decide +kernel) (by decide +kernel)
set_option maxRecDepth 20000 in
theorem gX3_tryStatement_X4_addThing : GoodIn wsX3_tryStatement (wsV RX3 73 RX4 yX4_addThing wsX4_addThing) := goodIn_app (goodIn_of _ (by decide +kernel)) ggX3_tryStatement_X4_addThing
set_option maxRecDepth 20000 in
theorem ggX3_tryStatement_X4_beginYear : GoodIn wsX3_tryStatement wsX4_beginYear := goodIn_r _ [18, 19, 20, 21, 22, 23, 24, 25, 70, 71, 72, 73, 74, 75, 76, 77, 78, 79] (by decide +kernel) (by decide +kernel)
set_option maxRecDepth 20000 in
theorem gX3_tryStatement_X4_beginYear : GoodIn wsX3_tryStatement (wsV RX3 77 RX4 yX4_beginYear wsX4_beginYear) := goodIn_app (goodIn_of _ (by decide +kernel)) ggX3_tryStatement_X4_beginYear
set_option maxRecDepth 20000 in
theorem ggX3_tryStatement_X3_tryDone : GoodIn wsX3_tryStatement wsX3_tryDone := goodIn_r _ [30, 2, 31, 32, 33, 34, 8, 35, 19, 36, 37, 38, 39, 10, 40, 41, 42, 43, 21, 64, 65, 66, 67, 68, 69, 70, 71, 72, 73, 74, 75, 76, 77, 78, 79] (by decide +kernel) (by decide +kernel)
set_option maxRecDepth 20000 in
theorem gX3_tryStatement_X3_tryDone : GoodIn wsX3_tryStatement (wsV RX3 80 RX3 yX3_tryDone wsX3_tryDone) := goodIn_app (goodIn_of _ (by decide +kernel)) ggX3_tryStatement_X3_tryDone
set_option maxRecDepth 20000 in
theorem ggX3_tryStatement_X3_tryBound : GoodIn wsX3_tryStatement wsX3_tryBound := goodIn_r _ [47, 2, 32, 33, 34, 8, 35, 19, 48, 49, 50, 51, 21, 36, 37, 38, 39, 10, 52, 53, 54, 55, 20, 64, 65, 66, 67, 68, 69, 70, 71, 72, 73, 74, 75, 76, 77, 78, 79] (by decide +kernel) (by decide +kernel)
set_option maxRecDepth 20000 in
theorem gX3_tryStatement_X3_tryBound : GoodIn wsX3_tryStatement (wsV RX3 84 RX3 yX3_tryBound wsX3_tryBound) := goodIn_app (goodIn_of _ (by decide +kernel)) ggX3_tryStatement_X3_tryBound
set_option maxRecDepth 20000 in
theorem ggX3_tryStatement_X3_tryLaw : GoodIn wsX3_tryStatement wsX3_tryLaw := goodIn_r _ [59, 2, 60, 61, 62, 63, 64, 65, 66, 67, 68, 69, 70, 71, 72, 73, 74, 75, 76, 77, 78, 79] (by decide +kernel) (by decide +kernel)
set_option maxRecDepth 20000 in
theorem gX3_tryStatement_X3_tryLaw : GoodIn wsX3_tryStatement (wsV RX3 90 RX3 yX3_tryLaw wsX3_tryLaw) := goodIn_app (goodIn_of _ (by decide +kernel)) ggX3_tryStatement_X3_tryLaw
theorem dX3_tryStatement_0 : decode cX3_tryStatement 0 = .ok (.aload_n 0, 1) := by decide +kernel
theorem dX3_tryStatement_1 : decode cX3_tryStatement 1 = .ok (.getfield 22, 3) := by decide +kernel
theorem dX3_tryStatement_4 : decode cX3_tryStatement 4 = .ok (.lookupswitch 147 #[(98, 115), (99, 132), (100, 98), (116, 52), (121, 84)], 52) := by decide +kernel
theorem dX3_tryStatement_56 : decode cX3_tryStatement 56 = .ok (.aload_n 0, 1) := by decide +kernel
theorem dX3_tryStatement_57 : decode cX3_tryStatement 57 = .ok (.getfield 31, 3) := by decide +kernel
theorem dX3_tryStatement_60 : decode cX3_tryStatement 60 = .ok (.aload_n 0, 1) := by decide +kernel
theorem dX3_tryStatement_61 : decode cX3_tryStatement 61 = .ok (.getfield 25, 3) := by decide +kernel
theorem dX3_tryStatement_64 : decode cX3_tryStatement 64 = .ok (.iconst 0, 1) := by decide +kernel
theorem dX3_tryStatement_65 : decode cX3_tryStatement 65 = .ok (.iaload, 1) := by decide +kernel
theorem dX3_tryStatement_66 : decode cX3_tryStatement 66 = .ok (.aload_n 0, 1) := by decide +kernel
theorem dX3_tryStatement_67 : decode cX3_tryStatement 67 = .ok (.getfield 25, 3) := by decide +kernel
theorem dX3_tryStatement_70 : decode cX3_tryStatement 70 = .ok (.iconst 1, 1) := by decide +kernel
theorem dX3_tryStatement_71 : decode cX3_tryStatement 71 = .ok (.iaload, 1) := by decide +kernel
theorem dX3_tryStatement_72 : decode cX3_tryStatement 72 = .ok (.aload_n 0, 1) := by decide +kernel
theorem dX3_tryStatement_73 : decode cX3_tryStatement 73 = .ok (.getfield 25, 3) := by decide +kernel
theorem dX3_tryStatement_76 : decode cX3_tryStatement 76 = .ok (.iconst 2, 1) := by decide +kernel
theorem dX3_tryStatement_77 : decode cX3_tryStatement 77 = .ok (.iaload, 1) := by decide +kernel
theorem dX3_tryStatement_78 : decode cX3_tryStatement 78 = .ok (.aload_n 0, 1) := by decide +kernel
theorem dX3_tryStatement_79 : decode cX3_tryStatement 79 = .ok (.getfield 25, 3) := by decide +kernel
theorem dX3_tryStatement_82 : decode cX3_tryStatement 82 = .ok (.iconst 3, 1) := by decide +kernel
theorem dX3_tryStatement_83 : decode cX3_tryStatement 83 = .ok (.iaload, 1) := by decide +kernel
theorem dX3_tryStatement_84 : decode cX3_tryStatement 84 = .ok (.invokevirtual 73, 3) := by decide +kernel
theorem dX3_tryStatement_87 : decode cX3_tryStatement 87 = .ok (.ireturn, 1) := by decide +kernel
theorem dX3_tryStatement_88 : decode cX3_tryStatement 88 = .ok (.aload_n 0, 1) := by decide +kernel
theorem dX3_tryStatement_89 : decode cX3_tryStatement 89 = .ok (.getfield 31, 3) := by decide +kernel
theorem dX3_tryStatement_92 : decode cX3_tryStatement 92 = .ok (.aload_n 0, 1) := by decide +kernel
theorem dX3_tryStatement_93 : decode cX3_tryStatement 93 = .ok (.getfield 25, 3) := by decide +kernel
theorem dX3_tryStatement_96 : decode cX3_tryStatement 96 = .ok (.iconst 0, 1) := by decide +kernel
theorem dX3_tryStatement_97 : decode cX3_tryStatement 97 = .ok (.iaload, 1) := by decide +kernel
theorem dX3_tryStatement_98 : decode cX3_tryStatement 98 = .ok (.invokevirtual 77, 3) := by decide +kernel
theorem dX3_tryStatement_101 : decode cX3_tryStatement 101 = .ok (.ireturn, 1) := by decide +kernel
theorem dX3_tryStatement_102 : decode cX3_tryStatement 102 = .ok (.aload_n 0, 1) := by decide +kernel
theorem dX3_tryStatement_103 : decode cX3_tryStatement 103 = .ok (.aload_n 0, 1) := by decide +kernel
theorem dX3_tryStatement_104 : decode cX3_tryStatement 104 = .ok (.getfield 25, 3) := by decide +kernel
theorem dX3_tryStatement_107 : decode cX3_tryStatement 107 = .ok (.iconst 0, 1) := by decide +kernel
theorem dX3_tryStatement_108 : decode cX3_tryStatement 108 = .ok (.iaload, 1) := by decide +kernel
theorem dX3_tryStatement_109 : decode cX3_tryStatement 109 = .ok (.aload_n 0, 1) := by decide +kernel
theorem dX3_tryStatement_110 : decode cX3_tryStatement 110 = .ok (.getfield 25, 3) := by decide +kernel
theorem dX3_tryStatement_113 : decode cX3_tryStatement 113 = .ok (.iconst 1, 1) := by decide +kernel
theorem dX3_tryStatement_114 : decode cX3_tryStatement 114 = .ok (.iaload, 1) := by decide +kernel
theorem dX3_tryStatement_115 : decode cX3_tryStatement 115 = .ok (.invokevirtual 80, 3) := by decide +kernel
theorem dX3_tryStatement_118 : decode cX3_tryStatement 118 = .ok (.ireturn, 1) := by decide +kernel
theorem dX3_tryStatement_119 : decode cX3_tryStatement 119 = .ok (.aload_n 0, 1) := by decide +kernel
theorem dX3_tryStatement_120 : decode cX3_tryStatement 120 = .ok (.aload_n 0, 1) := by decide +kernel
theorem dX3_tryStatement_121 : decode cX3_tryStatement 121 = .ok (.getfield 25, 3) := by decide +kernel
theorem dX3_tryStatement_124 : decode cX3_tryStatement 124 = .ok (.iconst 0, 1) := by decide +kernel
theorem dX3_tryStatement_125 : decode cX3_tryStatement 125 = .ok (.iaload, 1) := by decide +kernel
theorem dX3_tryStatement_126 : decode cX3_tryStatement 126 = .ok (.aload_n 0, 1) := by decide +kernel
theorem dX3_tryStatement_127 : decode cX3_tryStatement 127 = .ok (.getfield 25, 3) := by decide +kernel
theorem dX3_tryStatement_130 : decode cX3_tryStatement 130 = .ok (.iconst 1, 1) := by decide +kernel
theorem dX3_tryStatement_131 : decode cX3_tryStatement 131 = .ok (.iaload, 1) := by decide +kernel
theorem dX3_tryStatement_132 : decode cX3_tryStatement 132 = .ok (.invokevirtual 84, 3) := by decide +kernel
theorem dX3_tryStatement_135 : decode cX3_tryStatement 135 = .ok (.ireturn, 1) := by decide +kernel
theorem dX3_tryStatement_136 : decode cX3_tryStatement 136 = .ok (.aload_n 0, 1) := by decide +kernel
theorem dX3_tryStatement_137 : decode cX3_tryStatement 137 = .ok (.getfield 31, 3) := by decide +kernel
theorem dX3_tryStatement_140 : decode cX3_tryStatement 140 = .ok (.aload_n 0, 1) := by decide +kernel
theorem dX3_tryStatement_141 : decode cX3_tryStatement 141 = .ok (.getfield 25, 3) := by decide +kernel
theorem dX3_tryStatement_144 : decode cX3_tryStatement 144 = .ok (.iconst 0, 1) := by decide +kernel
theorem dX3_tryStatement_145 : decode cX3_tryStatement 145 = .ok (.iaload, 1) := by decide +kernel
theorem dX3_tryStatement_146 : decode cX3_tryStatement 146 = .ok (.putfield 87, 3) := by decide +kernel
theorem dX3_tryStatement_149 : decode cX3_tryStatement 149 = .ok (.iconst 1, 1) := by decide +kernel
theorem dX3_tryStatement_150 : decode cX3_tryStatement 150 = .ok (.ireturn, 1) := by decide +kernel
theorem dX3_tryStatement_151 : decode cX3_tryStatement 151 = .ok (.aload_n 0, 1) := by decide +kernel
theorem dX3_tryStatement_152 : decode cX3_tryStatement 152 = .ok (.aload_n 0, 1) := by decide +kernel
theorem dX3_tryStatement_153 : decode cX3_tryStatement 153 = .ok (.getfield 25, 3) := by decide +kernel
theorem dX3_tryStatement_156 : decode cX3_tryStatement 156 = .ok (.iconst 0, 1) := by decide +kernel
theorem dX3_tryStatement_157 : decode cX3_tryStatement 157 = .ok (.iaload, 1) := by decide +kernel
theorem dX3_tryStatement_158 : decode cX3_tryStatement 158 = .ok (.invokevirtual 90, 3) := by decide +kernel
theorem dX3_tryStatement_161 : decode cX3_tryStatement 161 = .ok (.ireturn, 1) := by decide +kernel
set_option maxRecDepth 20000 in
theorem ggX3_tryDone_X4_hasDay : GoodIn wsX3_tryDone wsX4_hasDay := goodIn_r _ [7, 8, 25, 26, 27, 28, 29, 30, 31, 32, 33, 34] (by decide +kernel) (by decide +kernel)
set_option maxRecDepth 20000 in
theorem gX3_tryDone_X4_hasDay : GoodIn wsX3_tryDone (wsV RX3 93 RX4 yX4_hasDay wsX4_hasDay) := goodIn_app (goodIn_of _ (by decide +kernel)) ggX3_tryDone_X4_hasDay
set_option maxRecDepth 20000 in
theorem ggX3_tryDone_X4_hasThing : GoodIn wsX3_tryDone wsX4_hasThing := goodIn_r _ [12, 13, 25, 26, 27, 28, 29, 30, 31, 32, 33, 34] (by decide +kernel) (by decide +kernel)
set_option maxRecDepth 20000 in
theorem gX3_tryDone_X4_hasThing : GoodIn wsX3_tryDone (wsV RX3 96 RX4 yX4_hasThing wsX4_hasThing) := goodIn_app (goodIn_of _ (by decide +kernel)) ggX3_tryDone_X4_hasThing
set_option maxRecDepth 20000 in
theorem ggX3_tryDone_X4_isBoundElse : GoodIn wsX3_tryDone wsX4_isBoundElse := goodIn_r _ [17, 18, 25, 26, 27, 28, 29, 30, 31, 32, 33, 34] (by decide +kernel) (by decide +kernel)
set_option maxRecDepth 20000 in
theorem gX3_tryDone_X4_isBoundElse : GoodIn wsX3_tryDone (wsV RX3 99 RX4 yX4_isBoundElse wsX4_isBoundElse) := goodIn_app (goodIn_of _ (by decide +kernel)) ggX3_tryDone_X4_isBoundElse
theorem dX3_tryDone_0 : decode cX3_tryDone 0 = .ok (.aload_n 0, 1) := by decide +kernel
theorem dX3_tryDone_1 : decode cX3_tryDone 1 = .ok (.getfield 31, 3) := by decide +kernel
theorem dX3_tryDone_4 : decode cX3_tryDone 4 = .ok (.iload_n 1, 1) := by decide +kernel
theorem dX3_tryDone_5 : decode cX3_tryDone 5 = .ok (.invokevirtual 93, 3) := by decide +kernel
theorem dX3_tryDone_8 : decode cX3_tryDone 8 = .ok (.ifCond .eq 26, 3) := by decide +kernel
theorem dX3_tryDone_11 : decode cX3_tryDone 11 = .ok (.aload_n 0, 1) := by decide +kernel
theorem dX3_tryDone_12 : decode cX3_tryDone 12 = .ok (.getfield 31, 3) := by decide +kernel
theorem dX3_tryDone_15 : decode cX3_tryDone 15 = .ok (.iload_n 2, 1) := by decide +kernel
theorem dX3_tryDone_16 : decode cX3_tryDone 16 = .ok (.invokevirtual 96, 3) := by decide +kernel
theorem dX3_tryDone_19 : decode cX3_tryDone 19 = .ok (.ifCond .eq 15, 3) := by decide +kernel
theorem dX3_tryDone_22 : decode cX3_tryDone 22 = .ok (.aload_n 0, 1) := by decide +kernel
theorem dX3_tryDone_23 : decode cX3_tryDone 23 = .ok (.getfield 31, 3) := by decide +kernel
theorem dX3_tryDone_26 : decode cX3_tryDone 26 = .ok (.iload_n 1, 1) := by decide +kernel
theorem dX3_tryDone_27 : decode cX3_tryDone 27 = .ok (.iload_n 2, 1) := by decide +kernel
theorem dX3_tryDone_28 : decode cX3_tryDone 28 = .ok (.invokevirtual 99, 3) := by decide +kernel
theorem dX3_tryDone_31 : decode cX3_tryDone 31 = .ok (.ifCond .eq 5, 3) := by decide +kernel
theorem dX3_tryDone_34 : decode cX3_tryDone 34 = .ok (.iconst 0, 1) := by decide +kernel
theorem dX3_tryDone_35 : decode cX3_tryDone 35 = .ok (.ireturn, 1) := by decide +kernel
theorem dX3_tryDone_36 : decode cX3_tryDone 36 = .ok (.aload_n 0, 1) := by decide +kernel
theorem dX3_tryDone_37 : decode cX3_tryDone 37 = .ok (.getfield 31, 3) := by decide +kernel
theorem dX3_tryDone_40 : decode cX3_tryDone 40 = .ok (.getfield 102, 3) := by decide +kernel
theorem dX3_tryDone_43 : decode cX3_tryDone 43 = .ok (.iload_n 1, 1) := by decide +kernel
theorem dX3_tryDone_44 : decode cX3_tryDone 44 = .ok (.iload_n 2, 1) := by decide +kernel
theorem dX3_tryDone_45 : decode cX3_tryDone 45 = .ok (.iastore, 1) := by decide +kernel
theorem dX3_tryDone_46 : decode cX3_tryDone 46 = .ok (.iconst 1, 1) := by decide +kernel
theorem dX3_tryDone_47 : decode cX3_tryDone 47 = .ok (.ireturn, 1) := by decide +kernel
set_option maxRecDepth 20000 in
theorem ggX3_tryBound_X4_hasDay : GoodIn wsX3_tryBound wsX4_hasDay := goodIn_r _ [6, 7, 29, 30, 31, 32, 33, 34, 35, 36, 37, 38] (by decide +kernel) (by decide +kernel)
set_option maxRecDepth 20000 in
theorem gX3_tryBound_X4_hasDay : GoodIn wsX3_tryBound (wsV RX3 93 RX4 yX4_hasDay wsX4_hasDay) := goodIn_app (goodIn_of _ (by decide +kernel)) ggX3_tryBound_X4_hasDay
set_option maxRecDepth 20000 in
theorem ggX3_tryBound_X4_unbindDay : GoodIn wsX3_tryBound wsX4_unbindDay := goodIn_r _ [11, 12, 29, 30, 31, 32, 33, 34, 35, 36, 37, 38] (by decide +kernel) (by decide +kernel)
set_option maxRecDepth 20000 in
theorem gX3_tryBound_X4_unbindDay : GoodIn wsX3_tryBound (wsV RX3 105 RX4 yX4_unbindDay wsX4_unbindDay) := goodIn_app (goodIn_of _ (by decide +kernel)) ggX3_tryBound_X4_unbindDay
set_option maxRecDepth 20000 in
theorem ggX3_tryBound_X4_hasThing : GoodIn wsX3_tryBound wsX4_hasThing := goodIn_r _ [16, 17, 29, 30, 31, 32, 33, 34, 35, 36, 37, 38] (by decide +kernel) (by decide +kernel)
set_option maxRecDepth 20000 in
theorem gX3_tryBound_X4_hasThing : GoodIn wsX3_tryBound (wsV RX3 96 RX4 yX4_hasThing wsX4_hasThing) := goodIn_app (goodIn_of _ (by decide +kernel)) ggX3_tryBound_X4_hasThing
set_option maxRecDepth 20000 in
theorem ggX3_tryBound_X4_bindDay : GoodIn wsX3_tryBound wsX4_bindDay := goodIn_r _ [21, 12, 22, 29, 30, 31, 32, 33, 34, 35, 36, 37, 38] (by decide +kernel) (by decide +kernel)
set_option maxRecDepth 20000 in
theorem gX3_tryBound_X4_bindDay : GoodIn wsX3_tryBound (wsV RX3 109 RX4 yX4_bindDay wsX4_bindDay) := goodIn_app (goodIn_of _ (by decide +kernel)) ggX3_tryBound_X4_bindDay
theorem dX3_tryBound_0 : decode cX3_tryBound 0 = .ok (.aload_n 0, 1) := by decide +kernel
theorem dX3_tryBound_1 : decode cX3_tryBound 1 = .ok (.getfield 31, 3) := by decide +kernel
theorem dX3_tryBound_4 : decode cX3_tryBound 4 = .ok (.iload_n 1, 1) := by decide +kernel
theorem dX3_tryBound_5 : decode cX3_tryBound 5 = .ok (.invokevirtual 93, 3) := by decide +kernel
theorem dX3_tryBound_8 : decode cX3_tryBound 8 = .ok (.ifCond .ne 5, 3) := by decide +kernel
theorem dX3_tryBound_11 : decode cX3_tryBound 11 = .ok (.iconst 0, 1) := by decide +kernel
theorem dX3_tryBound_12 : decode cX3_tryBound 12 = .ok (.ireturn, 1) := by decide +kernel
theorem dX3_tryBound_13 : decode cX3_tryBound 13 = .ok (.iload_n 2, 1) := by decide +kernel
theorem dX3_tryBound_14 : decode cX3_tryBound 14 = .ok (.bipush 9, 2) := by decide +kernel
theorem dX3_tryBound_16 : decode cX3_tryBound 16 = .ok (.if_icmp .ne 13, 3) := by decide +kernel
theorem dX3_tryBound_19 : decode cX3_tryBound 19 = .ok (.aload_n 0, 1) := by decide +kernel
theorem dX3_tryBound_20 : decode cX3_tryBound 20 = .ok (.getfield 31, 3) := by decide +kernel
theorem dX3_tryBound_23 : decode cX3_tryBound 23 = .ok (.iload_n 1, 1) := by decide +kernel
theorem dX3_tryBound_24 : decode cX3_tryBound 24 = .ok (.invokevirtual 105, 3) := by decide +kernel
theorem dX3_tryBound_27 : decode cX3_tryBound 27 = .ok (.iconst 1, 1) := by decide +kernel
theorem dX3_tryBound_28 : decode cX3_tryBound 28 = .ok (.ireturn, 1) := by decide +kernel
theorem dX3_tryBound_29 : decode cX3_tryBound 29 = .ok (.aload_n 0, 1) := by decide +kernel
theorem dX3_tryBound_30 : decode cX3_tryBound 30 = .ok (.getfield 31, 3) := by decide +kernel
theorem dX3_tryBound_33 : decode cX3_tryBound 33 = .ok (.iload_n 2, 1) := by decide +kernel
theorem dX3_tryBound_34 : decode cX3_tryBound 34 = .ok (.invokevirtual 96, 3) := by decide +kernel
theorem dX3_tryBound_37 : decode cX3_tryBound 37 = .ok (.ifCond .ne 5, 3) := by decide +kernel
theorem dX3_tryBound_40 : decode cX3_tryBound 40 = .ok (.iconst 0, 1) := by decide +kernel
theorem dX3_tryBound_41 : decode cX3_tryBound 41 = .ok (.ireturn, 1) := by decide +kernel
theorem dX3_tryBound_42 : decode cX3_tryBound 42 = .ok (.aload_n 0, 1) := by decide +kernel
theorem dX3_tryBound_43 : decode cX3_tryBound 43 = .ok (.getfield 31, 3) := by decide +kernel
theorem dX3_tryBound_46 : decode cX3_tryBound 46 = .ok (.iload_n 1, 1) := by decide +kernel
theorem dX3_tryBound_47 : decode cX3_tryBound 47 = .ok (.iload_n 2, 1) := by decide +kernel
theorem dX3_tryBound_48 : decode cX3_tryBound 48 = .ok (.invokevirtual 109, 3) := by decide +kernel
theorem dX3_tryBound_51 : decode cX3_tryBound 51 = .ok (.iconst 1, 1) := by decide +kernel
theorem dX3_tryBound_52 : decode cX3_tryBound 52 = .ok (.ireturn, 1) := by decide +kernel
set_option maxRecDepth 20000 in
theorem ggX3_tryLaw_X5_isLaw : GoodIn wsX3_tryLaw wsX5_isLaw := goodIn_r _ [5] (by decide +kernel) (by decide +kernel)
set_option maxRecDepth 20000 in
theorem gX3_tryLaw_X5_isLaw_n113 : GoodIn wsX3_tryLaw (wsX5_isLaw) := ggX3_tryLaw_X5_isLaw
theorem dX3_tryLaw_0 : decode cX3_tryLaw 0 = .ok (.iload_n 1, 1) := by decide +kernel
theorem dX3_tryLaw_1 : decode cX3_tryLaw 1 = .ok (.invokestatic 113, 3) := by decide +kernel
theorem dX3_tryLaw_4 : decode cX3_tryLaw 4 = .ok (.ifCond .ne 5, 3) := by decide +kernel
theorem dX3_tryLaw_7 : decode cX3_tryLaw 7 = .ok (.iconst 0, 1) := by decide +kernel
theorem dX3_tryLaw_8 : decode cX3_tryLaw 8 = .ok (.ireturn, 1) := by decide +kernel
theorem dX3_tryLaw_9 : decode cX3_tryLaw 9 = .ok (.aload_n 0, 1) := by decide +kernel
theorem dX3_tryLaw_10 : decode cX3_tryLaw 10 = .ok (.getfield 31, 3) := by decide +kernel
theorem dX3_tryLaw_13 : decode cX3_tryLaw 13 = .ok (.iload_n 1, 1) := by decide +kernel
theorem dX3_tryLaw_14 : decode cX3_tryLaw 14 = .ok (.putfield 116, 3) := by decide +kernel
theorem dX3_tryLaw_17 : decode cX3_tryLaw 17 = .ok (.iconst 1, 1) := by decide +kernel
theorem dX3_tryLaw_18 : decode cX3_tryLaw 18 = .ok (.ireturn, 1) := by decide +kernel
theorem dX3_letterHere_0 : decode cX3_letterHere 0 = .ok (.aload_n 0, 1) := by decide +kernel
theorem dX3_letterHere_1 : decode cX3_letterHere 1 = .ok (.getfield 19, 3) := by decide +kernel
theorem dX3_letterHere_4 : decode cX3_letterHere 4 = .ok (.ifCond .lt 26, 3) := by decide +kernel
theorem dX3_letterHere_7 : decode cX3_letterHere 7 = .ok (.aload_n 0, 1) := by decide +kernel
theorem dX3_letterHere_8 : decode cX3_letterHere 8 = .ok (.getfield 19, 3) := by decide +kernel
theorem dX3_letterHere_11 : decode cX3_letterHere 11 = .ok (.aload_n 0, 1) := by decide +kernel
theorem dX3_letterHere_12 : decode cX3_letterHere 12 = .ok (.getfield 15, 3) := by decide +kernel
theorem dX3_letterHere_15 : decode cX3_letterHere 15 = .ok (.if_icmp .ge 15, 3) := by decide +kernel
theorem dX3_letterHere_18 : decode cX3_letterHere 18 = .ok (.aload_n 0, 1) := by decide +kernel
theorem dX3_letterHere_19 : decode cX3_letterHere 19 = .ok (.getfield 9, 3) := by decide +kernel
theorem dX3_letterHere_22 : decode cX3_letterHere 22 = .ok (.aload_n 0, 1) := by decide +kernel
theorem dX3_letterHere_23 : decode cX3_letterHere 23 = .ok (.getfield 19, 3) := by decide +kernel
theorem dX3_letterHere_26 : decode cX3_letterHere 26 = .ok (.iaload, 1) := by decide +kernel
theorem dX3_letterHere_27 : decode cX3_letterHere 27 = .ok (.goto 4, 3) := by decide +kernel
theorem dX3_letterHere_30 : decode cX3_letterHere 30 = .ok (.iconst (-1), 1) := by decide +kernel
theorem dX3_letterHere_31 : decode cX3_letterHere 31 = .ok (.ireturn, 1) := by decide +kernel
set_option maxRecDepth 20000 in
theorem ggX3_readSign_X3_letterHere : GoodIn wsX3_readSign wsX3_letterHere := goodIn_r _ [6, 1, 7, 8, 9, 10, 11, 12, 13, 14] (by decide +kernel) (by decide +kernel)
set_option maxRecDepth 20000 in
theorem gX3_readSign_X3_letterHere : GoodIn wsX3_readSign (wsV RX3 56 RX3 yX3_letterHere wsX3_letterHere) := goodIn_app (goodIn_of _ (by decide +kernel)) ggX3_readSign_X3_letterHere
theorem dX3_readSign_0 : decode cX3_readSign 0 = .ok (.aload_n 0, 1) := by decide +kernel
theorem dX3_readSign_1 : decode cX3_readSign 1 = .ok (.invokevirtual 56, 3) := by decide +kernel
theorem dX3_readSign_4 : decode cX3_readSign 4 = .ok (.iload_n 1, 1) := by decide +kernel
theorem dX3_readSign_5 : decode cX3_readSign 5 = .ok (.if_icmp .eq 5, 3) := by decide +kernel
theorem dX3_readSign_8 : decode cX3_readSign 8 = .ok (.iconst 0, 1) := by decide +kernel
theorem dX3_readSign_9 : decode cX3_readSign 9 = .ok (.ireturn, 1) := by decide +kernel
theorem dX3_readSign_10 : decode cX3_readSign 10 = .ok (.aload_n 0, 1) := by decide +kernel
theorem dX3_readSign_11 : decode cX3_readSign 11 = .ok (.dup, 1) := by decide +kernel
theorem dX3_readSign_12 : decode cX3_readSign 12 = .ok (.getfield 19, 3) := by decide +kernel
theorem dX3_readSign_15 : decode cX3_readSign 15 = .ok (.iconst 1, 1) := by decide +kernel
theorem dX3_readSign_16 : decode cX3_readSign 16 = .ok (.iadd, 1) := by decide +kernel
theorem dX3_readSign_17 : decode cX3_readSign 17 = .ok (.putfield 19, 3) := by decide +kernel
theorem dX3_readSign_20 : decode cX3_readSign 20 = .ok (.iconst 1, 1) := by decide +kernel
theorem dX3_readSign_21 : decode cX3_readSign 21 = .ok (.ireturn, 1) := by decide +kernel
set_option maxRecDepth 20000 in
theorem ggX3_readKind_X3_letterHere : GoodIn wsX3_readKind wsX3_letterHere := goodIn_r _ [7, 2, 8, 9, 99, 100, 101, 102, 103, 104] (by decide +kernel) (by decide +kernel)
set_option maxRecDepth 20000 in
theorem gX3_readKind_X3_letterHere : GoodIn wsX3_readKind (wsV RX3 56 RX3 yX3_letterHere wsX3_letterHere) := goodIn_app (goodIn_of _ (by decide +kernel)) ggX3_readKind_X3_letterHere
set_option maxRecDepth 20000 in
theorem ggX3_readKind_J0_indexOf_0f7a4 : GoodIn wsX3_readKind wsJ0_indexOf_0f7a4 := goodIn_r _ [14, 15, 16, 17, 13, 18, 19, 20, 21, 22, 23, 24, 25, 26, 27, 28, 29, 30, 31, 32, 33, 34, 35, 36, 37, 38, 39, 40, 41, 42, 43, 44, 45, 46, 47, 48, 49, 50, 51, 52, 53, 54, 55, 56, 57, 58, 59, 60, 61, 62, 63, 64, 65, 66, 67, 68, 69, 70, 71, 72, 73, 74, 75, 76, 77, 78, 79, 80, 81, 82, 83, 84, 85, 86, 87, 88, 89, 90, 91, 92, 93, 94, 95, 96, 97, 98] (by decide +kernel) (by decide +kernel)
set_option maxRecDepth 20000 in
theorem gX3_readKind_J0_indexOf_0f7a4 : GoodIn wsX3_readKind (wsV RX3 121 RJ0 yJ0_indexOf_0f7a4 wsJ0_indexOf_0f7a4) := goodIn_app (goodIn_of _ (by decide +kernel)) ggX3_readKind_J0_indexOf_0f7a4
theorem dX3_readKind_0 : decode cX3_readKind 0 = .ok (.aload_n 0, 1) := by decide +kernel
theorem dX3_readKind_1 : decode cX3_readKind 1 = .ok (.invokevirtual 56, 3) := by decide +kernel
theorem dX3_readKind_4 : decode cX3_readKind 4 = .ok (.istore_n 1, 1) := by decide +kernel
theorem dX3_readKind_5 : decode cX3_readKind 5 = .ok (.iload_n 1, 1) := by decide +kernel
theorem dX3_readKind_6 : decode cX3_readKind 6 = .ok (.ifCond .ge 7, 3) := by decide +kernel
theorem dX3_readKind_9 : decode cX3_readKind 9 = .ok (.iconst (-1), 1) := by decide +kernel
theorem dX3_readKind_10 : decode cX3_readKind 10 = .ok (.goto 10, 3) := by decide +kernel
theorem dX3_readKind_13 : decode cX3_readKind 13 = .ok (.ldc 119, 2) := by decide +kernel
theorem dX3_readKind_15 : decode cX3_readKind 15 = .ok (.iload_n 1, 1) := by decide +kernel
theorem dX3_readKind_16 : decode cX3_readKind 16 = .ok (.i2c, 1) := by decide +kernel
theorem dX3_readKind_17 : decode cX3_readKind 17 = .ok (.invokevirtual 121, 3) := by decide +kernel
theorem dX3_readKind_20 : decode cX3_readKind 20 = .ok (.istore_n 2, 1) := by decide +kernel
theorem dX3_readKind_21 : decode cX3_readKind 21 = .ok (.iload_n 2, 1) := by decide +kernel
theorem dX3_readKind_22 : decode cX3_readKind 22 = .ok (.ifCond .ge 5, 3) := by decide +kernel
theorem dX3_readKind_25 : decode cX3_readKind 25 = .ok (.iconst 0, 1) := by decide +kernel
theorem dX3_readKind_26 : decode cX3_readKind 26 = .ok (.ireturn, 1) := by decide +kernel
theorem dX3_readKind_27 : decode cX3_readKind 27 = .ok (.aload_n 0, 1) := by decide +kernel
theorem dX3_readKind_28 : decode cX3_readKind 28 = .ok (.getfield 25, 3) := by decide +kernel
theorem dX3_readKind_31 : decode cX3_readKind 31 = .ok (.iconst 0, 1) := by decide +kernel
theorem dX3_readKind_32 : decode cX3_readKind 32 = .ok (.iload_n 2, 1) := by decide +kernel
theorem dX3_readKind_33 : decode cX3_readKind 33 = .ok (.iastore, 1) := by decide +kernel
theorem dX3_readKind_34 : decode cX3_readKind 34 = .ok (.aload_n 0, 1) := by decide +kernel
theorem dX3_readKind_35 : decode cX3_readKind 35 = .ok (.dup, 1) := by decide +kernel
theorem dX3_readKind_36 : decode cX3_readKind 36 = .ok (.getfield 19, 3) := by decide +kernel
theorem dX3_readKind_39 : decode cX3_readKind 39 = .ok (.iconst 1, 1) := by decide +kernel
theorem dX3_readKind_40 : decode cX3_readKind 40 = .ok (.iadd, 1) := by decide +kernel
theorem dX3_readKind_41 : decode cX3_readKind 41 = .ok (.putfield 19, 3) := by decide +kernel
theorem dX3_readKind_44 : decode cX3_readKind 44 = .ok (.iconst 1, 1) := by decide +kernel
theorem dX3_readKind_45 : decode cX3_readKind 45 = .ok (.ireturn, 1) := by decide +kernel
set_option maxRecDepth 20000 in
theorem ggX3_readDigit_X3_letterHere : GoodIn wsX3_readDigit wsX3_letterHere := goodIn_r _ [7, 2, 8, 9, 10, 11, 12, 13, 14, 15] (by decide +kernel) (by decide +kernel)
set_option maxRecDepth 20000 in
theorem gX3_readDigit_X3_letterHere : GoodIn wsX3_readDigit (wsV RX3 56 RX3 yX3_letterHere wsX3_letterHere) := goodIn_app (goodIn_of _ (by decide +kernel)) ggX3_readDigit_X3_letterHere
theorem dX3_readDigit_0 : decode cX3_readDigit 0 = .ok (.aload_n 0, 1) := by decide +kernel
theorem dX3_readDigit_1 : decode cX3_readDigit 1 = .ok (.invokevirtual 56, 3) := by decide +kernel
theorem dX3_readDigit_4 : decode cX3_readDigit 4 = .ok (.istore_n 2, 1) := by decide +kernel
theorem dX3_readDigit_5 : decode cX3_readDigit 5 = .ok (.iload_n 2, 1) := by decide +kernel
theorem dX3_readDigit_6 : decode cX3_readDigit 6 = .ok (.bipush 48, 2) := by decide +kernel
theorem dX3_readDigit_8 : decode cX3_readDigit 8 = .ok (.if_icmp .lt 9, 3) := by decide +kernel
theorem dX3_readDigit_11 : decode cX3_readDigit 11 = .ok (.iload_n 2, 1) := by decide +kernel
theorem dX3_readDigit_12 : decode cX3_readDigit 12 = .ok (.bipush 57, 2) := by decide +kernel
theorem dX3_readDigit_14 : decode cX3_readDigit 14 = .ok (.if_icmp .le 5, 3) := by decide +kernel
theorem dX3_readDigit_17 : decode cX3_readDigit 17 = .ok (.iconst 0, 1) := by decide +kernel
theorem dX3_readDigit_18 : decode cX3_readDigit 18 = .ok (.ireturn, 1) := by decide +kernel
theorem dX3_readDigit_19 : decode cX3_readDigit 19 = .ok (.aload_n 0, 1) := by decide +kernel
theorem dX3_readDigit_20 : decode cX3_readDigit 20 = .ok (.getfield 25, 3) := by decide +kernel
theorem dX3_readDigit_23 : decode cX3_readDigit 23 = .ok (.iload_n 1, 1) := by decide +kernel
theorem dX3_readDigit_24 : decode cX3_readDigit 24 = .ok (.iload_n 2, 1) := by decide +kernel
theorem dX3_readDigit_25 : decode cX3_readDigit 25 = .ok (.bipush 48, 2) := by decide +kernel
theorem dX3_readDigit_27 : decode cX3_readDigit 27 = .ok (.isub, 1) := by decide +kernel
theorem dX3_readDigit_28 : decode cX3_readDigit 28 = .ok (.iastore, 1) := by decide +kernel
theorem dX3_readDigit_29 : decode cX3_readDigit 29 = .ok (.aload_n 0, 1) := by decide +kernel
theorem dX3_readDigit_30 : decode cX3_readDigit 30 = .ok (.dup, 1) := by decide +kernel
theorem dX3_readDigit_31 : decode cX3_readDigit 31 = .ok (.getfield 19, 3) := by decide +kernel
theorem dX3_readDigit_34 : decode cX3_readDigit 34 = .ok (.iconst 1, 1) := by decide +kernel
theorem dX3_readDigit_35 : decode cX3_readDigit 35 = .ok (.iadd, 1) := by decide +kernel
theorem dX3_readDigit_36 : decode cX3_readDigit 36 = .ok (.putfield 19, 3) := by decide +kernel
theorem dX3_readDigit_39 : decode cX3_readDigit 39 = .ok (.iconst 1, 1) := by decide +kernel
theorem dX3_readDigit_40 : decode cX3_readDigit 40 = .ok (.ireturn, 1) := by decide +kernel
set_option maxRecDepth 20000 in
theorem ggX3_readNumber_X3_readDigit : GoodIn wsX3_readNumber wsX3_readDigit := goodIn_r _ [6, 1, 7, 8, 9, 10, 5, 11, 12, 13, 14, 15, 16, 17, 18, 19] (by decide +kernel) (by decide +kernel)
set_option maxRecDepth 20000 in
theorem gX3_readNumber_X3_readDigit : GoodIn wsX3_readNumber (wsV RX3 63 RX3 yX3_readDigit wsX3_readDigit) := goodIn_app (goodIn_of _ (by decide +kernel)) ggX3_readNumber_X3_readDigit
theorem dX3_readNumber_0 : decode cX3_readNumber 0 = .ok (.aload_n 0, 1) := by decide +kernel
theorem dX3_readNumber_1 : decode cX3_readNumber 1 = .ok (.iload_n 1, 1) := by decide +kernel
theorem dX3_readNumber_2 : decode cX3_readNumber 2 = .ok (.invokevirtual 63, 3) := by decide +kernel
theorem dX3_readNumber_5 : decode cX3_readNumber 5 = .ok (.ifCond .ne 5, 3) := by decide +kernel
theorem dX3_readNumber_8 : decode cX3_readNumber 8 = .ok (.iconst 0, 1) := by decide +kernel
theorem dX3_readNumber_9 : decode cX3_readNumber 9 = .ok (.ireturn, 1) := by decide +kernel
theorem dX3_readNumber_10 : decode cX3_readNumber 10 = .ok (.bipush 10, 2) := by decide +kernel
theorem dX3_readNumber_12 : decode cX3_readNumber 12 = .ok (.aload_n 0, 1) := by decide +kernel
theorem dX3_readNumber_13 : decode cX3_readNumber 13 = .ok (.getfield 25, 3) := by decide +kernel
theorem dX3_readNumber_16 : decode cX3_readNumber 16 = .ok (.iload_n 1, 1) := by decide +kernel
theorem dX3_readNumber_17 : decode cX3_readNumber 17 = .ok (.iaload, 1) := by decide +kernel
theorem dX3_readNumber_18 : decode cX3_readNumber 18 = .ok (.imul, 1) := by decide +kernel
theorem dX3_readNumber_19 : decode cX3_readNumber 19 = .ok (.istore_n 2, 1) := by decide +kernel
theorem dX3_readNumber_20 : decode cX3_readNumber 20 = .ok (.aload_n 0, 1) := by decide +kernel
theorem dX3_readNumber_21 : decode cX3_readNumber 21 = .ok (.iload_n 1, 1) := by decide +kernel
theorem dX3_readNumber_22 : decode cX3_readNumber 22 = .ok (.invokevirtual 63, 3) := by decide +kernel
theorem dX3_readNumber_25 : decode cX3_readNumber 25 = .ok (.ifCond .eq 13, 3) := by decide +kernel
theorem dX3_readNumber_28 : decode cX3_readNumber 28 = .ok (.aload_n 0, 1) := by decide +kernel
theorem dX3_readNumber_29 : decode cX3_readNumber 29 = .ok (.getfield 25, 3) := by decide +kernel
theorem dX3_readNumber_32 : decode cX3_readNumber 32 = .ok (.iload_n 1, 1) := by decide +kernel
theorem dX3_readNumber_33 : decode cX3_readNumber 33 = .ok (.dup2, 1) := by decide +kernel
theorem dX3_readNumber_34 : decode cX3_readNumber 34 = .ok (.iaload, 1) := by decide +kernel
theorem dX3_readNumber_35 : decode cX3_readNumber 35 = .ok (.iload_n 2, 1) := by decide +kernel
theorem dX3_readNumber_36 : decode cX3_readNumber 36 = .ok (.iadd, 1) := by decide +kernel
theorem dX3_readNumber_37 : decode cX3_readNumber 37 = .ok (.iastore, 1) := by decide +kernel
theorem dX3_readNumber_38 : decode cX3_readNumber 38 = .ok (.iconst 1, 1) := by decide +kernel
theorem dX3_readNumber_39 : decode cX3_readNumber 39 = .ok (.ireturn, 1) := by decide +kernel
set_option maxRecDepth 20000 in
theorem ggX4_init_J7_fill_53178 : GoodIn wsX4_init wsJ7_fill_53178 := goodIn_r _ [18] (by decide +kernel) (by decide +kernel)
set_option maxRecDepth 20000 in
theorem gX4_init_J7_fill_53178 : GoodIn wsX4_init (va_wsS RX4 43 yJ7_fill_53178 wsJ7_fill_53178) := goodIn_app (goodIn_of _ (by decide +kernel)) ggX4_init_J7_fill_53178
theorem dX4_init_0 : decode cX4_init 0 = .ok (.aload_n 0, 1) := by decide +kernel
theorem dX4_init_1 : decode cX4_init 1 = .ok (.invokespecial 3, 3) := by decide +kernel
theorem dX4_init_4 : decode cX4_init 4 = .ok (.aload_n 0, 1) := by decide +kernel
theorem dX4_init_5 : decode cX4_init 5 = .ok (.iconst 4, 1) := by decide +kernel
theorem dX4_init_6 : decode cX4_init 6 = .ok (.newarray .int, 2) := by decide +kernel
theorem dX4_init_8 : decode cX4_init 8 = .ok (.putfield 9, 3) := by decide +kernel
theorem dX4_init_11 : decode cX4_init 11 = .ok (.aload_n 0, 1) := by decide +kernel
theorem dX4_init_12 : decode cX4_init 12 = .ok (.iconst 4, 1) := by decide +kernel
theorem dX4_init_13 : decode cX4_init 13 = .ok (.newarray .int, 2) := by decide +kernel
theorem dX4_init_15 : decode cX4_init 15 = .ok (.putfield 15, 3) := by decide +kernel
theorem dX4_init_18 : decode cX4_init 18 = .ok (.aload_n 0, 1) := by decide +kernel
theorem dX4_init_19 : decode cX4_init 19 = .ok (.iconst 4, 1) := by decide +kernel
theorem dX4_init_20 : decode cX4_init 20 = .ok (.newarray .int, 2) := by decide +kernel
theorem dX4_init_22 : decode cX4_init 22 = .ok (.putfield 18, 3) := by decide +kernel
theorem dX4_init_25 : decode cX4_init 25 = .ok (.aload_n 0, 1) := by decide +kernel
theorem dX4_init_26 : decode cX4_init 26 = .ok (.iconst 4, 1) := by decide +kernel
theorem dX4_init_27 : decode cX4_init 27 = .ok (.newarray .int, 2) := by decide +kernel
theorem dX4_init_29 : decode cX4_init 29 = .ok (.putfield 21, 3) := by decide +kernel
theorem dX4_init_32 : decode cX4_init 32 = .ok (.aload_n 0, 1) := by decide +kernel
theorem dX4_init_33 : decode cX4_init 33 = .ok (.bipush 20, 2) := by decide +kernel
theorem dX4_init_35 : decode cX4_init 35 = .ok (.newarray .int, 2) := by decide +kernel
theorem dX4_init_37 : decode cX4_init 37 = .ok (.putfield 24, 3) := by decide +kernel
theorem dX4_init_40 : decode cX4_init 40 = .ok (.aload_n 0, 1) := by decide +kernel
theorem dX4_init_41 : decode cX4_init 41 = .ok (.bipush 20, 2) := by decide +kernel
theorem dX4_init_43 : decode cX4_init 43 = .ok (.newarray .int, 2) := by decide +kernel
theorem dX4_init_45 : decode cX4_init 45 = .ok (.putfield 27, 3) := by decide +kernel
theorem dX4_init_48 : decode cX4_init 48 = .ok (.aload_n 0, 1) := by decide +kernel
theorem dX4_init_49 : decode cX4_init 49 = .ok (.iconst 0, 1) := by decide +kernel
theorem dX4_init_50 : decode cX4_init 50 = .ok (.putfield 30, 3) := by decide +kernel
theorem dX4_init_53 : decode cX4_init 53 = .ok (.aload_n 0, 1) := by decide +kernel
theorem dX4_init_54 : decode cX4_init 54 = .ok (.bipush 10, 2) := by decide +kernel
theorem dX4_init_56 : decode cX4_init 56 = .ok (.putfield 34, 3) := by decide +kernel
theorem dX4_init_59 : decode cX4_init 59 = .ok (.aload_n 0, 1) := by decide +kernel
theorem dX4_init_60 : decode cX4_init 60 = .ok (.iconst 1, 1) := by decide +kernel
theorem dX4_init_61 : decode cX4_init 61 = .ok (.putfield 37, 3) := by decide +kernel
theorem dX4_init_64 : decode cX4_init 64 = .ok (.aload_n 0, 1) := by decide +kernel
theorem dX4_init_65 : decode cX4_init 65 = .ok (.iconst 0, 1) := by decide +kernel
theorem dX4_init_66 : decode cX4_init 66 = .ok (.putfield 40, 3) := by decide +kernel
theorem dX4_init_69 : decode cX4_init 69 = .ok (.aload_n 0, 1) := by decide +kernel
theorem dX4_init_70 : decode cX4_init 70 = .ok (.getfield 27, 3) := by decide +kernel
theorem dX4_init_73 : decode cX4_init 73 = .ok (.bipush (-9), 2) := by decide +kernel
theorem dX4_init_75 : decode cX4_init 75 = .ok (.invokestatic 43, 3) := by decide +kernel
theorem dX4_init_78 : decode cX4_init 78 = .ok (.return_, 1) := by decide +kernel
theorem dX4_copyFrom_0 : decode cX4_copyFrom 0 = .ok (.aload_n 1, 1) := by decide +kernel
theorem dX4_copyFrom_1 : decode cX4_copyFrom 1 = .ok (.getfield 9, 3) := by decide +kernel
theorem dX4_copyFrom_4 : decode cX4_copyFrom 4 = .ok (.iconst 0, 1) := by decide +kernel
theorem dX4_copyFrom_5 : decode cX4_copyFrom 5 = .ok (.aload_n 0, 1) := by decide +kernel
theorem dX4_copyFrom_6 : decode cX4_copyFrom 6 = .ok (.getfield 9, 3) := by decide +kernel
theorem dX4_copyFrom_9 : decode cX4_copyFrom 9 = .ok (.iconst 0, 1) := by decide +kernel
theorem dX4_copyFrom_10 : decode cX4_copyFrom 10 = .ok (.iconst 4, 1) := by decide +kernel
theorem dX4_copyFrom_11 : decode cX4_copyFrom 11 = .ok (.invokestatic 49, 3) := by decide +kernel
theorem dX4_copyFrom_14 : decode cX4_copyFrom 14 = .ok (.aload_n 1, 1) := by decide +kernel
theorem dX4_copyFrom_15 : decode cX4_copyFrom 15 = .ok (.getfield 15, 3) := by decide +kernel
theorem dX4_copyFrom_18 : decode cX4_copyFrom 18 = .ok (.iconst 0, 1) := by decide +kernel
theorem dX4_copyFrom_19 : decode cX4_copyFrom 19 = .ok (.aload_n 0, 1) := by decide +kernel
theorem dX4_copyFrom_20 : decode cX4_copyFrom 20 = .ok (.getfield 15, 3) := by decide +kernel
theorem dX4_copyFrom_23 : decode cX4_copyFrom 23 = .ok (.iconst 0, 1) := by decide +kernel
theorem dX4_copyFrom_24 : decode cX4_copyFrom 24 = .ok (.iconst 4, 1) := by decide +kernel
theorem dX4_copyFrom_25 : decode cX4_copyFrom 25 = .ok (.invokestatic 49, 3) := by decide +kernel
theorem dX4_copyFrom_28 : decode cX4_copyFrom 28 = .ok (.aload_n 1, 1) := by decide +kernel
theorem dX4_copyFrom_29 : decode cX4_copyFrom 29 = .ok (.getfield 18, 3) := by decide +kernel
theorem dX4_copyFrom_32 : decode cX4_copyFrom 32 = .ok (.iconst 0, 1) := by decide +kernel
theorem dX4_copyFrom_33 : decode cX4_copyFrom 33 = .ok (.aload_n 0, 1) := by decide +kernel
theorem dX4_copyFrom_34 : decode cX4_copyFrom 34 = .ok (.getfield 18, 3) := by decide +kernel
theorem dX4_copyFrom_37 : decode cX4_copyFrom 37 = .ok (.iconst 0, 1) := by decide +kernel
theorem dX4_copyFrom_38 : decode cX4_copyFrom 38 = .ok (.iconst 4, 1) := by decide +kernel
theorem dX4_copyFrom_39 : decode cX4_copyFrom 39 = .ok (.invokestatic 49, 3) := by decide +kernel
theorem dX4_copyFrom_42 : decode cX4_copyFrom 42 = .ok (.aload_n 1, 1) := by decide +kernel
theorem dX4_copyFrom_43 : decode cX4_copyFrom 43 = .ok (.getfield 21, 3) := by decide +kernel
theorem dX4_copyFrom_46 : decode cX4_copyFrom 46 = .ok (.iconst 0, 1) := by decide +kernel
theorem dX4_copyFrom_47 : decode cX4_copyFrom 47 = .ok (.aload_n 0, 1) := by decide +kernel
theorem dX4_copyFrom_48 : decode cX4_copyFrom 48 = .ok (.getfield 21, 3) := by decide +kernel
theorem dX4_copyFrom_51 : decode cX4_copyFrom 51 = .ok (.iconst 0, 1) := by decide +kernel
theorem dX4_copyFrom_52 : decode cX4_copyFrom 52 = .ok (.iconst 4, 1) := by decide +kernel
theorem dX4_copyFrom_53 : decode cX4_copyFrom 53 = .ok (.invokestatic 49, 3) := by decide +kernel
theorem dX4_copyFrom_56 : decode cX4_copyFrom 56 = .ok (.aload_n 1, 1) := by decide +kernel
theorem dX4_copyFrom_57 : decode cX4_copyFrom 57 = .ok (.getfield 24, 3) := by decide +kernel
theorem dX4_copyFrom_60 : decode cX4_copyFrom 60 = .ok (.iconst 0, 1) := by decide +kernel
theorem dX4_copyFrom_61 : decode cX4_copyFrom 61 = .ok (.aload_n 0, 1) := by decide +kernel
theorem dX4_copyFrom_62 : decode cX4_copyFrom 62 = .ok (.getfield 24, 3) := by decide +kernel
theorem dX4_copyFrom_65 : decode cX4_copyFrom 65 = .ok (.iconst 0, 1) := by decide +kernel
theorem dX4_copyFrom_66 : decode cX4_copyFrom 66 = .ok (.bipush 20, 2) := by decide +kernel
theorem dX4_copyFrom_68 : decode cX4_copyFrom 68 = .ok (.invokestatic 49, 3) := by decide +kernel
theorem dX4_copyFrom_71 : decode cX4_copyFrom 71 = .ok (.aload_n 1, 1) := by decide +kernel
theorem dX4_copyFrom_72 : decode cX4_copyFrom 72 = .ok (.getfield 27, 3) := by decide +kernel
theorem dX4_copyFrom_75 : decode cX4_copyFrom 75 = .ok (.iconst 0, 1) := by decide +kernel
theorem dX4_copyFrom_76 : decode cX4_copyFrom 76 = .ok (.aload_n 0, 1) := by decide +kernel
theorem dX4_copyFrom_77 : decode cX4_copyFrom 77 = .ok (.getfield 27, 3) := by decide +kernel
theorem dX4_copyFrom_80 : decode cX4_copyFrom 80 = .ok (.iconst 0, 1) := by decide +kernel
theorem dX4_copyFrom_81 : decode cX4_copyFrom 81 = .ok (.bipush 20, 2) := by decide +kernel
theorem dX4_copyFrom_83 : decode cX4_copyFrom 83 = .ok (.invokestatic 49, 3) := by decide +kernel
theorem dX4_copyFrom_86 : decode cX4_copyFrom 86 = .ok (.aload_n 0, 1) := by decide +kernel
theorem dX4_copyFrom_87 : decode cX4_copyFrom 87 = .ok (.aload_n 1, 1) := by decide +kernel
theorem dX4_copyFrom_88 : decode cX4_copyFrom 88 = .ok (.getfield 30, 3) := by decide +kernel
theorem dX4_copyFrom_91 : decode cX4_copyFrom 91 = .ok (.putfield 30, 3) := by decide +kernel
theorem dX4_copyFrom_94 : decode cX4_copyFrom 94 = .ok (.aload_n 0, 1) := by decide +kernel
theorem dX4_copyFrom_95 : decode cX4_copyFrom 95 = .ok (.aload_n 1, 1) := by decide +kernel
theorem dX4_copyFrom_96 : decode cX4_copyFrom 96 = .ok (.getfield 34, 3) := by decide +kernel
theorem dX4_copyFrom_99 : decode cX4_copyFrom 99 = .ok (.putfield 34, 3) := by decide +kernel
theorem dX4_copyFrom_102 : decode cX4_copyFrom 102 = .ok (.aload_n 0, 1) := by decide +kernel
theorem dX4_copyFrom_103 : decode cX4_copyFrom 103 = .ok (.aload_n 1, 1) := by decide +kernel
theorem dX4_copyFrom_104 : decode cX4_copyFrom 104 = .ok (.getfield 37, 3) := by decide +kernel
theorem dX4_copyFrom_107 : decode cX4_copyFrom 107 = .ok (.putfield 37, 3) := by decide +kernel
theorem dX4_copyFrom_110 : decode cX4_copyFrom 110 = .ok (.aload_n 0, 1) := by decide +kernel
theorem dX4_copyFrom_111 : decode cX4_copyFrom 111 = .ok (.aload_n 1, 1) := by decide +kernel
theorem dX4_copyFrom_112 : decode cX4_copyFrom 112 = .ok (.getfield 40, 3) := by decide +kernel
theorem dX4_copyFrom_115 : decode cX4_copyFrom 115 = .ok (.putfield 40, 3) := by decide +kernel
theorem dX4_copyFrom_118 : decode cX4_copyFrom 118 = .ok (.return_, 1) := by decide +kernel
theorem dX4_hasThing_0 : decode cX4_hasThing 0 = .ok (.iload_n 1, 1) := by decide +kernel
theorem dX4_hasThing_1 : decode cX4_hasThing 1 = .ok (.ifCond .lt 15, 3) := by decide +kernel
theorem dX4_hasThing_4 : decode cX4_hasThing 4 = .ok (.iload_n 1, 1) := by decide +kernel
theorem dX4_hasThing_5 : decode cX4_hasThing 5 = .ok (.aload_n 0, 1) := by decide +kernel
theorem dX4_hasThing_6 : decode cX4_hasThing 6 = .ok (.getfield 30, 3) := by decide +kernel
theorem dX4_hasThing_9 : decode cX4_hasThing 9 = .ok (.if_icmp .ge 7, 3) := by decide +kernel
theorem dX4_hasThing_12 : decode cX4_hasThing 12 = .ok (.iconst 1, 1) := by decide +kernel
theorem dX4_hasThing_13 : decode cX4_hasThing 13 = .ok (.goto 4, 3) := by decide +kernel
theorem dX4_hasThing_16 : decode cX4_hasThing 16 = .ok (.iconst 0, 1) := by decide +kernel
theorem dX4_hasThing_17 : decode cX4_hasThing 17 = .ok (.ireturn, 1) := by decide +kernel
theorem dX4_hasDay_0 : decode cX4_hasDay 0 = .ok (.iload_n 1, 1) := by decide +kernel
theorem dX4_hasDay_1 : decode cX4_hasDay 1 = .ok (.ifCond .lt 15, 3) := by decide +kernel
theorem dX4_hasDay_4 : decode cX4_hasDay 4 = .ok (.iload_n 1, 1) := by decide +kernel
theorem dX4_hasDay_5 : decode cX4_hasDay 5 = .ok (.aload_n 0, 1) := by decide +kernel
theorem dX4_hasDay_6 : decode cX4_hasDay 6 = .ok (.getfield 34, 3) := by decide +kernel
theorem dX4_hasDay_9 : decode cX4_hasDay 9 = .ok (.if_icmp .ge 7, 3) := by decide +kernel
theorem dX4_hasDay_12 : decode cX4_hasDay 12 = .ok (.iconst 1, 1) := by decide +kernel
theorem dX4_hasDay_13 : decode cX4_hasDay 13 = .ok (.goto 4, 3) := by decide +kernel
theorem dX4_hasDay_16 : decode cX4_hasDay 16 = .ok (.iconst 0, 1) := by decide +kernel
theorem dX4_hasDay_17 : decode cX4_hasDay 17 = .ok (.ireturn, 1) := by decide +kernel
theorem dX4_isBoundElse_0 : decode cX4_isBoundElse 0 = .ok (.aload_n 0, 1) := by decide +kernel
theorem dX4_isBoundElse_1 : decode cX4_isBoundElse 1 = .ok (.getfield 27, 3) := by decide +kernel
theorem dX4_isBoundElse_4 : decode cX4_isBoundElse 4 = .ok (.iload_n 1, 1) := by decide +kernel
theorem dX4_isBoundElse_5 : decode cX4_isBoundElse 5 = .ok (.iaload, 1) := by decide +kernel
theorem dX4_isBoundElse_6 : decode cX4_isBoundElse 6 = .ok (.bipush (-9), 2) := by decide +kernel
theorem dX4_isBoundElse_8 : decode cX4_isBoundElse 8 = .ok (.if_icmp .eq 17, 3) := by decide +kernel
theorem dX4_isBoundElse_11 : decode cX4_isBoundElse 11 = .ok (.aload_n 0, 1) := by decide +kernel
theorem dX4_isBoundElse_12 : decode cX4_isBoundElse 12 = .ok (.getfield 27, 3) := by decide +kernel
theorem dX4_isBoundElse_15 : decode cX4_isBoundElse 15 = .ok (.iload_n 1, 1) := by decide +kernel
theorem dX4_isBoundElse_16 : decode cX4_isBoundElse 16 = .ok (.iaload, 1) := by decide +kernel
theorem dX4_isBoundElse_17 : decode cX4_isBoundElse 17 = .ok (.iload_n 2, 1) := by decide +kernel
theorem dX4_isBoundElse_18 : decode cX4_isBoundElse 18 = .ok (.if_icmp .eq 7, 3) := by decide +kernel
theorem dX4_isBoundElse_21 : decode cX4_isBoundElse 21 = .ok (.iconst 1, 1) := by decide +kernel
theorem dX4_isBoundElse_22 : decode cX4_isBoundElse 22 = .ok (.goto 4, 3) := by decide +kernel
theorem dX4_isBoundElse_25 : decode cX4_isBoundElse 25 = .ok (.iconst 0, 1) := by decide +kernel
theorem dX4_isBoundElse_26 : decode cX4_isBoundElse 26 = .ok (.ireturn, 1) := by decide +kernel
theorem dX4_addThing_0 : decode cX4_addThing 0 = .ok (.aload_n 0, 1) := by decide +kernel
theorem dX4_addThing_1 : decode cX4_addThing 1 = .ok (.getfield 30, 3) := by decide +kernel
theorem dX4_addThing_4 : decode cX4_addThing 4 = .ok (.iconst 4, 1) := by decide +kernel
theorem dX4_addThing_5 : decode cX4_addThing 5 = .ok (.if_icmp .ge 20, 3) := by decide +kernel
theorem dX4_addThing_8 : decode cX4_addThing 8 = .ok (.iload_n 2, 1) := by decide +kernel
theorem dX4_addThing_9 : decode cX4_addThing 9 = .ok (.bipush 9, 2) := by decide +kernel
theorem dX4_addThing_11 : decode cX4_addThing 11 = .ok (.if_icmp .gt 14, 3) := by decide +kernel
theorem dX4_addThing_14 : decode cX4_addThing 14 = .ok (.iload_n 3, 1) := by decide +kernel
theorem dX4_addThing_15 : decode cX4_addThing 15 = .ok (.iconst 3, 1) := by decide +kernel
theorem dX4_addThing_16 : decode cX4_addThing 16 = .ok (.if_icmp .gt 9, 3) := by decide +kernel
theorem dX4_addThing_19 : decode cX4_addThing 19 = .ok (.iload 4, 2) := by decide +kernel
theorem dX4_addThing_21 : decode cX4_addThing 21 = .ok (.iconst 3, 1) := by decide +kernel
theorem dX4_addThing_22 : decode cX4_addThing 22 = .ok (.if_icmp .le 5, 3) := by decide +kernel
theorem dX4_addThing_25 : decode cX4_addThing 25 = .ok (.iconst 0, 1) := by decide +kernel
theorem dX4_addThing_26 : decode cX4_addThing 26 = .ok (.ireturn, 1) := by decide +kernel
theorem dX4_addThing_27 : decode cX4_addThing 27 = .ok (.aload_n 0, 1) := by decide +kernel
theorem dX4_addThing_28 : decode cX4_addThing 28 = .ok (.getfield 9, 3) := by decide +kernel
theorem dX4_addThing_31 : decode cX4_addThing 31 = .ok (.aload_n 0, 1) := by decide +kernel
theorem dX4_addThing_32 : decode cX4_addThing 32 = .ok (.getfield 30, 3) := by decide +kernel
theorem dX4_addThing_35 : decode cX4_addThing 35 = .ok (.iload_n 1, 1) := by decide +kernel
theorem dX4_addThing_36 : decode cX4_addThing 36 = .ok (.iastore, 1) := by decide +kernel
theorem dX4_addThing_37 : decode cX4_addThing 37 = .ok (.aload_n 0, 1) := by decide +kernel
theorem dX4_addThing_38 : decode cX4_addThing 38 = .ok (.getfield 15, 3) := by decide +kernel
theorem dX4_addThing_41 : decode cX4_addThing 41 = .ok (.aload_n 0, 1) := by decide +kernel
theorem dX4_addThing_42 : decode cX4_addThing 42 = .ok (.getfield 30, 3) := by decide +kernel
theorem dX4_addThing_45 : decode cX4_addThing 45 = .ok (.iload_n 2, 1) := by decide +kernel
theorem dX4_addThing_46 : decode cX4_addThing 46 = .ok (.iastore, 1) := by decide +kernel
theorem dX4_addThing_47 : decode cX4_addThing 47 = .ok (.aload_n 0, 1) := by decide +kernel
theorem dX4_addThing_48 : decode cX4_addThing 48 = .ok (.getfield 18, 3) := by decide +kernel
theorem dX4_addThing_51 : decode cX4_addThing 51 = .ok (.aload_n 0, 1) := by decide +kernel
theorem dX4_addThing_52 : decode cX4_addThing 52 = .ok (.getfield 30, 3) := by decide +kernel
theorem dX4_addThing_55 : decode cX4_addThing 55 = .ok (.iload_n 3, 1) := by decide +kernel
theorem dX4_addThing_56 : decode cX4_addThing 56 = .ok (.iastore, 1) := by decide +kernel
theorem dX4_addThing_57 : decode cX4_addThing 57 = .ok (.aload_n 0, 1) := by decide +kernel
theorem dX4_addThing_58 : decode cX4_addThing 58 = .ok (.getfield 21, 3) := by decide +kernel
theorem dX4_addThing_61 : decode cX4_addThing 61 = .ok (.aload_n 0, 1) := by decide +kernel
theorem dX4_addThing_62 : decode cX4_addThing 62 = .ok (.getfield 30, 3) := by decide +kernel
theorem dX4_addThing_65 : decode cX4_addThing 65 = .ok (.iload 4, 2) := by decide +kernel
theorem dX4_addThing_67 : decode cX4_addThing 67 = .ok (.iastore, 1) := by decide +kernel
theorem dX4_addThing_68 : decode cX4_addThing 68 = .ok (.aload_n 0, 1) := by decide +kernel
theorem dX4_addThing_69 : decode cX4_addThing 69 = .ok (.dup, 1) := by decide +kernel
theorem dX4_addThing_70 : decode cX4_addThing 70 = .ok (.getfield 30, 3) := by decide +kernel
theorem dX4_addThing_73 : decode cX4_addThing 73 = .ok (.iconst 1, 1) := by decide +kernel
theorem dX4_addThing_74 : decode cX4_addThing 74 = .ok (.iadd, 1) := by decide +kernel
theorem dX4_addThing_75 : decode cX4_addThing 75 = .ok (.putfield 30, 3) := by decide +kernel
theorem dX4_addThing_78 : decode cX4_addThing 78 = .ok (.iconst 1, 1) := by decide +kernel
theorem dX4_addThing_79 : decode cX4_addThing 79 = .ok (.ireturn, 1) := by decide +kernel
set_option maxRecDepth 20000 in
theorem ggX4_beginYear_J7_fill_53178 : GoodIn wsX4_beginYear wsJ7_fill_53178 := goodIn_r _ [7] (by decide +kernel) (by decide +kernel)
set_option maxRecDepth 20000 in
theorem gX4_beginYear_J7_fill_53178 : GoodIn wsX4_beginYear (va_wsS RX4 43 yJ7_fill_53178 wsJ7_fill_53178) := goodIn_app (goodIn_of _ (by decide +kernel)) ggX4_beginYear_J7_fill_53178
theorem dX4_beginYear_0 : decode cX4_beginYear 0 = .ok (.iload_n 1, 1) := by decide +kernel
theorem dX4_beginYear_1 : decode cX4_beginYear 1 = .ok (.iconst 1, 1) := by decide +kernel
theorem dX4_beginYear_2 : decode cX4_beginYear 2 = .ok (.if_icmp .lt 9, 3) := by decide +kernel
theorem dX4_beginYear_5 : decode cX4_beginYear 5 = .ok (.iload_n 1, 1) := by decide +kernel
theorem dX4_beginYear_6 : decode cX4_beginYear 6 = .ok (.bipush 20, 2) := by decide +kernel
theorem dX4_beginYear_8 : decode cX4_beginYear 8 = .ok (.if_icmp .le 5, 3) := by decide +kernel
theorem dX4_beginYear_11 : decode cX4_beginYear 11 = .ok (.iconst 0, 1) := by decide +kernel
theorem dX4_beginYear_12 : decode cX4_beginYear 12 = .ok (.ireturn, 1) := by decide +kernel
theorem dX4_beginYear_13 : decode cX4_beginYear 13 = .ok (.aload_n 0, 1) := by decide +kernel
theorem dX4_beginYear_14 : decode cX4_beginYear 14 = .ok (.iload_n 1, 1) := by decide +kernel
theorem dX4_beginYear_15 : decode cX4_beginYear 15 = .ok (.putfield 34, 3) := by decide +kernel
theorem dX4_beginYear_18 : decode cX4_beginYear 18 = .ok (.aload_n 0, 1) := by decide +kernel
theorem dX4_beginYear_19 : decode cX4_beginYear 19 = .ok (.getfield 24, 3) := by decide +kernel
theorem dX4_beginYear_22 : decode cX4_beginYear 22 = .ok (.iconst 0, 1) := by decide +kernel
theorem dX4_beginYear_23 : decode cX4_beginYear 23 = .ok (.invokestatic 43, 3) := by decide +kernel
theorem dX4_beginYear_26 : decode cX4_beginYear 26 = .ok (.aload_n 0, 1) := by decide +kernel
theorem dX4_beginYear_27 : decode cX4_beginYear 27 = .ok (.getfield 27, 3) := by decide +kernel
theorem dX4_beginYear_30 : decode cX4_beginYear 30 = .ok (.bipush (-9), 2) := by decide +kernel
theorem dX4_beginYear_32 : decode cX4_beginYear 32 = .ok (.invokestatic 43, 3) := by decide +kernel
theorem dX4_beginYear_35 : decode cX4_beginYear 35 = .ok (.iconst 1, 1) := by decide +kernel
theorem dX4_beginYear_36 : decode cX4_beginYear 36 = .ok (.ireturn, 1) := by decide +kernel
theorem dX4_bindDay_0 : decode cX4_bindDay 0 = .ok (.aload_n 0, 1) := by decide +kernel
theorem dX4_bindDay_1 : decode cX4_bindDay 1 = .ok (.getfield 27, 3) := by decide +kernel
theorem dX4_bindDay_4 : decode cX4_bindDay 4 = .ok (.iload_n 1, 1) := by decide +kernel
theorem dX4_bindDay_5 : decode cX4_bindDay 5 = .ok (.iload_n 2, 1) := by decide +kernel
theorem dX4_bindDay_6 : decode cX4_bindDay 6 = .ok (.iastore, 1) := by decide +kernel
theorem dX4_bindDay_7 : decode cX4_bindDay 7 = .ok (.aload_n 0, 1) := by decide +kernel
theorem dX4_bindDay_8 : decode cX4_bindDay 8 = .ok (.getfield 24, 3) := by decide +kernel
theorem dX4_bindDay_11 : decode cX4_bindDay 11 = .ok (.iload_n 1, 1) := by decide +kernel
theorem dX4_bindDay_12 : decode cX4_bindDay 12 = .ok (.iload_n 2, 1) := by decide +kernel
theorem dX4_bindDay_13 : decode cX4_bindDay 13 = .ok (.iastore, 1) := by decide +kernel
theorem dX4_bindDay_14 : decode cX4_bindDay 14 = .ok (.return_, 1) := by decide +kernel
theorem dX4_unbindDay_0 : decode cX4_unbindDay 0 = .ok (.aload_n 0, 1) := by decide +kernel
theorem dX4_unbindDay_1 : decode cX4_unbindDay 1 = .ok (.getfield 27, 3) := by decide +kernel
theorem dX4_unbindDay_4 : decode cX4_unbindDay 4 = .ok (.iload_n 1, 1) := by decide +kernel
theorem dX4_unbindDay_5 : decode cX4_unbindDay 5 = .ok (.bipush (-9), 2) := by decide +kernel
theorem dX4_unbindDay_7 : decode cX4_unbindDay 7 = .ok (.iastore, 1) := by decide +kernel
theorem dX4_unbindDay_8 : decode cX4_unbindDay 8 = .ok (.return_, 1) := by decide +kernel
theorem dX4_boundDays_0 : decode cX4_boundDays 0 = .ok (.iconst 0, 1) := by decide +kernel
theorem dX4_boundDays_1 : decode cX4_boundDays 1 = .ok (.istore_n 1, 1) := by decide +kernel
theorem dX4_boundDays_2 : decode cX4_boundDays 2 = .ok (.iconst 0, 1) := by decide +kernel
theorem dX4_boundDays_3 : decode cX4_boundDays 3 = .ok (.istore_n 2, 1) := by decide +kernel
theorem dX4_boundDays_4 : decode cX4_boundDays 4 = .ok (.iload_n 2, 1) := by decide +kernel
theorem dX4_boundDays_5 : decode cX4_boundDays 5 = .ok (.aload_n 0, 1) := by decide +kernel
theorem dX4_boundDays_6 : decode cX4_boundDays 6 = .ok (.getfield 34, 3) := by decide +kernel
theorem dX4_boundDays_9 : decode cX4_boundDays 9 = .ok (.if_icmp .ge 23, 3) := by decide +kernel
theorem dX4_boundDays_12 : decode cX4_boundDays 12 = .ok (.aload_n 0, 1) := by decide +kernel
theorem dX4_boundDays_13 : decode cX4_boundDays 13 = .ok (.getfield 27, 3) := by decide +kernel
theorem dX4_boundDays_16 : decode cX4_boundDays 16 = .ok (.iload_n 2, 1) := by decide +kernel
theorem dX4_boundDays_17 : decode cX4_boundDays 17 = .ok (.iaload, 1) := by decide +kernel
theorem dX4_boundDays_18 : decode cX4_boundDays 18 = .ok (.bipush (-9), 2) := by decide +kernel
theorem dX4_boundDays_20 : decode cX4_boundDays 20 = .ok (.if_icmp .eq 6, 3) := by decide +kernel
theorem dX4_boundDays_23 : decode cX4_boundDays 23 = .ok (.iinc 1 1, 3) := by decide +kernel
theorem dX4_boundDays_26 : decode cX4_boundDays 26 = .ok (.iinc 2 1, 3) := by decide +kernel
theorem dX4_boundDays_29 : decode cX4_boundDays 29 = .ok (.goto (-25), 3) := by decide +kernel
theorem dX4_boundDays_32 : decode cX4_boundDays 32 = .ok (.iload_n 1, 1) := by decide +kernel
theorem dX4_boundDays_33 : decode cX4_boundDays 33 = .ok (.ireturn, 1) := by decide +kernel
theorem dX4_placeInStretch_0 : decode cX4_placeInStretch 0 = .ok (.iload_n 1, 1) := by decide +kernel
theorem dX4_placeInStretch_1 : decode cX4_placeInStretch 1 = .ok (.istore_n 2, 1) := by decide +kernel
theorem dX4_placeInStretch_2 : decode cX4_placeInStretch 2 = .ok (.iload_n 2, 1) := by decide +kernel
theorem dX4_placeInStretch_3 : decode cX4_placeInStretch 3 = .ok (.ifCond .le 26, 3) := by decide +kernel
theorem dX4_placeInStretch_6 : decode cX4_placeInStretch 6 = .ok (.aload_n 0, 1) := by decide +kernel
theorem dX4_placeInStretch_7 : decode cX4_placeInStretch 7 = .ok (.getfield 24, 3) := by decide +kernel
theorem dX4_placeInStretch_10 : decode cX4_placeInStretch 10 = .ok (.iload_n 2, 1) := by decide +kernel
theorem dX4_placeInStretch_11 : decode cX4_placeInStretch 11 = .ok (.iconst 1, 1) := by decide +kernel
theorem dX4_placeInStretch_12 : decode cX4_placeInStretch 12 = .ok (.isub, 1) := by decide +kernel
theorem dX4_placeInStretch_13 : decode cX4_placeInStretch 13 = .ok (.iaload, 1) := by decide +kernel
theorem dX4_placeInStretch_14 : decode cX4_placeInStretch 14 = .ok (.aload_n 0, 1) := by decide +kernel
theorem dX4_placeInStretch_15 : decode cX4_placeInStretch 15 = .ok (.getfield 24, 3) := by decide +kernel
theorem dX4_placeInStretch_18 : decode cX4_placeInStretch 18 = .ok (.iload_n 1, 1) := by decide +kernel
theorem dX4_placeInStretch_19 : decode cX4_placeInStretch 19 = .ok (.iaload, 1) := by decide +kernel
theorem dX4_placeInStretch_20 : decode cX4_placeInStretch 20 = .ok (.if_icmp .ne 9, 3) := by decide +kernel
theorem dX4_placeInStretch_23 : decode cX4_placeInStretch 23 = .ok (.iinc 2 (-1), 3) := by decide +kernel
theorem dX4_placeInStretch_26 : decode cX4_placeInStretch 26 = .ok (.goto (-24), 3) := by decide +kernel
theorem dX4_placeInStretch_29 : decode cX4_placeInStretch 29 = .ok (.iload_n 1, 1) := by decide +kernel
theorem dX4_placeInStretch_30 : decode cX4_placeInStretch 30 = .ok (.iload_n 2, 1) := by decide +kernel
theorem dX4_placeInStretch_31 : decode cX4_placeInStretch 31 = .ok (.isub, 1) := by decide +kernel
theorem dX4_placeInStretch_32 : decode cX4_placeInStretch 32 = .ok (.iconst 1, 1) := by decide +kernel
theorem dX4_placeInStretch_33 : decode cX4_placeInStretch 33 = .ok (.iadd, 1) := by decide +kernel
theorem dX4_placeInStretch_34 : decode cX4_placeInStretch 34 = .ok (.ireturn, 1) := by decide +kernel
theorem dX4_daysToGoOn_0 : decode cX4_daysToGoOn 0 = .ok (.iload_n 1, 1) := by decide +kernel
theorem dX4_daysToGoOn_1 : decode cX4_daysToGoOn 1 = .ok (.istore_n 2, 1) := by decide +kernel
theorem dX4_daysToGoOn_2 : decode cX4_daysToGoOn 2 = .ok (.iload_n 2, 1) := by decide +kernel
theorem dX4_daysToGoOn_3 : decode cX4_daysToGoOn 3 = .ok (.iconst 1, 1) := by decide +kernel
theorem dX4_daysToGoOn_4 : decode cX4_daysToGoOn 4 = .ok (.iadd, 1) := by decide +kernel
theorem dX4_daysToGoOn_5 : decode cX4_daysToGoOn 5 = .ok (.aload_n 0, 1) := by decide +kernel
theorem dX4_daysToGoOn_6 : decode cX4_daysToGoOn 6 = .ok (.getfield 34, 3) := by decide +kernel
theorem dX4_daysToGoOn_9 : decode cX4_daysToGoOn 9 = .ok (.if_icmp .ge 26, 3) := by decide +kernel
theorem dX4_daysToGoOn_12 : decode cX4_daysToGoOn 12 = .ok (.aload_n 0, 1) := by decide +kernel
theorem dX4_daysToGoOn_13 : decode cX4_daysToGoOn 13 = .ok (.getfield 24, 3) := by decide +kernel
theorem dX4_daysToGoOn_16 : decode cX4_daysToGoOn 16 = .ok (.iload_n 2, 1) := by decide +kernel
theorem dX4_daysToGoOn_17 : decode cX4_daysToGoOn 17 = .ok (.iconst 1, 1) := by decide +kernel
theorem dX4_daysToGoOn_18 : decode cX4_daysToGoOn 18 = .ok (.iadd, 1) := by decide +kernel
theorem dX4_daysToGoOn_19 : decode cX4_daysToGoOn 19 = .ok (.iaload, 1) := by decide +kernel
theorem dX4_daysToGoOn_20 : decode cX4_daysToGoOn 20 = .ok (.aload_n 0, 1) := by decide +kernel
theorem dX4_daysToGoOn_21 : decode cX4_daysToGoOn 21 = .ok (.getfield 24, 3) := by decide +kernel
theorem dX4_daysToGoOn_24 : decode cX4_daysToGoOn 24 = .ok (.iload_n 1, 1) := by decide +kernel
theorem dX4_daysToGoOn_25 : decode cX4_daysToGoOn 25 = .ok (.iaload, 1) := by decide +kernel
theorem dX4_daysToGoOn_26 : decode cX4_daysToGoOn 26 = .ok (.if_icmp .ne 9, 3) := by decide +kernel
theorem dX4_daysToGoOn_29 : decode cX4_daysToGoOn 29 = .ok (.iinc 2 1, 3) := by decide +kernel
theorem dX4_daysToGoOn_32 : decode cX4_daysToGoOn 32 = .ok (.goto (-30), 3) := by decide +kernel
theorem dX4_daysToGoOn_35 : decode cX4_daysToGoOn 35 = .ok (.iload_n 2, 1) := by decide +kernel
theorem dX4_daysToGoOn_36 : decode cX4_daysToGoOn 36 = .ok (.iload_n 1, 1) := by decide +kernel
theorem dX4_daysToGoOn_37 : decode cX4_daysToGoOn 37 = .ok (.isub, 1) := by decide +kernel
theorem dX4_daysToGoOn_38 : decode cX4_daysToGoOn 38 = .ok (.ireturn, 1) := by decide +kernel
set_option maxRecDepth 20000 in
theorem ggX4_valueNow_X4_placeInStretch : GoodIn wsX4_valueNow wsX4_placeInStretch := goodIn_r _ [6, 1, 24, 25, 26, 27, 28, 29, 30, 31, 32, 33] (by decide +kernel) (by decide +kernel)
set_option maxRecDepth 20000 in
theorem gX4_valueNow_X4_placeInStretch : GoodIn wsX4_valueNow (wsV RX4 55 RX4 yX4_placeInStretch wsX4_placeInStretch) := goodIn_app (goodIn_of _ (by decide +kernel)) ggX4_valueNow_X4_placeInStretch
set_option maxRecDepth 20000 in
theorem ggX4_valueNow_X4_valueOf : GoodIn wsX4_valueNow wsX4_valueOf := goodIn_r _ [10, 11, 12, 13, 14, 15, 5, 16, 17, 18, 19, 20, 21, 22, 23, 24, 25, 26, 27, 28, 29, 30, 31, 32, 33] (by decide +kernel) (by decide +kernel)
set_option maxRecDepth 20000 in
theorem gX4_valueNow_X4_valueOf : GoodIn wsX4_valueNow (wsV RX4 59 RX4 yX4_valueOf wsX4_valueOf) := goodIn_app (goodIn_of _ (by decide +kernel)) ggX4_valueNow_X4_valueOf
theorem dX4_valueNow_0 : decode cX4_valueNow 0 = .ok (.aload_n 0, 1) := by decide +kernel
theorem dX4_valueNow_1 : decode cX4_valueNow 1 = .ok (.aload_n 0, 1) := by decide +kernel
theorem dX4_valueNow_2 : decode cX4_valueNow 2 = .ok (.getfield 24, 3) := by decide +kernel
theorem dX4_valueNow_5 : decode cX4_valueNow 5 = .ok (.iload_n 1, 1) := by decide +kernel
theorem dX4_valueNow_6 : decode cX4_valueNow 6 = .ok (.iaload, 1) := by decide +kernel
theorem dX4_valueNow_7 : decode cX4_valueNow 7 = .ok (.aload_n 0, 1) := by decide +kernel
theorem dX4_valueNow_8 : decode cX4_valueNow 8 = .ok (.iload_n 1, 1) := by decide +kernel
theorem dX4_valueNow_9 : decode cX4_valueNow 9 = .ok (.invokevirtual 55, 3) := by decide +kernel
theorem dX4_valueNow_12 : decode cX4_valueNow 12 = .ok (.invokevirtual 59, 3) := by decide +kernel
theorem dX4_valueNow_15 : decode cX4_valueNow 15 = .ok (.ireturn, 1) := by decide +kernel
set_option maxRecDepth 20000 in
theorem ggX4_valueOf_X4_hasThing : GoodIn wsX4_valueOf wsX4_hasThing := goodIn_r _ [7, 8, 15, 16, 17, 18, 19, 20, 21, 22, 23, 24] (by decide +kernel) (by decide +kernel)
set_option maxRecDepth 20000 in
theorem gX4_valueOf_X4_hasThing : GoodIn wsX4_valueOf (wsV RX4 63 RX4 yX4_hasThing wsX4_hasThing) := goodIn_app (goodIn_of _ (by decide +kernel)) ggX4_valueOf_X4_hasThing
set_option maxRecDepth 20000 in
theorem ggX4_valueOf_X4_workValue : GoodIn wsX4_valueOf wsX4_workValue := goodIn_r _ [12, 2, 13, 14, 15, 16, 17, 18, 19, 20, 21, 22, 23, 24] (by decide +kernel) (by decide +kernel)
set_option maxRecDepth 20000 in
theorem gX4_valueOf_X4_workValue : GoodIn wsX4_valueOf (wsV RX4 67 RX4 yX4_workValue wsX4_workValue) := goodIn_app (goodIn_of _ (by decide +kernel)) ggX4_valueOf_X4_workValue
theorem dX4_valueOf_0 : decode cX4_valueOf 0 = .ok (.aload_n 0, 1) := by decide +kernel
theorem dX4_valueOf_1 : decode cX4_valueOf 1 = .ok (.iload_n 1, 1) := by decide +kernel
theorem dX4_valueOf_2 : decode cX4_valueOf 2 = .ok (.invokevirtual 63, 3) := by decide +kernel
theorem dX4_valueOf_5 : decode cX4_valueOf 5 = .ok (.ifCond .ne 5, 3) := by decide +kernel
theorem dX4_valueOf_8 : decode cX4_valueOf 8 = .ok (.iconst 0, 1) := by decide +kernel
theorem dX4_valueOf_9 : decode cX4_valueOf 9 = .ok (.ireturn, 1) := by decide +kernel
theorem dX4_valueOf_10 : decode cX4_valueOf 10 = .ok (.aload_n 0, 1) := by decide +kernel
theorem dX4_valueOf_11 : decode cX4_valueOf 11 = .ok (.getfield 9, 3) := by decide +kernel
theorem dX4_valueOf_14 : decode cX4_valueOf 14 = .ok (.iload_n 1, 1) := by decide +kernel
theorem dX4_valueOf_15 : decode cX4_valueOf 15 = .ok (.iaload, 1) := by decide +kernel
theorem dX4_valueOf_16 : decode cX4_valueOf 16 = .ok (.tableswitch 85 1 5 #[36, 38, 48, 57, 69], 36) := by decide +kernel
theorem dX4_valueOf_52 : decode cX4_valueOf 52 = .ok (.iconst 0, 1) := by decide +kernel
theorem dX4_valueOf_53 : decode cX4_valueOf 53 = .ok (.ireturn, 1) := by decide +kernel
theorem dX4_valueOf_54 : decode cX4_valueOf 54 = .ok (.aload_n 0, 1) := by decide +kernel
theorem dX4_valueOf_55 : decode cX4_valueOf 55 = .ok (.iload_n 1, 1) := by decide +kernel
theorem dX4_valueOf_56 : decode cX4_valueOf 56 = .ok (.iload_n 2, 1) := by decide +kernel
theorem dX4_valueOf_57 : decode cX4_valueOf 57 = .ok (.iconst 2, 1) := by decide +kernel
theorem dX4_valueOf_58 : decode cX4_valueOf 58 = .ok (.bipush 7, 2) := by decide +kernel
theorem dX4_valueOf_60 : decode cX4_valueOf 60 = .ok (.invokevirtual 67, 3) := by decide +kernel
theorem dX4_valueOf_63 : decode cX4_valueOf 63 = .ok (.ireturn, 1) := by decide +kernel
theorem dX4_valueOf_64 : decode cX4_valueOf 64 = .ok (.aload_n 0, 1) := by decide +kernel
theorem dX4_valueOf_65 : decode cX4_valueOf 65 = .ok (.iload_n 1, 1) := by decide +kernel
theorem dX4_valueOf_66 : decode cX4_valueOf 66 = .ok (.iload_n 2, 1) := by decide +kernel
theorem dX4_valueOf_67 : decode cX4_valueOf 67 = .ok (.iconst 4, 1) := by decide +kernel
theorem dX4_valueOf_68 : decode cX4_valueOf 68 = .ok (.iconst 4, 1) := by decide +kernel
theorem dX4_valueOf_69 : decode cX4_valueOf 69 = .ok (.invokevirtual 67, 3) := by decide +kernel
theorem dX4_valueOf_72 : decode cX4_valueOf 72 = .ok (.ireturn, 1) := by decide +kernel
theorem dX4_valueOf_73 : decode cX4_valueOf 73 = .ok (.iconst 2, 1) := by decide +kernel
theorem dX4_valueOf_74 : decode cX4_valueOf 74 = .ok (.aload_n 0, 1) := by decide +kernel
theorem dX4_valueOf_75 : decode cX4_valueOf 75 = .ok (.iload_n 1, 1) := by decide +kernel
theorem dX4_valueOf_76 : decode cX4_valueOf 76 = .ok (.iload_n 2, 1) := by decide +kernel
theorem dX4_valueOf_77 : decode cX4_valueOf 77 = .ok (.iconst 2, 1) := by decide +kernel
theorem dX4_valueOf_78 : decode cX4_valueOf 78 = .ok (.bipush 7, 2) := by decide +kernel
theorem dX4_valueOf_80 : decode cX4_valueOf 80 = .ok (.invokevirtual 67, 3) := by decide +kernel
theorem dX4_valueOf_83 : decode cX4_valueOf 83 = .ok (.imul, 1) := by decide +kernel
theorem dX4_valueOf_84 : decode cX4_valueOf 84 = .ok (.ireturn, 1) := by decide +kernel
theorem dX4_valueOf_85 : decode cX4_valueOf 85 = .ok (.iload_n 2, 1) := by decide +kernel
theorem dX4_valueOf_86 : decode cX4_valueOf 86 = .ok (.iconst 1, 1) := by decide +kernel
theorem dX4_valueOf_87 : decode cX4_valueOf 87 = .ok (.if_icmp .ne 12, 3) := by decide +kernel
theorem dX4_valueOf_90 : decode cX4_valueOf 90 = .ok (.aload_n 0, 1) := by decide +kernel
theorem dX4_valueOf_91 : decode cX4_valueOf 91 = .ok (.getfield 15, 3) := by decide +kernel
theorem dX4_valueOf_94 : decode cX4_valueOf 94 = .ok (.iload_n 1, 1) := by decide +kernel
theorem dX4_valueOf_95 : decode cX4_valueOf 95 = .ok (.iaload, 1) := by decide +kernel
theorem dX4_valueOf_96 : decode cX4_valueOf 96 = .ok (.goto 4, 3) := by decide +kernel
theorem dX4_valueOf_99 : decode cX4_valueOf 99 = .ok (.iconst 0, 1) := by decide +kernel
theorem dX4_valueOf_100 : decode cX4_valueOf 100 = .ok (.ireturn, 1) := by decide +kernel
theorem dX4_valueOf_101 : decode cX4_valueOf 101 = .ok (.aload_n 0, 1) := by decide +kernel
theorem dX4_valueOf_102 : decode cX4_valueOf 102 = .ok (.iload_n 1, 1) := by decide +kernel
theorem dX4_valueOf_103 : decode cX4_valueOf 103 = .ok (.iload_n 2, 1) := by decide +kernel
theorem dX4_valueOf_104 : decode cX4_valueOf 104 = .ok (.iconst 4, 1) := by decide +kernel
theorem dX4_valueOf_105 : decode cX4_valueOf 105 = .ok (.bipush 7, 2) := by decide +kernel
theorem dX4_valueOf_107 : decode cX4_valueOf 107 = .ok (.invokevirtual 67, 3) := by decide +kernel
theorem dX4_valueOf_110 : decode cX4_valueOf 110 = .ok (.ireturn, 1) := by decide +kernel
theorem dX4_workValue_0 : decode cX4_workValue 0 = .ok (.aload_n 0, 1) := by decide +kernel
theorem dX4_workValue_1 : decode cX4_workValue 1 = .ok (.getfield 15, 3) := by decide +kernel
theorem dX4_workValue_4 : decode cX4_workValue 4 = .ok (.iload_n 1, 1) := by decide +kernel
theorem dX4_workValue_5 : decode cX4_workValue 5 = .ok (.iaload, 1) := by decide +kernel
theorem dX4_workValue_6 : decode cX4_workValue 6 = .ok (.istore 5, 2) := by decide +kernel
theorem dX4_workValue_8 : decode cX4_workValue 8 = .ok (.iload_n 2, 1) := by decide +kernel
theorem dX4_workValue_9 : decode cX4_workValue 9 = .ok (.iload_n 3, 1) := by decide +kernel
theorem dX4_workValue_10 : decode cX4_workValue 10 = .ok (.if_icmp .lt 14, 3) := by decide +kernel
theorem dX4_workValue_13 : decode cX4_workValue 13 = .ok (.iload 5, 2) := by decide +kernel
theorem dX4_workValue_15 : decode cX4_workValue 15 = .ok (.aload_n 0, 1) := by decide +kernel
theorem dX4_workValue_16 : decode cX4_workValue 16 = .ok (.getfield 18, 3) := by decide +kernel
theorem dX4_workValue_19 : decode cX4_workValue 19 = .ok (.iload_n 1, 1) := by decide +kernel
theorem dX4_workValue_20 : decode cX4_workValue 20 = .ok (.iaload, 1) := by decide +kernel
theorem dX4_workValue_21 : decode cX4_workValue 21 = .ok (.iadd, 1) := by decide +kernel
theorem dX4_workValue_22 : decode cX4_workValue 22 = .ok (.istore 5, 2) := by decide +kernel
theorem dX4_workValue_24 : decode cX4_workValue 24 = .ok (.iload_n 2, 1) := by decide +kernel
theorem dX4_workValue_25 : decode cX4_workValue 25 = .ok (.iload 4, 2) := by decide +kernel
theorem dX4_workValue_27 : decode cX4_workValue 27 = .ok (.if_icmp .lt 14, 3) := by decide +kernel
theorem dX4_workValue_30 : decode cX4_workValue 30 = .ok (.iload 5, 2) := by decide +kernel
theorem dX4_workValue_32 : decode cX4_workValue 32 = .ok (.aload_n 0, 1) := by decide +kernel
theorem dX4_workValue_33 : decode cX4_workValue 33 = .ok (.getfield 21, 3) := by decide +kernel
theorem dX4_workValue_36 : decode cX4_workValue 36 = .ok (.iload_n 1, 1) := by decide +kernel
theorem dX4_workValue_37 : decode cX4_workValue 37 = .ok (.iaload, 1) := by decide +kernel
theorem dX4_workValue_38 : decode cX4_workValue 38 = .ok (.isub, 1) := by decide +kernel
theorem dX4_workValue_39 : decode cX4_workValue 39 = .ok (.istore 5, 2) := by decide +kernel
theorem dX4_workValue_41 : decode cX4_workValue 41 = .ok (.iload 5, 2) := by decide +kernel
theorem dX4_workValue_43 : decode cX4_workValue 43 = .ok (.ireturn, 1) := by decide +kernel
set_option maxRecDepth 20000 in
theorem ggX4_isTaxed_X4_hasThing : GoodIn wsX4_isTaxed wsX4_hasThing := goodIn_r _ [6, 7, 8, 9, 10, 11, 12, 13, 14, 15, 16, 17] (by decide +kernel) (by decide +kernel)
set_option maxRecDepth 20000 in
theorem gX4_isTaxed_X4_hasThing : GoodIn wsX4_isTaxed (wsV RX4 63 RX4 yX4_hasThing wsX4_hasThing) := goodIn_app (goodIn_of _ (by decide +kernel)) ggX4_isTaxed_X4_hasThing
theorem dX4_isTaxed_0 : decode cX4_isTaxed 0 = .ok (.aload_n 0, 1) := by decide +kernel
theorem dX4_isTaxed_1 : decode cX4_isTaxed 1 = .ok (.iload_n 1, 1) := by decide +kernel
theorem dX4_isTaxed_2 : decode cX4_isTaxed 2 = .ok (.invokevirtual 63, 3) := by decide +kernel
theorem dX4_isTaxed_5 : decode cX4_isTaxed 5 = .ok (.ifCond .eq 27, 3) := by decide +kernel
theorem dX4_isTaxed_8 : decode cX4_isTaxed 8 = .ok (.aload_n 0, 1) := by decide +kernel
theorem dX4_isTaxed_9 : decode cX4_isTaxed 9 = .ok (.getfield 9, 3) := by decide +kernel
theorem dX4_isTaxed_12 : decode cX4_isTaxed 12 = .ok (.iload_n 1, 1) := by decide +kernel
theorem dX4_isTaxed_13 : decode cX4_isTaxed 13 = .ok (.iaload, 1) := by decide +kernel
theorem dX4_isTaxed_14 : decode cX4_isTaxed 14 = .ok (.iconst 1, 1) := by decide +kernel
theorem dX4_isTaxed_15 : decode cX4_isTaxed 15 = .ok (.if_icmp .eq 17, 3) := by decide +kernel
theorem dX4_isTaxed_18 : decode cX4_isTaxed 18 = .ok (.aload_n 0, 1) := by decide +kernel
theorem dX4_isTaxed_19 : decode cX4_isTaxed 19 = .ok (.getfield 9, 3) := by decide +kernel
theorem dX4_isTaxed_22 : decode cX4_isTaxed 22 = .ok (.iload_n 1, 1) := by decide +kernel
theorem dX4_isTaxed_23 : decode cX4_isTaxed 23 = .ok (.iaload, 1) := by decide +kernel
theorem dX4_isTaxed_24 : decode cX4_isTaxed 24 = .ok (.iconst 5, 1) := by decide +kernel
theorem dX4_isTaxed_25 : decode cX4_isTaxed 25 = .ok (.if_icmp .eq 7, 3) := by decide +kernel
theorem dX4_isTaxed_28 : decode cX4_isTaxed 28 = .ok (.iconst 1, 1) := by decide +kernel
theorem dX4_isTaxed_29 : decode cX4_isTaxed 29 = .ok (.goto 4, 3) := by decide +kernel
theorem dX4_isTaxed_32 : decode cX4_isTaxed 32 = .ok (.iconst 0, 1) := by decide +kernel
theorem dX4_isTaxed_33 : decode cX4_isTaxed 33 = .ok (.ireturn, 1) := by decide +kernel
