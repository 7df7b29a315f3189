set_option maxRecDepth 20000 in
theorem ggX5_init_X4_init : GoodIn wsX5_init wsX4_init := goodIn_r _ [32, 33, 2, 3, 26, 34, 35, 36, 37, 38, 39, 40, 41, 42, 43, 44, 45, 46, 47, 93, 94, 95, 96, 97, 98, 99, 100, 101, 102] (by decide +kernel) (by decide +kernel)
set_option maxRecDepth 20000 in
theorem gX5_init_X4_init : GoodIn wsX5_init (wsX4_init) := ggX5_init_X4_init
set_option maxRecDepth 20000 in
theorem ggX5_init_X3_init : GoodIn wsX5_init wsX3_init := goodIn_r _ [49, 50, 2, 3, 26, 51, 52, 53, 54, 55, 56, 5, 6, 57, 58, 31, 32, 33, 34, 35, 36, 37, 38, 39, 40, 41, 42, 43, 44, 45, 46, 47, 113, 114, 115, 116, 117, 118, 93, 94, 95, 96, 97, 98, 99, 100, 101, 102] (by decide +kernel) (by decide +kernel)
set_option maxRecDepth 20000 in
theorem gX5_init_X3_init_n25 : GoodIn wsX5_init (wsX3_init) := ggX5_init_X3_init
set_option maxRecDepth 20000 in
theorem ggX5_init_X1_init : GoodIn wsX5_init wsX1_init := goodIn_r _ [60, 61, 2, 3, 26, 62, 63, 64, 65, 66, 67, 68, 69, 70, 119, 120, 121, 122, 123, 124, 125, 126, 127] (by decide +kernel) (by decide +kernel)
set_option maxRecDepth 20000 in
theorem gX5_init_X1_init_n32 : GoodIn wsX5_init (wsX1_init) := ggX5_init_X1_init
set_option maxRecDepth 20000 in
theorem ggX5_init_X2_init : GoodIn wsX5_init wsX2_init := goodIn_r _ [72, 73, 2, 3, 74, 26, 75, 76, 77, 78, 79, 80, 128, 129, 130, 131, 132, 133] (by decide +kernel) (by decide +kernel)
set_option maxRecDepth 20000 in
theorem gX5_init_X2_init_n39 : GoodIn wsX5_init (wsX2_init) := ggX5_init_X2_init
set_option maxRecDepth 20000 in
theorem ggX5_init_X0_init : GoodIn wsX5_init wsX0_init := goodIn_r _ [82, 83, 2, 3, 26, 84, 85, 86, 87, 88, 89, 90, 91, 92, 134, 135, 136, 137, 138, 139] (by decide +kernel) (by decide +kernel)
set_option maxRecDepth 20000 in
theorem gX5_init_X0_init_n46 : GoodIn wsX5_init (wsX0_init) := ggX5_init_X0_init
theorem dX5_init_0 : decode cX5_init 0 = .ok (.aload_n 0, 1) := by decide +kernel
theorem dX5_init_1 : decode cX5_init 1 = .ok (.invokespecial 1, 3) := by decide +kernel
theorem dX5_init_4 : decode cX5_init 4 = .ok (.aload_n 0, 1) := by decide +kernel
theorem dX5_init_5 : decode cX5_init 5 = .ok (.new 7, 3) := by decide +kernel
theorem dX5_init_8 : decode cX5_init 8 = .ok (.dup, 1) := by decide +kernel
theorem dX5_init_9 : decode cX5_init 9 = .ok (.invokespecial 9, 3) := by decide +kernel
theorem dX5_init_12 : decode cX5_init 12 = .ok (.putfield 10, 3) := by decide +kernel
theorem dX5_init_15 : decode cX5_init 15 = .ok (.aload_n 0, 1) := by decide +kernel
theorem dX5_init_16 : decode cX5_init 16 = .ok (.new 7, 3) := by decide +kernel
theorem dX5_init_19 : decode cX5_init 19 = .ok (.dup, 1) := by decide +kernel
theorem dX5_init_20 : decode cX5_init 20 = .ok (.invokespecial 9, 3) := by decide +kernel
theorem dX5_init_23 : decode cX5_init 23 = .ok (.putfield 16, 3) := by decide +kernel
theorem dX5_init_26 : decode cX5_init 26 = .ok (.aload_n 0, 1) := by decide +kernel
theorem dX5_init_27 : decode cX5_init 27 = .ok (.iconst 0, 1) := by decide +kernel
theorem dX5_init_28 : decode cX5_init 28 = .ok (.putfield 19, 3) := by decide +kernel
theorem dX5_init_31 : decode cX5_init 31 = .ok (.aload_n 0, 1) := by decide +kernel
theorem dX5_init_32 : decode cX5_init 32 = .ok (.new 23, 3) := by decide +kernel
theorem dX5_init_35 : decode cX5_init 35 = .ok (.dup, 1) := by decide +kernel
theorem dX5_init_36 : decode cX5_init 36 = .ok (.invokespecial 25, 3) := by decide +kernel
theorem dX5_init_39 : decode cX5_init 39 = .ok (.putfield 26, 3) := by decide +kernel
theorem dX5_init_42 : decode cX5_init 42 = .ok (.aload_n 0, 1) := by decide +kernel
theorem dX5_init_43 : decode cX5_init 43 = .ok (.new 30, 3) := by decide +kernel
theorem dX5_init_46 : decode cX5_init 46 = .ok (.dup, 1) := by decide +kernel
theorem dX5_init_47 : decode cX5_init 47 = .ok (.invokespecial 32, 3) := by decide +kernel
theorem dX5_init_50 : decode cX5_init 50 = .ok (.putfield 33, 3) := by decide +kernel
theorem dX5_init_53 : decode cX5_init 53 = .ok (.aload_n 0, 1) := by decide +kernel
theorem dX5_init_54 : decode cX5_init 54 = .ok (.new 37, 3) := by decide +kernel
theorem dX5_init_57 : decode cX5_init 57 = .ok (.dup, 1) := by decide +kernel
theorem dX5_init_58 : decode cX5_init 58 = .ok (.invokespecial 39, 3) := by decide +kernel
theorem dX5_init_61 : decode cX5_init 61 = .ok (.putfield 40, 3) := by decide +kernel
theorem dX5_init_64 : decode cX5_init 64 = .ok (.aload_n 0, 1) := by decide +kernel
theorem dX5_init_65 : decode cX5_init 65 = .ok (.new 44, 3) := by decide +kernel
theorem dX5_init_68 : decode cX5_init 68 = .ok (.dup, 1) := by decide +kernel
theorem dX5_init_69 : decode cX5_init 69 = .ok (.invokespecial 46, 3) := by decide +kernel
theorem dX5_init_72 : decode cX5_init 72 = .ok (.putfield 47, 3) := by decide +kernel
theorem dX5_init_75 : decode cX5_init 75 = .ok (.aload_n 0, 1) := by decide +kernel
theorem dX5_init_76 : decode cX5_init 76 = .ok (.bipush 20, 2) := by decide +kernel
theorem dX5_init_78 : decode cX5_init 78 = .ok (.newarray .int, 2) := by decide +kernel
theorem dX5_init_80 : decode cX5_init 80 = .ok (.putfield 51, 3) := by decide +kernel
theorem dX5_init_83 : decode cX5_init 83 = .ok (.aload_n 0, 1) := by decide +kernel
theorem dX5_init_84 : decode cX5_init 84 = .ok (.iconst 0, 1) := by decide +kernel
theorem dX5_init_85 : decode cX5_init 85 = .ok (.putfield 55, 3) := by decide +kernel
theorem dX5_init_88 : decode cX5_init 88 = .ok (.aload_n 0, 1) := by decide +kernel
theorem dX5_init_89 : decode cX5_init 89 = .ok (.bipush 7, 2) := by decide +kernel
theorem dX5_init_91 : decode cX5_init 91 = .ok (.newarray .int, 2) := by decide +kernel
theorem dX5_init_93 : decode cX5_init 93 = .ok (.putfield 59, 3) := by decide +kernel
theorem dX5_init_96 : decode cX5_init 96 = .ok (.return_, 1) := by decide +kernel
set_option maxRecDepth 20000 in
theorem ggX5_letter_X5_refuse : GoodIn wsX5_letter wsX5_refuse := goodIn_r _ [6, 7, 20, 21, 22, 23, 24, 25, 26, 27, 28, 29] (by decide +kernel) (by decide +kernel)
set_option maxRecDepth 20000 in
theorem gX5_letter_X5_refuse : GoodIn wsX5_letter (wsV RX5 62 RX5 yX5_refuse wsX5_refuse) := goodIn_app (goodIn_of _ (by decide +kernel)) ggX5_letter_X5_refuse
set_option maxRecDepth 20000 in
theorem ggX5_letter_X3_isFull : GoodIn wsX5_letter wsX3_isFull := goodIn_r _ [12, 13, 14, 30, 31, 32, 33, 34, 35] (by decide +kernel) (by decide +kernel)
set_option maxRecDepth 20000 in
theorem gX5_letter_X3_isFull : GoodIn wsX5_letter (wsV RX5 66 RX3 yX3_isFull wsX3_isFull) := goodIn_app (goodIn_of _ (by decide +kernel)) ggX5_letter_X3_isFull
set_option maxRecDepth 20000 in
theorem ggX5_letter_X3_append : GoodIn wsX5_letter wsX3_append := goodIn_r _ [18, 14, 13, 19, 9, 10, 11, 12, 30, 31, 32, 33, 34, 35] (by decide +kernel) (by decide +kernel)
set_option maxRecDepth 20000 in
theorem gX5_letter_X3_append : GoodIn wsX5_letter (wsV RX5 70 RX3 yX3_append wsX3_append) := goodIn_app (goodIn_of _ (by decide +kernel)) ggX5_letter_X3_append
theorem dX5_letter_0 : decode cX5_letter 0 = .ok (.iload_n 1, 1) := by decide +kernel
theorem dX5_letter_1 : decode cX5_letter 1 = .ok (.ifCond .ge 10, 3) := by decide +kernel
theorem dX5_letter_4 : decode cX5_letter 4 = .ok (.aload_n 0, 1) := by decide +kernel
theorem dX5_letter_5 : decode cX5_letter 5 = .ok (.bipush (-4), 2) := by decide +kernel
theorem dX5_letter_7 : decode cX5_letter 7 = .ok (.invokevirtual 62, 3) := by decide +kernel
theorem dX5_letter_10 : decode cX5_letter 10 = .ok (.ireturn, 1) := by decide +kernel
theorem dX5_letter_11 : decode cX5_letter 11 = .ok (.iload_n 1, 1) := by decide +kernel
theorem dX5_letter_12 : decode cX5_letter 12 = .ok (.sipush 255, 3) := by decide +kernel
theorem dX5_letter_15 : decode cX5_letter 15 = .ok (.if_icmp .gt 13, 3) := by decide +kernel
theorem dX5_letter_18 : decode cX5_letter 18 = .ok (.aload_n 0, 1) := by decide +kernel
theorem dX5_letter_19 : decode cX5_letter 19 = .ok (.getfield 26, 3) := by decide +kernel
theorem dX5_letter_22 : decode cX5_letter 22 = .ok (.invokevirtual 66, 3) := by decide +kernel
theorem dX5_letter_25 : decode cX5_letter 25 = .ok (.ifCond .eq 10, 3) := by decide +kernel
theorem dX5_letter_28 : decode cX5_letter 28 = .ok (.aload_n 0, 1) := by decide +kernel
theorem dX5_letter_29 : decode cX5_letter 29 = .ok (.bipush (-6), 2) := by decide +kernel
theorem dX5_letter_31 : decode cX5_letter 31 = .ok (.invokevirtual 62, 3) := by decide +kernel
theorem dX5_letter_34 : decode cX5_letter 34 = .ok (.ireturn, 1) := by decide +kernel
theorem dX5_letter_35 : decode cX5_letter 35 = .ok (.aload_n 0, 1) := by decide +kernel
theorem dX5_letter_36 : decode cX5_letter 36 = .ok (.getfield 26, 3) := by decide +kernel
theorem dX5_letter_39 : decode cX5_letter 39 = .ok (.iload_n 1, 1) := by decide +kernel
theorem dX5_letter_40 : decode cX5_letter 40 = .ok (.invokevirtual 70, 3) := by decide +kernel
theorem dX5_letter_43 : decode cX5_letter 43 = .ok (.ireturn, 1) := by decide +kernel
set_option maxRecDepth 20000 in
theorem ggX5_land_X3_becomeLand : GoodIn wsX5_land wsX3_becomeLand := goodIn_r _ [7, 8, 9, 10, 11, 12, 13, 6, 14, 15, 16, 17, 18, 19, 20, 21, 22, 23, 24, 25, 26, 27, 28, 29, 30, 31, 32, 33, 34, 35, 36, 37, 38, 39, 40, 41, 42, 43, 44, 45, 46, 47, 48, 49, 50, 51, 52, 53, 54, 55, 56, 57, 58, 59, 60, 61, 62, 63, 64, 65, 66, 67, 68, 69, 70, 71, 72, 73, 74, 75, 76, 77, 78, 79, 80, 81, 82, 83, 84, 85, 86, 87, 88, 89, 90, 91, 92, 93, 94, 95, 96, 97, 98, 99, 100, 101, 102, 103, 104, 105, 106, 107, 108, 109, 110, 111, 112, 113, 114, 115, 116, 117, 118, 119, 120, 121, 122, 123, 124, 125, 126, 127, 128, 129, 130, 131, 132, 133, 134, 135, 136, 137, 138, 139, 140, 141, 142, 143, 144, 145, 146, 147, 148, 149, 150, 151, 152, 153, 154, 155, 156, 157, 158, 159, 160, 161, 162, 163, 164, 165, 166, 167, 168, 169, 170, 171, 172, 173, 174, 175, 176, 177, 178, 179, 180, 181, 182, 183, 184, 185, 186, 187, 188, 189, 190, 191, 192, 193, 194, 195, 196, 197, 198, 199, 200, 201, 202, 203, 204, 205, 206, 207, 218, 219, 220, 221, 222, 223, 224, 225, 226, 227, 228, 229, 230, 231, 232, 233] (by decide +kernel) (by decide +kernel)
set_option maxRecDepth 20000 in
theorem gX5_land_X3_becomeLand : GoodIn wsX5_land (wsV RX5 73 RX3 yX3_becomeLand wsX3_becomeLand) := goodIn_app (goodIn_of _ (by decide +kernel)) ggX5_land_X3_becomeLand
theorem dX5_land_0 : decode cX5_land 0 = .ok (.aload_n 0, 1) := by decide +kernel
theorem dX5_land_1 : decode cX5_land 1 = .ok (.getfield 26, 3) := by decide +kernel
theorem dX5_land_4 : decode cX5_land 4 = .ok (.aload_n 0, 1) := by decide +kernel
theorem dX5_land_5 : decode cX5_land 5 = .ok (.getfield 10, 3) := by decide +kernel
theorem dX5_land_8 : decode cX5_land 8 = .ok (.invokevirtual 73, 3) := by decide +kernel
theorem dX5_land_11 : decode cX5_land 11 = .ok (.ireturn, 1) := by decide +kernel
set_option maxRecDepth 20000 in
theorem ggX5_thing_X4_hasThing : GoodIn wsX5_thing wsX4_hasThing := goodIn_r _ [10, 11, 28, 29, 30, 31, 32, 33, 34, 35, 36, 37] (by decide +kernel) (by decide +kernel)
set_option maxRecDepth 20000 in
theorem gX5_thing_X4_hasThing : GoodIn wsX5_thing (wsV RX5 77 RX4 yX4_hasThing wsX4_hasThing) := goodIn_app (goodIn_of _ (by decide +kernel)) ggX5_thing_X4_hasThing
set_option maxRecDepth 20000 in
theorem ggX5_thing_X5_refuse : GoodIn wsX5_thing wsX5_refuse := goodIn_r _ [16, 17, 18, 19, 20, 21, 22, 23, 24, 25, 26, 27] (by decide +kernel) (by decide +kernel)
set_option maxRecDepth 20000 in
theorem gX5_thing_X5_refuse : GoodIn wsX5_thing (wsV RX5 62 RX5 yX5_refuse wsX5_refuse) := goodIn_app (goodIn_of _ (by decide +kernel)) ggX5_thing_X5_refuse
theorem dX5_thing_0 : decode cX5_thing 0 = .ok (.aload_n 0, 1) := by decide +kernel
theorem dX5_thing_1 : decode cX5_thing 1 = .ok (.getfield 10, 3) := by decide +kernel
theorem dX5_thing_4 : decode cX5_thing 4 = .ok (.iload_n 1, 1) := by decide +kernel
theorem dX5_thing_5 : decode cX5_thing 5 = .ok (.invokevirtual 77, 3) := by decide +kernel
theorem dX5_thing_8 : decode cX5_thing 8 = .ok (.ifCond .ne 9, 3) := by decide +kernel
theorem dX5_thing_11 : decode cX5_thing 11 = .ok (.aload_n 0, 1) := by decide +kernel
theorem dX5_thing_12 : decode cX5_thing 12 = .ok (.iconst (-1), 1) := by decide +kernel
theorem dX5_thing_13 : decode cX5_thing 13 = .ok (.invokevirtual 62, 3) := by decide +kernel
theorem dX5_thing_16 : decode cX5_thing 16 = .ok (.ireturn, 1) := by decide +kernel
theorem dX5_thing_17 : decode cX5_thing 17 = .ok (.iload_n 2, 1) := by decide +kernel
theorem dX5_thing_18 : decode cX5_thing 18 = .ok (.tableswitch 70 0 3 #[30, 40, 50, 60], 30) := by decide +kernel
theorem dX5_thing_48 : decode cX5_thing 48 = .ok (.aload_n 0, 1) := by decide +kernel
theorem dX5_thing_49 : decode cX5_thing 49 = .ok (.getfield 10, 3) := by decide +kernel
theorem dX5_thing_52 : decode cX5_thing 52 = .ok (.getfield 81, 3) := by decide +kernel
theorem dX5_thing_55 : decode cX5_thing 55 = .ok (.iload_n 1, 1) := by decide +kernel
theorem dX5_thing_56 : decode cX5_thing 56 = .ok (.iaload, 1) := by decide +kernel
theorem dX5_thing_57 : decode cX5_thing 57 = .ok (.ireturn, 1) := by decide +kernel
theorem dX5_thing_58 : decode cX5_thing 58 = .ok (.aload_n 0, 1) := by decide +kernel
theorem dX5_thing_59 : decode cX5_thing 59 = .ok (.getfield 10, 3) := by decide +kernel
theorem dX5_thing_62 : decode cX5_thing 62 = .ok (.getfield 84, 3) := by decide +kernel
theorem dX5_thing_65 : decode cX5_thing 65 = .ok (.iload_n 1, 1) := by decide +kernel
theorem dX5_thing_66 : decode cX5_thing 66 = .ok (.iaload, 1) := by decide +kernel
theorem dX5_thing_67 : decode cX5_thing 67 = .ok (.ireturn, 1) := by decide +kernel
theorem dX5_thing_68 : decode cX5_thing 68 = .ok (.aload_n 0, 1) := by decide +kernel
theorem dX5_thing_69 : decode cX5_thing 69 = .ok (.getfield 10, 3) := by decide +kernel
theorem dX5_thing_72 : decode cX5_thing 72 = .ok (.getfield 87, 3) := by decide +kernel
theorem dX5_thing_75 : decode cX5_thing 75 = .ok (.iload_n 1, 1) := by decide +kernel
theorem dX5_thing_76 : decode cX5_thing 76 = .ok (.iaload, 1) := by decide +kernel
theorem dX5_thing_77 : decode cX5_thing 77 = .ok (.ireturn, 1) := by decide +kernel
theorem dX5_thing_78 : decode cX5_thing 78 = .ok (.aload_n 0, 1) := by decide +kernel
theorem dX5_thing_79 : decode cX5_thing 79 = .ok (.getfield 10, 3) := by decide +kernel
theorem dX5_thing_82 : decode cX5_thing 82 = .ok (.getfield 90, 3) := by decide +kernel
theorem dX5_thing_85 : decode cX5_thing 85 = .ok (.iload_n 1, 1) := by decide +kernel
theorem dX5_thing_86 : decode cX5_thing 86 = .ok (.iaload, 1) := by decide +kernel
theorem dX5_thing_87 : decode cX5_thing 87 = .ok (.ireturn, 1) := by decide +kernel
theorem dX5_thing_88 : decode cX5_thing 88 = .ok (.aload_n 0, 1) := by decide +kernel
theorem dX5_thing_89 : decode cX5_thing 89 = .ok (.bipush (-2), 2) := by decide +kernel
theorem dX5_thing_91 : decode cX5_thing 91 = .ok (.invokevirtual 62, 3) := by decide +kernel
theorem dX5_thing_94 : decode cX5_thing 94 = .ok (.ireturn, 1) := by decide +kernel
set_option maxRecDepth 20000 in
theorem ggX5_does_X4_hasDay : GoodIn wsX5_does wsX4_hasDay := goodIn_r _ [7, 8, 35, 36, 37, 38, 39, 40, 41, 42, 43, 44] (by decide +kernel) (by decide +kernel)
set_option maxRecDepth 20000 in
theorem gX5_does_X4_hasDay : GoodIn wsX5_does (wsV RX5 93 RX4 yX4_hasDay wsX4_hasDay) := goodIn_app (goodIn_of _ (by decide +kernel)) ggX5_does_X4_hasDay
set_option maxRecDepth 20000 in
theorem ggX5_does_X4_hasThing : GoodIn wsX5_does wsX4_hasThing := goodIn_r _ [12, 13, 35, 36, 37, 38, 39, 40, 41, 42, 43, 44] (by decide +kernel) (by decide +kernel)
set_option maxRecDepth 20000 in
theorem gX5_does_X4_hasThing : GoodIn wsX5_does (wsV RX5 77 RX4 yX4_hasThing wsX4_hasThing) := goodIn_app (goodIn_of _ (by decide +kernel)) ggX5_does_X4_hasThing
set_option maxRecDepth 20000 in
theorem ggX5_does_X5_refuse : GoodIn wsX5_does wsX5_refuse := goodIn_r _ [18, 19, 25, 26, 27, 28, 29, 30, 31, 32, 33, 34] (by decide +kernel) (by decide +kernel)
set_option maxRecDepth 20000 in
theorem gX5_does_X5_refuse : GoodIn wsX5_does (wsV RX5 62 RX5 yX5_refuse wsX5_refuse) := goodIn_app (goodIn_of _ (by decide +kernel)) ggX5_does_X5_refuse
set_option maxRecDepth 20000 in
theorem ggX5_does_X4_isBoundElse : GoodIn wsX5_does wsX4_isBoundElse := goodIn_r _ [23, 24, 35, 36, 37, 38, 39, 40, 41, 42, 43, 44] (by decide +kernel) (by decide +kernel)
set_option maxRecDepth 20000 in
theorem gX5_does_X4_isBoundElse : GoodIn wsX5_does (wsV RX5 96 RX4 yX4_isBoundElse wsX4_isBoundElse) := goodIn_app (goodIn_of _ (by decide +kernel)) ggX5_does_X4_isBoundElse
theorem dX5_does_0 : decode cX5_does 0 = .ok (.aload_n 0, 1) := by decide +kernel
theorem dX5_does_1 : decode cX5_does 1 = .ok (.getfield 10, 3) := by decide +kernel
theorem dX5_does_4 : decode cX5_does 4 = .ok (.iload_n 1, 1) := by decide +kernel
theorem dX5_does_5 : decode cX5_does 5 = .ok (.invokevirtual 93, 3) := by decide +kernel
theorem dX5_does_8 : decode cX5_does 8 = .ok (.ifCond .eq 14, 3) := by decide +kernel
theorem dX5_does_11 : decode cX5_does 11 = .ok (.aload_n 0, 1) := by decide +kernel
theorem dX5_does_12 : decode cX5_does 12 = .ok (.getfield 10, 3) := by decide +kernel
theorem dX5_does_15 : decode cX5_does 15 = .ok (.iload_n 2, 1) := by decide +kernel
theorem dX5_does_16 : decode cX5_does 16 = .ok (.invokevirtual 77, 3) := by decide +kernel
theorem dX5_does_19 : decode cX5_does 19 = .ok (.ifCond .ne 9, 3) := by decide +kernel
theorem dX5_does_22 : decode cX5_does 22 = .ok (.aload_n 0, 1) := by decide +kernel
theorem dX5_does_23 : decode cX5_does 23 = .ok (.iconst (-1), 1) := by decide +kernel
theorem dX5_does_24 : decode cX5_does 24 = .ok (.invokevirtual 62, 3) := by decide +kernel
theorem dX5_does_27 : decode cX5_does 27 = .ok (.ireturn, 1) := by decide +kernel
theorem dX5_does_28 : decode cX5_does 28 = .ok (.aload_n 0, 1) := by decide +kernel
theorem dX5_does_29 : decode cX5_does 29 = .ok (.getfield 10, 3) := by decide +kernel
theorem dX5_does_32 : decode cX5_does 32 = .ok (.iload_n 1, 1) := by decide +kernel
theorem dX5_does_33 : decode cX5_does 33 = .ok (.iload_n 2, 1) := by decide +kernel
theorem dX5_does_34 : decode cX5_does 34 = .ok (.invokevirtual 96, 3) := by decide +kernel
theorem dX5_does_37 : decode cX5_does 37 = .ok (.ifCond .eq 10, 3) := by decide +kernel
theorem dX5_does_40 : decode cX5_does 40 = .ok (.aload_n 0, 1) := by decide +kernel
theorem dX5_does_41 : decode cX5_does 41 = .ok (.bipush (-3), 2) := by decide +kernel
theorem dX5_does_43 : decode cX5_does 43 = .ok (.invokevirtual 62, 3) := by decide +kernel
theorem dX5_does_46 : decode cX5_does 46 = .ok (.ireturn, 1) := by decide +kernel
theorem dX5_does_47 : decode cX5_does 47 = .ok (.aload_n 0, 1) := by decide +kernel
theorem dX5_does_48 : decode cX5_does 48 = .ok (.getfield 10, 3) := by decide +kernel
theorem dX5_does_51 : decode cX5_does 51 = .ok (.getfield 100, 3) := by decide +kernel
theorem dX5_does_54 : decode cX5_does 54 = .ok (.iload_n 1, 1) := by decide +kernel
theorem dX5_does_55 : decode cX5_does 55 = .ok (.iaload, 1) := by decide +kernel
theorem dX5_does_56 : decode cX5_does 56 = .ok (.istore_n 3, 1) := by decide +kernel
theorem dX5_does_57 : decode cX5_does 57 = .ok (.aload_n 0, 1) := by decide +kernel
theorem dX5_does_58 : decode cX5_does 58 = .ok (.getfield 10, 3) := by decide +kernel
theorem dX5_does_61 : decode cX5_does 61 = .ok (.getfield 100, 3) := by decide +kernel
theorem dX5_does_64 : decode cX5_does 64 = .ok (.iload_n 1, 1) := by decide +kernel
theorem dX5_does_65 : decode cX5_does 65 = .ok (.iload_n 2, 1) := by decide +kernel
theorem dX5_does_66 : decode cX5_does 66 = .ok (.iastore, 1) := by decide +kernel
theorem dX5_does_67 : decode cX5_does 67 = .ok (.iload_n 3, 1) := by decide +kernel
theorem dX5_does_68 : decode cX5_does 68 = .ok (.ireturn, 1) := by decide +kernel
set_option maxRecDepth 20000 in
theorem ggX5_bind_X4_hasDay : GoodIn wsX5_bind wsX4_hasDay := goodIn_r _ [7, 8, 40, 41, 42, 43, 44, 45, 46, 47, 48, 49] (by decide +kernel) (by decide +kernel)
set_option maxRecDepth 20000 in
theorem gX5_bind_X4_hasDay : GoodIn wsX5_bind (wsV RX5 93 RX4 yX4_hasDay wsX4_hasDay) := goodIn_app (goodIn_of _ (by decide +kernel)) ggX5_bind_X4_hasDay
set_option maxRecDepth 20000 in
theorem ggX5_bind_X4_hasThing : GoodIn wsX5_bind wsX4_hasThing := goodIn_r _ [12, 13, 40, 41, 42, 43, 44, 45, 46, 47, 48, 49] (by decide +kernel) (by decide +kernel)
set_option maxRecDepth 20000 in
theorem gX5_bind_X4_hasThing : GoodIn wsX5_bind (wsV RX5 77 RX4 yX4_hasThing wsX4_hasThing) := goodIn_app (goodIn_of _ (by decide +kernel)) ggX5_bind_X4_hasThing
set_option maxRecDepth 20000 in
theorem ggX5_bind_X5_refuse : GoodIn wsX5_bind wsX5_refuse := goodIn_r _ [18, 19, 30, 31, 32, 33, 34, 35, 36, 37, 38, 39] (by decide +kernel) (by decide +kernel)
set_option maxRecDepth 20000 in
theorem gX5_bind_X5_refuse : GoodIn wsX5_bind (wsV RX5 62 RX5 yX5_refuse wsX5_refuse) := goodIn_app (goodIn_of _ (by decide +kernel)) ggX5_bind_X5_refuse
set_option maxRecDepth 20000 in
theorem ggX5_bind_X4_unbindDay : GoodIn wsX5_bind wsX4_unbindDay := goodIn_r _ [23, 24, 40, 41, 42, 43, 44, 45, 46, 47, 48, 49] (by decide +kernel) (by decide +kernel)
set_option maxRecDepth 20000 in
theorem gX5_bind_X4_unbindDay : GoodIn wsX5_bind (wsV RX5 106 RX4 yX4_unbindDay wsX4_unbindDay) := goodIn_app (goodIn_of _ (by decide +kernel)) ggX5_bind_X4_unbindDay
set_option maxRecDepth 20000 in
theorem ggX5_bind_X4_bindDay : GoodIn wsX5_bind wsX4_bindDay := goodIn_r _ [28, 24, 29, 40, 41, 42, 43, 44, 45, 46, 47, 48, 49] (by decide +kernel) (by decide +kernel)
set_option maxRecDepth 20000 in
theorem gX5_bind_X4_bindDay : GoodIn wsX5_bind (wsV RX5 110 RX4 yX4_bindDay wsX4_bindDay) := goodIn_app (goodIn_of _ (by decide +kernel)) ggX5_bind_X4_bindDay
theorem dX5_bind_0 : decode cX5_bind 0 = .ok (.aload_n 0, 1) := by decide +kernel
theorem dX5_bind_1 : decode cX5_bind 1 = .ok (.getfield 10, 3) := by decide +kernel
theorem dX5_bind_4 : decode cX5_bind 4 = .ok (.iload_n 1, 1) := by decide +kernel
theorem dX5_bind_5 : decode cX5_bind 5 = .ok (.invokevirtual 93, 3) := by decide +kernel
theorem dX5_bind_8 : decode cX5_bind 8 = .ok (.ifCond .eq 19, 3) := by decide +kernel
theorem dX5_bind_11 : decode cX5_bind 11 = .ok (.iload_n 2, 1) := by decide +kernel
theorem dX5_bind_12 : decode cX5_bind 12 = .ok (.iconst (-1), 1) := by decide +kernel
theorem dX5_bind_13 : decode cX5_bind 13 = .ok (.if_icmp .eq 20, 3) := by decide +kernel
theorem dX5_bind_16 : decode cX5_bind 16 = .ok (.aload_n 0, 1) := by decide +kernel
theorem dX5_bind_17 : decode cX5_bind 17 = .ok (.getfield 10, 3) := by decide +kernel
theorem dX5_bind_20 : decode cX5_bind 20 = .ok (.iload_n 2, 1) := by decide +kernel
theorem dX5_bind_21 : decode cX5_bind 21 = .ok (.invokevirtual 77, 3) := by decide +kernel
theorem dX5_bind_24 : decode cX5_bind 24 = .ok (.ifCond .ne 9, 3) := by decide +kernel
theorem dX5_bind_27 : decode cX5_bind 27 = .ok (.aload_n 0, 1) := by decide +kernel
theorem dX5_bind_28 : decode cX5_bind 28 = .ok (.iconst (-1), 1) := by decide +kernel
theorem dX5_bind_29 : decode cX5_bind 29 = .ok (.invokevirtual 62, 3) := by decide +kernel
theorem dX5_bind_32 : decode cX5_bind 32 = .ok (.ireturn, 1) := by decide +kernel
theorem dX5_bind_33 : decode cX5_bind 33 = .ok (.aload_n 0, 1) := by decide +kernel
theorem dX5_bind_34 : decode cX5_bind 34 = .ok (.getfield 10, 3) := by decide +kernel
theorem dX5_bind_37 : decode cX5_bind 37 = .ok (.getfield 103, 3) := by decide +kernel
theorem dX5_bind_40 : decode cX5_bind 40 = .ok (.iload_n 1, 1) := by decide +kernel
theorem dX5_bind_41 : decode cX5_bind 41 = .ok (.iaload, 1) := by decide +kernel
theorem dX5_bind_42 : decode cX5_bind 42 = .ok (.istore_n 3, 1) := by decide +kernel
theorem dX5_bind_43 : decode cX5_bind 43 = .ok (.iload_n 2, 1) := by decide +kernel
theorem dX5_bind_44 : decode cX5_bind 44 = .ok (.iconst (-1), 1) := by decide +kernel
theorem dX5_bind_45 : decode cX5_bind 45 = .ok (.if_icmp .ne 14, 3) := by decide +kernel
theorem dX5_bind_48 : decode cX5_bind 48 = .ok (.aload_n 0, 1) := by decide +kernel
theorem dX5_bind_49 : decode cX5_bind 49 = .ok (.getfield 10, 3) := by decide +kernel
theorem dX5_bind_52 : decode cX5_bind 52 = .ok (.iload_n 1, 1) := by decide +kernel
theorem dX5_bind_53 : decode cX5_bind 53 = .ok (.invokevirtual 106, 3) := by decide +kernel
theorem dX5_bind_56 : decode cX5_bind 56 = .ok (.goto 12, 3) := by decide +kernel
theorem dX5_bind_59 : decode cX5_bind 59 = .ok (.aload_n 0, 1) := by decide +kernel
theorem dX5_bind_60 : decode cX5_bind 60 = .ok (.getfield 10, 3) := by decide +kernel
theorem dX5_bind_63 : decode cX5_bind 63 = .ok (.iload_n 1, 1) := by decide +kernel
theorem dX5_bind_64 : decode cX5_bind 64 = .ok (.iload_n 2, 1) := by decide +kernel
theorem dX5_bind_65 : decode cX5_bind 65 = .ok (.invokevirtual 110, 3) := by decide +kernel
theorem dX5_bind_68 : decode cX5_bind 68 = .ok (.iload_n 3, 1) := by decide +kernel
theorem dX5_bind_69 : decode cX5_bind 69 = .ok (.ireturn, 1) := by decide +kernel
set_option maxRecDepth 20000 in
theorem ggX5_done_X4_hasDay : GoodIn wsX5_done wsX4_hasDay := goodIn_r _ [7, 8, 25, 26, 27, 28, 29, 30, 31, 32, 33, 34] (by decide +kernel) (by decide +kernel)
set_option maxRecDepth 20000 in
theorem gX5_done_X4_hasDay : GoodIn wsX5_done (wsV RX5 93 RX4 yX4_hasDay wsX4_hasDay) := goodIn_app (goodIn_of _ (by decide +kernel)) ggX5_done_X4_hasDay
set_option maxRecDepth 20000 in
theorem ggX5_done_X5_refuse : GoodIn wsX5_done wsX5_refuse := goodIn_r _ [13, 14, 15, 16, 17, 18, 19, 20, 21, 22, 23, 24] (by decide +kernel) (by decide +kernel)
set_option maxRecDepth 20000 in
theorem gX5_done_X5_refuse : GoodIn wsX5_done (wsV RX5 62 RX5 yX5_refuse wsX5_refuse) := goodIn_app (goodIn_of _ (by decide +kernel)) ggX5_done_X5_refuse
theorem dX5_done_0 : decode cX5_done 0 = .ok (.aload_n 0, 1) := by decide +kernel
theorem dX5_done_1 : decode cX5_done 1 = .ok (.getfield 10, 3) := by decide +kernel
theorem dX5_done_4 : decode cX5_done 4 = .ok (.iload_n 1, 1) := by decide +kernel
theorem dX5_done_5 : decode cX5_done 5 = .ok (.invokevirtual 93, 3) := by decide +kernel
theorem dX5_done_8 : decode cX5_done 8 = .ok (.ifCond .eq 15, 3) := by decide +kernel
theorem dX5_done_11 : decode cX5_done 11 = .ok (.aload_n 0, 1) := by decide +kernel
theorem dX5_done_12 : decode cX5_done 12 = .ok (.getfield 10, 3) := by decide +kernel
theorem dX5_done_15 : decode cX5_done 15 = .ok (.getfield 100, 3) := by decide +kernel
theorem dX5_done_18 : decode cX5_done 18 = .ok (.iload_n 1, 1) := by decide +kernel
theorem dX5_done_19 : decode cX5_done 19 = .ok (.iaload, 1) := by decide +kernel
theorem dX5_done_20 : decode cX5_done 20 = .ok (.goto 8, 3) := by decide +kernel
theorem dX5_done_23 : decode cX5_done 23 = .ok (.aload_n 0, 1) := by decide +kernel
theorem dX5_done_24 : decode cX5_done 24 = .ok (.iconst (-1), 1) := by decide +kernel
theorem dX5_done_25 : decode cX5_done 25 = .ok (.invokevirtual 62, 3) := by decide +kernel
theorem dX5_done_28 : decode cX5_done 28 = .ok (.ireturn, 1) := by decide +kernel
set_option maxRecDepth 20000 in
theorem ggX5_change_X5_refuse : GoodIn wsX5_change wsX5_refuse := goodIn_r _ [7, 8, 9, 10, 11, 12, 13, 14, 15, 16, 17, 18] (by decide +kernel) (by decide +kernel)
set_option maxRecDepth 20000 in
theorem gX5_change_X5_refuse : GoodIn wsX5_change (wsV RX5 62 RX5 yX5_refuse wsX5_refuse) := goodIn_app (goodIn_of _ (by decide +kernel)) ggX5_change_X5_refuse
theorem dX5_change_0 : decode cX5_change 0 = .ok (.iload_n 1, 1) := by decide +kernel
theorem dX5_change_1 : decode cX5_change 1 = .ok (.ifCond .ge 10, 3) := by decide +kernel
theorem dX5_change_4 : decode cX5_change 4 = .ok (.aload_n 0, 1) := by decide +kernel
theorem dX5_change_5 : decode cX5_change 5 = .ok (.bipush (-4), 2) := by decide +kernel
theorem dX5_change_7 : decode cX5_change 7 = .ok (.invokevirtual 62, 3) := by decide +kernel
theorem dX5_change_10 : decode cX5_change 10 = .ok (.ireturn, 1) := by decide +kernel
theorem dX5_change_11 : decode cX5_change 11 = .ok (.iload_n 1, 1) := by decide +kernel
theorem dX5_change_12 : decode cX5_change 12 = .ok (.bipush 9, 2) := by decide +kernel
theorem dX5_change_14 : decode cX5_change 14 = .ok (.if_icmp .le 10, 3) := by decide +kernel
theorem dX5_change_17 : decode cX5_change 17 = .ok (.aload_n 0, 1) := by decide +kernel
theorem dX5_change_18 : decode cX5_change 18 = .ok (.bipush (-6), 2) := by decide +kernel
theorem dX5_change_20 : decode cX5_change 20 = .ok (.invokevirtual 62, 3) := by decide +kernel
theorem dX5_change_23 : decode cX5_change 23 = .ok (.ireturn, 1) := by decide +kernel
theorem dX5_change_24 : decode cX5_change 24 = .ok (.aload_n 0, 1) := by decide +kernel
theorem dX5_change_25 : decode cX5_change 25 = .ok (.getfield 10, 3) := by decide +kernel
theorem dX5_change_28 : decode cX5_change 28 = .ok (.getfield 114, 3) := by decide +kernel
theorem dX5_change_31 : decode cX5_change 31 = .ok (.istore_n 2, 1) := by decide +kernel
theorem dX5_change_32 : decode cX5_change 32 = .ok (.aload_n 0, 1) := by decide +kernel
theorem dX5_change_33 : decode cX5_change 33 = .ok (.getfield 10, 3) := by decide +kernel
theorem dX5_change_36 : decode cX5_change 36 = .ok (.iload_n 1, 1) := by decide +kernel
theorem dX5_change_37 : decode cX5_change 37 = .ok (.putfield 114, 3) := by decide +kernel
theorem dX5_change_40 : decode cX5_change 40 = .ok (.iload_n 2, 1) := by decide +kernel
theorem dX5_change_41 : decode cX5_change 41 = .ok (.ireturn, 1) := by decide +kernel
set_option maxRecDepth 20000 in
theorem ggX5_law_X5_isLaw : GoodIn wsX5_law wsX5_isLaw := goodIn_r _ [6] (by decide +kernel) (by decide +kernel)
set_option maxRecDepth 20000 in
theorem gX5_law_X5_isLaw : GoodIn wsX5_law (va_wsS RX5 117 yX5_isLaw wsX5_isLaw) := goodIn_app (goodIn_of _ (by decide +kernel)) ggX5_law_X5_isLaw
set_option maxRecDepth 20000 in
theorem ggX5_law_X5_refuse : GoodIn wsX5_law wsX5_refuse := goodIn_r _ [10, 11, 12, 13, 14, 15, 16, 17, 18, 19, 20, 21] (by decide +kernel) (by decide +kernel)
set_option maxRecDepth 20000 in
theorem gX5_law_X5_refuse : GoodIn wsX5_law (wsV RX5 62 RX5 yX5_refuse wsX5_refuse) := goodIn_app (goodIn_of _ (by decide +kernel)) ggX5_law_X5_refuse
theorem dX5_law_0 : decode cX5_law 0 = .ok (.iload_n 1, 1) := by decide +kernel
theorem dX5_law_1 : decode cX5_law 1 = .ok (.invokestatic 117, 3) := by decide +kernel
theorem dX5_law_4 : decode cX5_law 4 = .ok (.ifCond .ne 10, 3) := by decide +kernel
theorem dX5_law_7 : decode cX5_law 7 = .ok (.aload_n 0, 1) := by decide +kernel
theorem dX5_law_8 : decode cX5_law 8 = .ok (.bipush (-2), 2) := by decide +kernel
theorem dX5_law_10 : decode cX5_law 10 = .ok (.invokevirtual 62, 3) := by decide +kernel
theorem dX5_law_13 : decode cX5_law 13 = .ok (.ireturn, 1) := by decide +kernel
theorem dX5_law_14 : decode cX5_law 14 = .ok (.aload_n 0, 1) := by decide +kernel
theorem dX5_law_15 : decode cX5_law 15 = .ok (.getfield 10, 3) := by decide +kernel
theorem dX5_law_18 : decode cX5_law 18 = .ok (.getfield 120, 3) := by decide +kernel
theorem dX5_law_21 : decode cX5_law 21 = .ok (.istore_n 2, 1) := by decide +kernel
theorem dX5_law_22 : decode cX5_law 22 = .ok (.aload_n 0, 1) := by decide +kernel
theorem dX5_law_23 : decode cX5_law 23 = .ok (.getfield 10, 3) := by decide +kernel
theorem dX5_law_26 : decode cX5_law 26 = .ok (.iload_n 1, 1) := by decide +kernel
theorem dX5_law_27 : decode cX5_law 27 = .ok (.putfield 120, 3) := by decide +kernel
theorem dX5_law_30 : decode cX5_law 30 = .ok (.iload_n 2, 1) := by decide +kernel
theorem dX5_law_31 : decode cX5_law 31 = .ok (.ireturn, 1) := by decide +kernel
set_option maxRecDepth 20000 in
theorem ggX5_longest_X5_lookAtNow : GoodIn wsX5_longest wsX5_lookAtNow := goodIn_r _ [7, 1, 8, 9, 10, 11, 12, 13, 14, 15, 16, 17, 18, 19, 20, 21, 22, 23, 24, 25, 26, 27, 28, 29, 30, 31, 32, 33, 34, 35, 36, 37, 38, 39, 40, 41, 42, 43, 44, 45, 46, 47, 48, 49, 50, 51, 52, 53, 54, 55, 56, 57, 58, 59, 60, 61, 62, 63, 64, 65, 66, 67, 68, 69, 70, 71, 72, 73, 74, 75, 76, 77, 87, 88, 89, 90, 91, 92, 93, 94, 95, 96, 78, 79, 80, 81, 82, 83, 84, 85, 86] (by decide +kernel) (by decide +kernel)
set_option maxRecDepth 20000 in
theorem gX5_longest_X5_lookAtNow : GoodIn wsX5_longest (wsV RX5 123 RX5 yX5_lookAtNow wsX5_lookAtNow) := goodIn_app (goodIn_of _ (by decide +kernel)) ggX5_longest_X5_lookAtNow
theorem dX5_longest_0 : decode cX5_longest 0 = .ok (.aload_n 0, 1) := by decide +kernel
theorem dX5_longest_1 : decode cX5_longest 1 = .ok (.invokevirtual 123, 3) := by decide +kernel
theorem dX5_longest_4 : decode cX5_longest 4 = .ok (.aload_n 0, 1) := by decide +kernel
theorem dX5_longest_5 : decode cX5_longest 5 = .ok (.getfield 33, 3) := by decide +kernel
theorem dX5_longest_8 : decode cX5_longest 8 = .ok (.getfield 126, 3) := by decide +kernel
theorem dX5_longest_11 : decode cX5_longest 11 = .ok (.ireturn, 1) := by decide +kernel
set_option maxRecDepth 20000 in
theorem ggX5_stretches_X5_lookAtNow : GoodIn wsX5_stretches wsX5_lookAtNow := goodIn_r _ [7, 1, 8, 9, 10, 11, 12, 13, 14, 15, 16, 17, 18, 19, 20, 21, 22, 23, 24, 25, 26, 27, 28, 29, 30, 31, 32, 33, 34, 35, 36, 37, 38, 39, 40, 41, 42, 43, 44, 45, 46, 47, 48, 49, 50, 51, 52, 53, 54, 55, 56, 57, 58, 59, 60, 61, 62, 63, 64, 65, 66, 67, 68, 69, 70, 71, 72, 73, 74, 75, 76, 77, 87, 88, 89, 90, 91, 92, 93, 94, 95, 96, 78, 79, 80, 81, 82, 83, 84, 85, 86] (by decide +kernel) (by decide +kernel)
set_option maxRecDepth 20000 in
theorem gX5_stretches_X5_lookAtNow : GoodIn wsX5_stretches (wsV RX5 123 RX5 yX5_lookAtNow wsX5_lookAtNow) := goodIn_app (goodIn_of _ (by decide +kernel)) ggX5_stretches_X5_lookAtNow
theorem dX5_stretches_0 : decode cX5_stretches 0 = .ok (.aload_n 0, 1) := by decide +kernel
theorem dX5_stretches_1 : decode cX5_stretches 1 = .ok (.invokevirtual 123, 3) := by decide +kernel
theorem dX5_stretches_4 : decode cX5_stretches 4 = .ok (.aload_n 0, 1) := by decide +kernel
theorem dX5_stretches_5 : decode cX5_stretches 5 = .ok (.getfield 33, 3) := by decide +kernel
theorem dX5_stretches_8 : decode cX5_stretches 8 = .ok (.getfield 129, 3) := by decide +kernel
theorem dX5_stretches_11 : decode cX5_stretches 11 = .ok (.ireturn, 1) := by decide +kernel
set_option maxRecDepth 20000 in
theorem ggX5_stretch_X4_hasDay : GoodIn wsX5_stretch wsX4_hasDay := goodIn_r _ [6, 7, 33, 34, 35, 36, 37, 38, 39, 40, 41, 42] (by decide +kernel) (by decide +kernel)
set_option maxRecDepth 20000 in
theorem gX5_stretch_X4_hasDay : GoodIn wsX5_stretch (wsV RX5 93 RX4 yX4_hasDay wsX4_hasDay) := goodIn_app (goodIn_of _ (by decide +kernel)) ggX5_stretch_X4_hasDay
set_option maxRecDepth 20000 in
theorem ggX5_stretch_X5_refuse : GoodIn wsX5_stretch wsX5_refuse := goodIn_r _ [12, 13, 23, 24, 25, 26, 27, 28, 29, 30, 31, 32] (by decide +kernel) (by decide +kernel)
set_option maxRecDepth 20000 in
theorem gX5_stretch_X5_refuse : GoodIn wsX5_stretch (wsV RX5 62 RX5 yX5_refuse wsX5_refuse) := goodIn_app (goodIn_of _ (by decide +kernel)) ggX5_stretch_X5_refuse
set_option maxRecDepth 20000 in
theorem ggX5_stretch_X4_placeInStretch : GoodIn wsX5_stretch wsX4_placeInStretch := goodIn_r _ [17, 18, 33, 34, 35, 36, 37, 38, 39, 40, 41, 42] (by decide +kernel) (by decide +kernel)
set_option maxRecDepth 20000 in
theorem gX5_stretch_X4_placeInStretch : GoodIn wsX5_stretch (wsV RX5 132 RX4 yX4_placeInStretch wsX4_placeInStretch) := goodIn_app (goodIn_of _ (by decide +kernel)) ggX5_stretch_X4_placeInStretch
set_option maxRecDepth 20000 in
theorem ggX5_stretch_X4_daysToGoOn : GoodIn wsX5_stretch wsX4_daysToGoOn := goodIn_r _ [22, 7, 18, 33, 34, 35, 36, 37, 38, 39, 40, 41, 42] (by decide +kernel) (by decide +kernel)
set_option maxRecDepth 20000 in
theorem gX5_stretch_X4_daysToGoOn : GoodIn wsX5_stretch (wsV RX5 135 RX4 yX4_daysToGoOn wsX4_daysToGoOn) := goodIn_app (goodIn_of _ (by decide +kernel)) ggX5_stretch_X4_daysToGoOn
theorem dX5_stretch_0 : decode cX5_stretch 0 = .ok (.aload_n 0, 1) := by decide +kernel
theorem dX5_stretch_1 : decode cX5_stretch 1 = .ok (.getfield 10, 3) := by decide +kernel
theorem dX5_stretch_4 : decode cX5_stretch 4 = .ok (.iload_n 1, 1) := by decide +kernel
theorem dX5_stretch_5 : decode cX5_stretch 5 = .ok (.invokevirtual 93, 3) := by decide +kernel
theorem dX5_stretch_8 : decode cX5_stretch 8 = .ok (.ifCond .ne 9, 3) := by decide +kernel
theorem dX5_stretch_11 : decode cX5_stretch 11 = .ok (.aload_n 0, 1) := by decide +kernel
theorem dX5_stretch_12 : decode cX5_stretch 12 = .ok (.iconst (-1), 1) := by decide +kernel
theorem dX5_stretch_13 : decode cX5_stretch 13 = .ok (.invokevirtual 62, 3) := by decide +kernel
theorem dX5_stretch_16 : decode cX5_stretch 16 = .ok (.ireturn, 1) := by decide +kernel
theorem dX5_stretch_17 : decode cX5_stretch 17 = .ok (.iload_n 2, 1) := by decide +kernel
theorem dX5_stretch_18 : decode cX5_stretch 18 = .ok (.ifCond .eq 15, 3) := by decide +kernel
theorem dX5_stretch_21 : decode cX5_stretch 21 = .ok (.iload_n 2, 1) := by decide +kernel
theorem dX5_stretch_22 : decode cX5_stretch 22 = .ok (.iconst 1, 1) := by decide +kernel
theorem dX5_stretch_23 : decode cX5_stretch 23 = .ok (.if_icmp .eq 10, 3) := by decide +kernel
theorem dX5_stretch_26 : decode cX5_stretch 26 = .ok (.aload_n 0, 1) := by decide +kernel
theorem dX5_stretch_27 : decode cX5_stretch 27 = .ok (.bipush (-2), 2) := by decide +kernel
theorem dX5_stretch_29 : decode cX5_stretch 29 = .ok (.invokevirtual 62, 3) := by decide +kernel
theorem dX5_stretch_32 : decode cX5_stretch 32 = .ok (.ireturn, 1) := by decide +kernel
theorem dX5_stretch_33 : decode cX5_stretch 33 = .ok (.aload_n 0, 1) := by decide +kernel
theorem dX5_stretch_34 : decode cX5_stretch 34 = .ok (.getfield 10, 3) := by decide +kernel
theorem dX5_stretch_37 : decode cX5_stretch 37 = .ok (.iload_n 1, 1) := by decide +kernel
theorem dX5_stretch_38 : decode cX5_stretch 38 = .ok (.invokevirtual 132, 3) := by decide +kernel
theorem dX5_stretch_41 : decode cX5_stretch 41 = .ok (.istore_n 3, 1) := by decide +kernel
theorem dX5_stretch_42 : decode cX5_stretch 42 = .ok (.iload_n 2, 1) := by decide +kernel
theorem dX5_stretch_43 : decode cX5_stretch 43 = .ok (.iconst 1, 1) := by decide +kernel
theorem dX5_stretch_44 : decode cX5_stretch 44 = .ok (.if_icmp .ne 7, 3) := by decide +kernel
theorem dX5_stretch_47 : decode cX5_stretch 47 = .ok (.iload_n 3, 1) := by decide +kernel
theorem dX5_stretch_48 : decode cX5_stretch 48 = .ok (.goto 13, 3) := by decide +kernel
theorem dX5_stretch_51 : decode cX5_stretch 51 = .ok (.iload_n 3, 1) := by decide +kernel
theorem dX5_stretch_52 : decode cX5_stretch 52 = .ok (.aload_n 0, 1) := by decide +kernel
theorem dX5_stretch_53 : decode cX5_stretch 53 = .ok (.getfield 10, 3) := by decide +kernel
theorem dX5_stretch_56 : decode cX5_stretch 56 = .ok (.iload_n 1, 1) := by decide +kernel
theorem dX5_stretch_57 : decode cX5_stretch 57 = .ok (.invokevirtual 135, 3) := by decide +kernel
theorem dX5_stretch_60 : decode cX5_stretch 60 = .ok (.iadd, 1) := by decide +kernel
theorem dX5_stretch_61 : decode cX5_stretch 61 = .ok (.ireturn, 1) := by decide +kernel
set_option maxRecDepth 20000 in
theorem ggX5_worth_X4_hasDay : GoodIn wsX5_worth wsX4_hasDay := goodIn_r _ [7, 8, 56, 57, 58, 59, 60, 61, 62, 63, 64, 65] (by decide +kernel) (by decide +kernel)
set_option maxRecDepth 20000 in
theorem gX5_worth_X4_hasDay : GoodIn wsX5_worth (wsV RX5 93 RX4 yX4_hasDay wsX4_hasDay) := goodIn_app (goodIn_of _ (by decide +kernel)) ggX5_worth_X4_hasDay
set_option maxRecDepth 20000 in
theorem ggX5_worth_X5_refuseAmount : GoodIn wsX5_worth wsX5_refuseAmount := goodIn_r _ [13, 14, 15, 16, 17, 12, 18, 19, 46, 47, 48, 49, 50, 51, 52, 53, 54, 55] (by decide +kernel) (by decide +kernel)
set_option maxRecDepth 20000 in
theorem gX5_worth_X5_refuseAmount : GoodIn wsX5_worth (wsV RX5 138 RX5 yX5_refuseAmount wsX5_refuseAmount) := goodIn_app (goodIn_of _ (by decide +kernel)) ggX5_worth_X5_refuseAmount
set_option maxRecDepth 20000 in
theorem ggX5_worth_X4_valueNow : GoodIn wsX5_worth wsX4_valueNow := goodIn_r _ [23, 24, 25, 26, 27, 6, 28, 29, 30, 31, 32, 33, 34, 35, 36, 37, 38, 39, 40, 41, 42, 43, 44, 45, 56, 57, 58, 59, 60, 61, 62, 63, 64, 65] (by decide +kernel) (by decide +kernel)
set_option maxRecDepth 20000 in
theorem gX5_worth_X4_valueNow : GoodIn wsX5_worth (wsV RX5 144 RX4 yX4_valueNow wsX4_valueNow) := goodIn_app (goodIn_of _ (by decide +kernel)) ggX5_worth_X4_valueNow
theorem dX5_worth_0 : decode cX5_worth 0 = .ok (.aload_n 0, 1) := by decide +kernel
theorem dX5_worth_1 : decode cX5_worth 1 = .ok (.getfield 10, 3) := by decide +kernel
theorem dX5_worth_4 : decode cX5_worth 4 = .ok (.iload_n 1, 1) := by decide +kernel
theorem dX5_worth_5 : decode cX5_worth 5 = .ok (.invokevirtual 93, 3) := by decide +kernel
theorem dX5_worth_8 : decode cX5_worth 8 = .ok (.ifCond .ne 9, 3) := by decide +kernel
theorem dX5_worth_11 : decode cX5_worth 11 = .ok (.aload_n 0, 1) := by decide +kernel
theorem dX5_worth_12 : decode cX5_worth 12 = .ok (.iconst (-1), 1) := by decide +kernel
theorem dX5_worth_13 : decode cX5_worth 13 = .ok (.invokevirtual 138, 3) := by decide +kernel
theorem dX5_worth_16 : decode cX5_worth 16 = .ok (.ireturn, 1) := by decide +kernel
theorem dX5_worth_17 : decode cX5_worth 17 = .ok (.aload_n 0, 1) := by decide +kernel
theorem dX5_worth_18 : decode cX5_worth 18 = .ok (.getfield 10, 3) := by decide +kernel
theorem dX5_worth_21 : decode cX5_worth 21 = .ok (.getfield 141, 3) := by decide +kernel
theorem dX5_worth_24 : decode cX5_worth 24 = .ok (.ifCond .ne 10, 3) := by decide +kernel
theorem dX5_worth_27 : decode cX5_worth 27 = .ok (.aload_n 0, 1) := by decide +kernel
theorem dX5_worth_28 : decode cX5_worth 28 = .ok (.bipush (-3), 2) := by decide +kernel
theorem dX5_worth_30 : decode cX5_worth 30 = .ok (.invokevirtual 138, 3) := by decide +kernel
theorem dX5_worth_33 : decode cX5_worth 33 = .ok (.ireturn, 1) := by decide +kernel
theorem dX5_worth_34 : decode cX5_worth 34 = .ok (.aload_n 0, 1) := by decide +kernel
theorem dX5_worth_35 : decode cX5_worth 35 = .ok (.getfield 10, 3) := by decide +kernel
theorem dX5_worth_38 : decode cX5_worth 38 = .ok (.iload_n 1, 1) := by decide +kernel
theorem dX5_worth_39 : decode cX5_worth 39 = .ok (.invokevirtual 144, 3) := by decide +kernel
theorem dX5_worth_42 : decode cX5_worth 42 = .ok (.ireturn, 1) := by decide +kernel
set_option maxRecDepth 20000 in
theorem ggX5_earned_X5_refuseAmount : GoodIn wsX5_earned wsX5_refuseAmount := goodIn_r _ [9, 10, 11, 12, 13, 8, 14, 15, 79, 80, 81, 82, 83, 84, 85, 86, 87, 88] (by decide +kernel) (by decide +kernel)
set_option maxRecDepth 20000 in
theorem gX5_earned_X5_refuseAmount : GoodIn wsX5_earned (wsV RX5 138 RX5 yX5_refuseAmount wsX5_refuseAmount) := goodIn_app (goodIn_of _ (by decide +kernel)) ggX5_earned_X5_refuseAmount
set_option maxRecDepth 20000 in
theorem ggX5_earned_X5_lookAtNow : GoodIn wsX5_earned wsX5_lookAtNow := goodIn_r _ [19, 3, 1, 20, 21, 22, 23, 24, 25, 26, 27, 28, 29, 30, 31, 32, 33, 34, 35, 36, 37, 38, 39, 40, 41, 42, 43, 44, 45, 46, 47, 48, 49, 50, 51, 52, 53, 54, 55, 56, 57, 58, 59, 60, 61, 62, 63, 64, 65, 66, 67, 68, 69, 70, 71, 72, 73, 74, 75, 76, 77, 78, 79, 80, 81, 82, 83, 84, 85, 86, 87, 88, 89, 90, 91, 92, 93, 94, 95, 96, 97, 98, 99, 100, 101, 102, 103, 104, 105, 106, 107] (by decide +kernel) (by decide +kernel)
set_option maxRecDepth 20000 in
theorem gX5_earned_X5_lookAtNow : GoodIn wsX5_earned (wsV RX5 123 RX5 yX5_lookAtNow wsX5_lookAtNow) := goodIn_app (goodIn_of _ (by decide +kernel)) ggX5_earned_X5_lookAtNow
theorem dX5_earned_0 : decode cX5_earned 0 = .ok (.aload_n 0, 1) := by decide +kernel
theorem dX5_earned_1 : decode cX5_earned 1 = .ok (.getfield 10, 3) := by decide +kernel
theorem dX5_earned_4 : decode cX5_earned 4 = .ok (.getfield 141, 3) := by decide +kernel
theorem dX5_earned_7 : decode cX5_earned 7 = .ok (.ifCond .ne 10, 3) := by decide +kernel
theorem dX5_earned_10 : decode cX5_earned 10 = .ok (.aload_n 0, 1) := by decide +kernel
theorem dX5_earned_11 : decode cX5_earned 11 = .ok (.bipush (-3), 2) := by decide +kernel
theorem dX5_earned_13 : decode cX5_earned 13 = .ok (.invokevirtual 138, 3) := by decide +kernel
theorem dX5_earned_16 : decode cX5_earned 16 = .ok (.ireturn, 1) := by decide +kernel
theorem dX5_earned_17 : decode cX5_earned 17 = .ok (.aload_n 0, 1) := by decide +kernel
theorem dX5_earned_18 : decode cX5_earned 18 = .ok (.invokevirtual 123, 3) := by decide +kernel
theorem dX5_earned_21 : decode cX5_earned 21 = .ok (.aload_n 0, 1) := by decide +kernel
theorem dX5_earned_22 : decode cX5_earned 22 = .ok (.getfield 33, 3) := by decide +kernel
theorem dX5_earned_25 : decode cX5_earned 25 = .ok (.getfield 147, 3) := by decide +kernel
theorem dX5_earned_28 : decode cX5_earned 28 = .ok (.ireturn, 1) := by decide +kernel
set_option maxRecDepth 20000 in
theorem ggX5_pays_X5_refuse : GoodIn wsX5_pays wsX5_refuse := goodIn_r _ [9, 10, 78, 79, 80, 81, 82, 83, 84, 85, 86, 87] (by decide +kernel) (by decide +kernel)
set_option maxRecDepth 20000 in
theorem gX5_pays_X5_refuse : GoodIn wsX5_pays (wsV RX5 62 RX5 yX5_refuse wsX5_refuse) := goodIn_app (goodIn_of _ (by decide +kernel)) ggX5_pays_X5_refuse
set_option maxRecDepth 20000 in
theorem ggX5_pays_X5_lookAtNow : GoodIn wsX5_pays wsX5_lookAtNow := goodIn_r _ [14, 3, 1, 15, 16, 17, 18, 19, 20, 21, 22, 23, 24, 25, 26, 27, 28, 29, 30, 31, 32, 33, 34, 35, 36, 37, 38, 39, 40, 41, 42, 43, 44, 45, 46, 47, 48, 49, 50, 51, 52, 53, 54, 55, 56, 57, 58, 59, 60, 61, 62, 63, 64, 65, 66, 67, 68, 69, 70, 71, 72, 73, 78, 79, 80, 81, 82, 83, 84, 85, 86, 87, 88, 89, 90, 91, 92, 93, 94, 95, 96, 97, 98, 99, 100, 101, 102, 103, 104, 105, 106] (by decide +kernel) (by decide +kernel)
set_option maxRecDepth 20000 in
theorem gX5_pays_X5_lookAtNow : GoodIn wsX5_pays (wsV RX5 123 RX5 yX5_lookAtNow wsX5_lookAtNow) := goodIn_app (goodIn_of _ (by decide +kernel)) ggX5_pays_X5_lookAtNow
set_option maxRecDepth 20000 in
theorem ggX5_pays_X1_taxBy : GoodIn wsX5_pays wsX1_taxBy := goodIn_r _ [77, 41, 43, 32, 42, 21, 40, 98, 99, 100, 101, 102, 103, 104, 105, 106] (by decide +kernel) (by decide +kernel)
set_option maxRecDepth 20000 in
theorem gX5_pays_X1_taxBy : GoodIn wsX5_pays (wsV RX5 150 RX1 yX1_taxBy wsX1_taxBy) := goodIn_app (goodIn_of _ (by decide +kernel)) ggX5_pays_X1_taxBy
theorem dX5_pays_0 : decode cX5_pays 0 = .ok (.aload_n 0, 1) := by decide +kernel
theorem dX5_pays_1 : decode cX5_pays 1 = .ok (.getfield 10, 3) := by decide +kernel
theorem dX5_pays_4 : decode cX5_pays 4 = .ok (.getfield 141, 3) := by decide +kernel
theorem dX5_pays_7 : decode cX5_pays 7 = .ok (.ifCond .ne 10, 3) := by decide +kernel
theorem dX5_pays_10 : decode cX5_pays 10 = .ok (.aload_n 0, 1) := by decide +kernel
theorem dX5_pays_11 : decode cX5_pays 11 = .ok (.bipush (-3), 2) := by decide +kernel
theorem dX5_pays_13 : decode cX5_pays 13 = .ok (.invokevirtual 62, 3) := by decide +kernel
theorem dX5_pays_16 : decode cX5_pays 16 = .ok (.ireturn, 1) := by decide +kernel
theorem dX5_pays_17 : decode cX5_pays 17 = .ok (.aload_n 0, 1) := by decide +kernel
theorem dX5_pays_18 : decode cX5_pays 18 = .ok (.invokevirtual 123, 3) := by decide +kernel
theorem dX5_pays_21 : decode cX5_pays 21 = .ok (.aload_n 0, 1) := by decide +kernel
theorem dX5_pays_22 : decode cX5_pays 22 = .ok (.getfield 33, 3) := by decide +kernel
theorem dX5_pays_25 : decode cX5_pays 25 = .ok (.aload_n 0, 1) := by decide +kernel
theorem dX5_pays_26 : decode cX5_pays 26 = .ok (.getfield 10, 3) := by decide +kernel
theorem dX5_pays_29 : decode cX5_pays 29 = .ok (.getfield 120, 3) := by decide +kernel
theorem dX5_pays_32 : decode cX5_pays 32 = .ok (.invokevirtual 150, 3) := by decide +kernel
theorem dX5_pays_35 : decode cX5_pays 35 = .ok (.ireturn, 1) := by decide +kernel
set_option maxRecDepth 20000 in
theorem ggX5_left_X5_refuseAmount : GoodIn wsX5_left wsX5_refuseAmount := goodIn_r _ [7, 8, 9, 10, 11, 6, 12, 13, 91, 92, 93, 94, 95, 96, 97, 98, 99, 100] (by decide +kernel) (by decide +kernel)
set_option maxRecDepth 20000 in
theorem gX5_left_X5_refuseAmount : GoodIn wsX5_left (wsV RX5 138 RX5 yX5_refuseAmount wsX5_refuseAmount) := goodIn_app (goodIn_of _ (by decide +kernel)) ggX5_left_X5_refuseAmount
set_option maxRecDepth 20000 in
theorem ggX5_left_X5_leftNow : GoodIn wsX5_left wsX5_leftNow := goodIn_r _ [17, 18, 1, 19, 20, 21, 22, 6, 23, 24, 25, 26, 27, 28, 29, 30, 31, 32, 33, 34, 35, 36, 37, 38, 39, 40, 41, 42, 43, 44, 45, 46, 47, 48, 49, 50, 51, 52, 53, 54, 55, 56, 57, 58, 59, 60, 61, 62, 63, 64, 65, 66, 67, 68, 69, 70, 71, 72, 73, 74, 75, 76, 77, 78, 79, 80, 81, 82, 83, 84, 85, 86, 87, 88, 89, 90, 91, 92, 93, 94, 95, 96, 97, 98, 99, 100, 101, 102, 103, 104, 105, 106, 107, 108, 109, 110, 111, 112, 113, 114, 115, 116, 117, 118, 119] (by decide +kernel) (by decide +kernel)
set_option maxRecDepth 20000 in
theorem gX5_left_X5_leftNow : GoodIn wsX5_left (wsV RX5 153 RX5 yX5_leftNow wsX5_leftNow) := goodIn_app (goodIn_of _ (by decide +kernel)) ggX5_left_X5_leftNow
theorem dX5_left_0 : decode cX5_left 0 = .ok (.aload_n 0, 1) := by decide +kernel
theorem dX5_left_1 : decode cX5_left 1 = .ok (.getfield 10, 3) := by decide +kernel
theorem dX5_left_4 : decode cX5_left 4 = .ok (.getfield 141, 3) := by decide +kernel
theorem dX5_left_7 : decode cX5_left 7 = .ok (.ifCond .ne 10, 3) := by decide +kernel
theorem dX5_left_10 : decode cX5_left 10 = .ok (.aload_n 0, 1) := by decide +kernel
theorem dX5_left_11 : decode cX5_left 11 = .ok (.bipush (-3), 2) := by decide +kernel
theorem dX5_left_13 : decode cX5_left 13 = .ok (.invokevirtual 138, 3) := by decide +kernel
theorem dX5_left_16 : decode cX5_left 16 = .ok (.ireturn, 1) := by decide +kernel
theorem dX5_left_17 : decode cX5_left 17 = .ok (.aload_n 0, 1) := by decide +kernel
theorem dX5_left_18 : decode cX5_left 18 = .ok (.invokevirtual 153, 3) := by decide +kernel
theorem dX5_left_21 : decode cX5_left 21 = .ok (.ireturn, 1) := by decide +kernel
set_option maxRecDepth 20000 in
theorem ggX5_allow_X5_refuseAmount : GoodIn wsX5_allow wsX5_refuseAmount := goodIn_r _ [8, 9, 10, 11, 12, 7, 13, 14, 76, 77, 78, 79, 80, 81, 82, 83, 84, 85] (by decide +kernel) (by decide +kernel)
set_option maxRecDepth 20000 in
theorem gX5_allow_X5_refuseAmount : GoodIn wsX5_allow (wsV RX5 138 RX5 yX5_refuseAmount wsX5_refuseAmount) := goodIn_app (goodIn_of _ (by decide +kernel)) ggX5_allow_X5_refuseAmount
set_option maxRecDepth 20000 in
theorem ggX5_allow_X2_begin : GoodIn wsX5_allow wsX2_begin := goodIn_r _ [19, 20, 21, 22, 23, 24, 25, 26, 27, 28, 29, 30, 31, 32, 33, 34, 35, 36, 37, 38, 39, 40, 86, 87, 88, 89, 90, 91, 92, 93, 94, 95, 96, 97, 98, 99, 100, 101] (by decide +kernel) (by decide +kernel)
set_option maxRecDepth 20000 in
theorem gX5_allow_X2_begin : GoodIn wsX5_allow (wsV RX5 157 RX2 yX2_begin wsX2_begin) := goodIn_app (goodIn_of _ (by decide +kernel)) ggX5_allow_X2_begin
set_option maxRecDepth 20000 in
theorem ggX5_allow_X2_mostWithin : GoodIn wsX5_allow wsX2_mostWithin := goodIn_r _ [44, 20, 45, 21, 46, 47, 48, 49, 50, 51, 52, 53, 18, 54, 22, 55, 56, 57, 58, 59, 60, 61, 62, 63, 64, 26, 65, 28, 30, 31, 32, 33, 34, 66, 67, 68, 69, 70, 71, 72, 73, 74, 75, 86, 87, 88, 89, 90, 91, 92, 93, 94, 95, 96, 97, 98, 99, 100, 101] (by decide +kernel) (by decide +kernel)
set_option maxRecDepth 20000 in
theorem gX5_allow_X2_mostWithin : GoodIn wsX5_allow (wsV RX5 161 RX2 yX2_mostWithin wsX2_mostWithin) := goodIn_app (goodIn_of _ (by decide +kernel)) ggX5_allow_X2_mostWithin
theorem dX5_allow_0 : decode cX5_allow 0 = .ok (.iload_n 1, 1) := by decide +kernel
theorem dX5_allow_1 : decode cX5_allow 1 = .ok (.iconst 1, 1) := by decide +kernel
theorem dX5_allow_2 : decode cX5_allow 2 = .ok (.if_icmp .ge 10, 3) := by decide +kernel
theorem dX5_allow_5 : decode cX5_allow 5 = .ok (.aload_n 0, 1) := by decide +kernel
theorem dX5_allow_6 : decode cX5_allow 6 = .ok (.bipush (-4), 2) := by decide +kernel
theorem dX5_allow_8 : decode cX5_allow 8 = .ok (.invokevirtual 138, 3) := by decide +kernel
theorem dX5_allow_11 : decode cX5_allow 11 = .ok (.ireturn, 1) := by decide +kernel
theorem dX5_allow_12 : decode cX5_allow 12 = .ok (.iload_n 1, 1) := by decide +kernel
theorem dX5_allow_13 : decode cX5_allow 13 = .ok (.bipush 20, 2) := by decide +kernel
theorem dX5_allow_15 : decode cX5_allow 15 = .ok (.if_icmp .le 10, 3) := by decide +kernel
theorem dX5_allow_18 : decode cX5_allow 18 = .ok (.aload_n 0, 1) := by decide +kernel
theorem dX5_allow_19 : decode cX5_allow 19 = .ok (.bipush (-6), 2) := by decide +kernel
theorem dX5_allow_21 : decode cX5_allow 21 = .ok (.invokevirtual 138, 3) := by decide +kernel
theorem dX5_allow_24 : decode cX5_allow 24 = .ok (.ireturn, 1) := by decide +kernel
theorem dX5_allow_25 : decode cX5_allow 25 = .ok (.aload_n 0, 1) := by decide +kernel
theorem dX5_allow_26 : decode cX5_allow 26 = .ok (.getfield 10, 3) := by decide +kernel
theorem dX5_allow_29 : decode cX5_allow 29 = .ok (.getfield 141, 3) := by decide +kernel
theorem dX5_allow_32 : decode cX5_allow 32 = .ok (.ifCond .ne 10, 3) := by decide +kernel
theorem dX5_allow_35 : decode cX5_allow 35 = .ok (.aload_n 0, 1) := by decide +kernel
theorem dX5_allow_36 : decode cX5_allow 36 = .ok (.bipush (-3), 2) := by decide +kernel
theorem dX5_allow_38 : decode cX5_allow 38 = .ok (.invokevirtual 138, 3) := by decide +kernel
theorem dX5_allow_41 : decode cX5_allow 41 = .ok (.ireturn, 1) := by decide +kernel
theorem dX5_allow_42 : decode cX5_allow 42 = .ok (.aload_n 0, 1) := by decide +kernel
theorem dX5_allow_43 : decode cX5_allow 43 = .ok (.getfield 40, 3) := by decide +kernel
theorem dX5_allow_46 : decode cX5_allow 46 = .ok (.aload_n 0, 1) := by decide +kernel
theorem dX5_allow_47 : decode cX5_allow 47 = .ok (.getfield 10, 3) := by decide +kernel
theorem dX5_allow_50 : decode cX5_allow 50 = .ok (.invokevirtual 157, 3) := by decide +kernel
theorem dX5_allow_53 : decode cX5_allow 53 = .ok (.aload_n 0, 1) := by decide +kernel
theorem dX5_allow_54 : decode cX5_allow 54 = .ok (.getfield 40, 3) := by decide +kernel
theorem dX5_allow_57 : decode cX5_allow 57 = .ok (.aload_n 0, 1) := by decide +kernel
theorem dX5_allow_58 : decode cX5_allow 58 = .ok (.getfield 10, 3) := by decide +kernel
theorem dX5_allow_61 : decode cX5_allow 61 = .ok (.iload_n 1, 1) := by decide +kernel
theorem dX5_allow_62 : decode cX5_allow 62 = .ok (.invokevirtual 161, 3) := by decide +kernel
theorem dX5_allow_65 : decode cX5_allow 65 = .ok (.ireturn, 1) := by decide +kernel
set_option maxRecDepth 20000 in
theorem ggX5_best_X5_refuseAmount : GoodIn wsX5_best wsX5_refuseAmount := goodIn_r _ [10, 11, 12, 13, 14, 9, 15, 16, 84, 85, 86, 87, 88, 89, 90, 91, 92, 93] (by decide +kernel) (by decide +kernel)
set_option maxRecDepth 20000 in
theorem gX5_best_X5_refuseAmount : GoodIn wsX5_best (wsV RX5 138 RX5 yX5_refuseAmount wsX5_refuseAmount) := goodIn_app (goodIn_of _ (by decide +kernel)) ggX5_best_X5_refuseAmount
set_option maxRecDepth 20000 in
theorem ggX5_best_X2_findBest : GoodIn wsX5_best wsX2_findBest := goodIn_r _ [21, 22, 23, 24, 25, 26, 27, 20, 28, 29, 30, 31, 32, 33, 34, 35, 36, 37, 38, 39, 40, 41, 42, 43, 44, 45, 46, 47, 48, 49, 50, 51, 52, 53, 54, 55, 56, 57, 58, 59, 60, 61, 62, 63, 64, 65, 66, 67, 68, 69, 70, 71, 72, 73, 74, 75, 76, 77, 78, 79, 80, 81, 82, 83, 104, 105, 106, 107, 108, 109, 94, 95, 96, 97, 98, 99, 100, 101, 102, 103] (by decide +kernel) (by decide +kernel)
set_option maxRecDepth 20000 in
theorem gX5_best_X2_findBest : GoodIn wsX5_best (wsV RX5 165 RX2 yX2_findBest wsX2_findBest) := goodIn_app (goodIn_of _ (by decide +kernel)) ggX5_best_X2_findBest
theorem dX5_best_0 : decode cX5_best 0 = .ok (.iload_n 1, 1) := by decide +kernel
theorem dX5_best_1 : decode cX5_best 1 = .ok (.ifCond .eq 15, 3) := by decide +kernel
theorem dX5_best_4 : decode cX5_best 4 = .ok (.iload_n 1, 1) := by decide +kernel
theorem dX5_best_5 : decode cX5_best 5 = .ok (.iconst 1, 1) := by decide +kernel
theorem dX5_best_6 : decode cX5_best 6 = .ok (.if_icmp .eq 10, 3) := by decide +kernel
theorem dX5_best_9 : decode cX5_best 9 = .ok (.aload_n 0, 1) := by decide +kernel
theorem dX5_best_10 : decode cX5_best 10 = .ok (.bipush (-2), 2) := by decide +kernel
theorem dX5_best_12 : decode cX5_best 12 = .ok (.invokevirtual 138, 3) := by decide +kernel
theorem dX5_best_15 : decode cX5_best 15 = .ok (.ireturn, 1) := by decide +kernel
theorem dX5_best_16 : decode cX5_best 16 = .ok (.aload_n 0, 1) := by decide +kernel
theorem dX5_best_17 : decode cX5_best 17 = .ok (.getfield 10, 3) := by decide +kernel
theorem dX5_best_20 : decode cX5_best 20 = .ok (.getfield 141, 3) := by decide +kernel
theorem dX5_best_23 : decode cX5_best 23 = .ok (.ifCond .ne 10, 3) := by decide +kernel
theorem dX5_best_26 : decode cX5_best 26 = .ok (.aload_n 0, 1) := by decide +kernel
theorem dX5_best_27 : decode cX5_best 27 = .ok (.bipush (-3), 2) := by decide +kernel
theorem dX5_best_29 : decode cX5_best 29 = .ok (.invokevirtual 138, 3) := by decide +kernel
theorem dX5_best_32 : decode cX5_best 32 = .ok (.ireturn, 1) := by decide +kernel
theorem dX5_best_33 : decode cX5_best 33 = .ok (.aload_n 0, 1) := by decide +kernel
theorem dX5_best_34 : decode cX5_best 34 = .ok (.getfield 40, 3) := by decide +kernel
theorem dX5_best_37 : decode cX5_best 37 = .ok (.aload_n 0, 1) := by decide +kernel
theorem dX5_best_38 : decode cX5_best 38 = .ok (.getfield 10, 3) := by decide +kernel
theorem dX5_best_41 : decode cX5_best 41 = .ok (.invokevirtual 165, 3) := by decide +kernel
theorem dX5_best_44 : decode cX5_best 44 = .ok (.iload_n 1, 1) := by decide +kernel
theorem dX5_best_45 : decode cX5_best 45 = .ok (.ifCond .ne 13, 3) := by decide +kernel
theorem dX5_best_48 : decode cX5_best 48 = .ok (.aload_n 0, 1) := by decide +kernel
theorem dX5_best_49 : decode cX5_best 49 = .ok (.getfield 40, 3) := by decide +kernel
theorem dX5_best_52 : decode cX5_best 52 = .ok (.getfield 168, 3) := by decide +kernel
theorem dX5_best_55 : decode cX5_best 55 = .ok (.goto 10, 3) := by decide +kernel
theorem dX5_best_58 : decode cX5_best 58 = .ok (.aload_n 0, 1) := by decide +kernel
theorem dX5_best_59 : decode cX5_best 59 = .ok (.getfield 40, 3) := by decide +kernel
theorem dX5_best_62 : decode cX5_best 62 = .ok (.getfield 171, 3) := by decide +kernel
theorem dX5_best_65 : decode cX5_best 65 = .ok (.ireturn, 1) := by decide +kernel
set_option maxRecDepth 20000 in
theorem ggX5_bestDay_X4_hasDay : GoodIn wsX5_bestDay wsX4_hasDay := goodIn_r _ [10, 11, 115, 116, 117, 118, 119, 120, 121, 122, 123, 124] (by decide +kernel) (by decide +kernel)
set_option maxRecDepth 20000 in
theorem gX5_bestDay_X4_hasDay : GoodIn wsX5_bestDay (wsV RX5 93 RX4 yX4_hasDay wsX4_hasDay) := goodIn_app (goodIn_of _ (by decide +kernel)) ggX5_bestDay_X4_hasDay
set_option maxRecDepth 20000 in
theorem ggX5_bestDay_X5_refuse : GoodIn wsX5_bestDay wsX5_refuse := goodIn_r _ [16, 17, 105, 106, 107, 108, 109, 110, 111, 112, 113, 114] (by decide +kernel) (by decide +kernel)
set_option maxRecDepth 20000 in
theorem gX5_bestDay_X5_refuse : GoodIn wsX5_bestDay (wsV RX5 62 RX5 yX5_refuse wsX5_refuse) := goodIn_app (goodIn_of _ (by decide +kernel)) ggX5_bestDay_X5_refuse
set_option maxRecDepth 20000 in
theorem ggX5_bestDay_X2_findBest : GoodIn wsX5_bestDay wsX2_findBest := goodIn_r _ [22, 23, 24, 25, 26, 27, 28, 21, 29, 30, 31, 32, 33, 34, 9, 35, 36, 37, 38, 39, 40, 41, 42, 43, 44, 45, 46, 47, 48, 49, 50, 51, 52, 53, 54, 55, 56, 57, 58, 59, 60, 61, 62, 63, 64, 65, 66, 67, 68, 69, 70, 71, 72, 73, 74, 75, 76, 77, 78, 79, 80, 81, 82, 83, 125, 126, 127, 128, 129, 130, 115, 116, 117, 118, 119, 120, 121, 122, 123, 124] (by decide +kernel) (by decide +kernel)
set_option maxRecDepth 20000 in
theorem gX5_bestDay_X2_findBest : GoodIn wsX5_bestDay (wsV RX5 165 RX2 yX2_findBest wsX2_findBest) := goodIn_app (goodIn_of _ (by decide +kernel)) ggX5_bestDay_X2_findBest
set_option maxRecDepth 20000 in
theorem ggX5_bestDay_X2_findFirstYear : GoodIn wsX5_bestDay wsX2_findFirstYear := goodIn_r _ [87, 24, 88, 25, 49, 50, 51, 21, 52, 30, 53, 54, 55, 56, 57, 58, 59, 60, 61, 62, 31, 63, 64, 65, 66, 67, 68, 69, 70, 71, 72, 9, 73, 36, 38, 39, 40, 41, 42, 74, 75, 76, 77, 78, 79, 80, 81, 82, 83, 89, 90, 91, 92, 93, 94, 95, 96, 97, 98, 99, 100, 101, 102, 103, 104, 125, 126, 127, 128, 129, 130, 115, 116, 117, 118, 119, 120, 121, 122, 123, 124] (by decide +kernel) (by decide +kernel)
set_option maxRecDepth 20000 in
theorem gX5_bestDay_X2_findFirstYear : GoodIn wsX5_bestDay (wsV RX5 174 RX2 yX2_findFirstYear wsX2_findFirstYear) := goodIn_app (goodIn_of _ (by decide +kernel)) ggX5_bestDay_X2_findFirstYear
theorem dX5_bestDay_0 : decode cX5_bestDay 0 = .ok (.aload_n 0, 1) := by decide +kernel
theorem dX5_bestDay_1 : decode cX5_bestDay 1 = .ok (.getfield 10, 3) := by decide +kernel
theorem dX5_bestDay_4 : decode cX5_bestDay 4 = .ok (.iload_n 1, 1) := by decide +kernel
theorem dX5_bestDay_5 : decode cX5_bestDay 5 = .ok (.invokevirtual 93, 3) := by decide +kernel
theorem dX5_bestDay_8 : decode cX5_bestDay 8 = .ok (.ifCond .ne 9, 3) := by decide +kernel
theorem dX5_bestDay_11 : decode cX5_bestDay 11 = .ok (.aload_n 0, 1) := by decide +kernel
theorem dX5_bestDay_12 : decode cX5_bestDay 12 = .ok (.iconst (-1), 1) := by decide +kernel
theorem dX5_bestDay_13 : decode cX5_bestDay 13 = .ok (.invokevirtual 62, 3) := by decide +kernel
theorem dX5_bestDay_16 : decode cX5_bestDay 16 = .ok (.ireturn, 1) := by decide +kernel
theorem dX5_bestDay_17 : decode cX5_bestDay 17 = .ok (.aload_n 0, 1) := by decide +kernel
theorem dX5_bestDay_18 : decode cX5_bestDay 18 = .ok (.getfield 10, 3) := by decide +kernel
theorem dX5_bestDay_21 : decode cX5_bestDay 21 = .ok (.getfield 141, 3) := by decide +kernel
theorem dX5_bestDay_24 : decode cX5_bestDay 24 = .ok (.ifCond .ne 10, 3) := by decide +kernel
theorem dX5_bestDay_27 : decode cX5_bestDay 27 = .ok (.aload_n 0, 1) := by decide +kernel
theorem dX5_bestDay_28 : decode cX5_bestDay 28 = .ok (.bipush (-3), 2) := by decide +kernel
theorem dX5_bestDay_30 : decode cX5_bestDay 30 = .ok (.invokevirtual 62, 3) := by decide +kernel
theorem dX5_bestDay_33 : decode cX5_bestDay 33 = .ok (.ireturn, 1) := by decide +kernel
theorem dX5_bestDay_34 : decode cX5_bestDay 34 = .ok (.aload_n 0, 1) := by decide +kernel
theorem dX5_bestDay_35 : decode cX5_bestDay 35 = .ok (.getfield 40, 3) := by decide +kernel
theorem dX5_bestDay_38 : decode cX5_bestDay 38 = .ok (.aload_n 0, 1) := by decide +kernel
theorem dX5_bestDay_39 : decode cX5_bestDay 39 = .ok (.getfield 10, 3) := by decide +kernel
theorem dX5_bestDay_42 : decode cX5_bestDay 42 = .ok (.invokevirtual 165, 3) := by decide +kernel
theorem dX5_bestDay_45 : decode cX5_bestDay 45 = .ok (.aload_n 0, 1) := by decide +kernel
theorem dX5_bestDay_46 : decode cX5_bestDay 46 = .ok (.getfield 40, 3) := by decide +kernel
theorem dX5_bestDay_49 : decode cX5_bestDay 49 = .ok (.getfield 171, 3) := by decide +kernel
theorem dX5_bestDay_52 : decode cX5_bestDay 52 = .ok (.bipush (-9), 2) := by decide +kernel
theorem dX5_bestDay_54 : decode cX5_bestDay 54 = .ok (.if_icmp .ne 6, 3) := by decide +kernel
theorem dX5_bestDay_57 : decode cX5_bestDay 57 = .ok (.bipush (-9), 2) := by decide +kernel
theorem dX5_bestDay_59 : decode cX5_bestDay 59 = .ok (.ireturn, 1) := by decide +kernel
theorem dX5_bestDay_60 : decode cX5_bestDay 60 = .ok (.aload_n 0, 1) := by decide +kernel
theorem dX5_bestDay_61 : decode cX5_bestDay 61 = .ok (.getfield 40, 3) := by decide +kernel
theorem dX5_bestDay_64 : decode cX5_bestDay 64 = .ok (.aload_n 0, 1) := by decide +kernel
theorem dX5_bestDay_65 : decode cX5_bestDay 65 = .ok (.getfield 10, 3) := by decide +kernel
theorem dX5_bestDay_68 : decode cX5_bestDay 68 = .ok (.invokevirtual 174, 3) := by decide +kernel
theorem dX5_bestDay_71 : decode cX5_bestDay 71 = .ok (.aload_n 0, 1) := by decide +kernel
theorem dX5_bestDay_72 : decode cX5_bestDay 72 = .ok (.getfield 40, 3) := by decide +kernel
theorem dX5_bestDay_75 : decode cX5_bestDay 75 = .ok (.getfield 177, 3) := by decide +kernel
theorem dX5_bestDay_78 : decode cX5_bestDay 78 = .ok (.iload_n 1, 1) := by decide +kernel
theorem dX5_bestDay_79 : decode cX5_bestDay 79 = .ok (.iaload, 1) := by decide +kernel
theorem dX5_bestDay_80 : decode cX5_bestDay 80 = .ok (.ireturn, 1) := by decide +kernel
set_option maxRecDepth 20000 in
theorem ggX5_breaking_X5_refuse : GoodIn wsX5_breaking wsX5_refuse := goodIn_r _ [9, 10, 94, 95, 96, 97, 98, 99, 100, 101, 102, 103] (by decide +kernel) (by decide +kernel)
set_option maxRecDepth 20000 in
theorem gX5_breaking_X5_refuse : GoodIn wsX5_breaking (wsV RX5 62 RX5 yX5_refuse wsX5_refuse) := goodIn_app (goodIn_of _ (by decide +kernel)) ggX5_breaking_X5_refuse
set_option maxRecDepth 20000 in
theorem ggX5_breaking_X5_leftNow : GoodIn wsX5_breaking wsX5_leftNow := goodIn_r _ [14, 15, 1, 16, 17, 18, 19, 8, 20, 21, 22, 23, 24, 25, 26, 27, 28, 29, 30, 31, 32, 33, 34, 35, 36, 37, 38, 39, 40, 41, 42, 43, 44, 45, 46, 47, 48, 49, 50, 51, 52, 53, 54, 55, 56, 57, 58, 59, 60, 61, 62, 63, 64, 65, 66, 67, 68, 69, 70, 71, 72, 73, 74, 75, 76, 77, 78, 79, 80, 81, 82, 83, 84, 85, 86, 87, 94, 95, 96, 97, 98, 99, 100, 101, 102, 103, 104, 105, 106, 107, 108, 109, 110, 111, 112, 113, 114, 115, 116, 117, 118, 119, 120, 121, 122] (by decide +kernel) (by decide +kernel)
set_option maxRecDepth 20000 in
theorem gX5_breaking_X5_leftNow : GoodIn wsX5_breaking (wsV RX5 153 RX5 yX5_leftNow wsX5_leftNow) := goodIn_app (goodIn_of _ (by decide +kernel)) ggX5_breaking_X5_leftNow
set_option maxRecDepth 20000 in
theorem ggX5_breaking_X5_leftWith : GoodIn wsX5_breaking wsX5_leftWith := goodIn_r _ [91, 15, 92, 1, 93, 16, 34, 35, 36, 24, 37, 27, 29, 38, 39, 40, 41, 42, 43, 44, 45, 46, 47, 48, 49, 50, 51, 52, 53, 54, 55, 56, 57, 58, 59, 60, 61, 62, 63, 64, 65, 66, 67, 68, 69, 70, 71, 72, 73, 74, 75, 76, 77, 78, 79, 80, 81, 82, 83, 84, 85, 86, 87, 94, 95, 96, 97, 98, 99, 100, 101, 102, 103, 114, 115, 116, 117, 118, 119, 120, 121, 122, 104, 105, 106, 107, 108, 109, 110, 111, 112, 113] (by decide +kernel) (by decide +kernel)
set_option maxRecDepth 20000 in
theorem gX5_breaking_X5_leftWith : GoodIn wsX5_breaking (wsV RX5 183 RX5 yX5_leftWith wsX5_leftWith) := goodIn_app (goodIn_of _ (by decide +kernel)) ggX5_breaking_X5_leftWith
theorem dX5_breaking_0 : decode cX5_breaking 0 = .ok (.aload_n 0, 1) := by decide +kernel
theorem dX5_breaking_1 : decode cX5_breaking 1 = .ok (.getfield 10, 3) := by decide +kernel
theorem dX5_breaking_4 : decode cX5_breaking 4 = .ok (.getfield 141, 3) := by decide +kernel
theorem dX5_breaking_7 : decode cX5_breaking 7 = .ok (.ifCond .ne 10, 3) := by decide +kernel
theorem dX5_breaking_10 : decode cX5_breaking 10 = .ok (.aload_n 0, 1) := by decide +kernel
theorem dX5_breaking_11 : decode cX5_breaking 11 = .ok (.bipush (-3), 2) := by decide +kernel
theorem dX5_breaking_13 : decode cX5_breaking 13 = .ok (.invokevirtual 62, 3) := by decide +kernel
theorem dX5_breaking_16 : decode cX5_breaking 16 = .ok (.ireturn, 1) := by decide +kernel
theorem dX5_breaking_17 : decode cX5_breaking 17 = .ok (.aload_n 0, 1) := by decide +kernel
theorem dX5_breaking_18 : decode cX5_breaking 18 = .ok (.invokevirtual 153, 3) := by decide +kernel
theorem dX5_breaking_21 : decode cX5_breaking 21 = .ok (.istore_n 1, 1) := by decide +kernel
theorem dX5_breaking_22 : decode cX5_breaking 22 = .ok (.bipush (-9), 2) := by decide +kernel
theorem dX5_breaking_24 : decode cX5_breaking 24 = .ok (.istore_n 2, 1) := by decide +kernel
theorem dX5_breaking_25 : decode cX5_breaking 25 = .ok (.iconst 0, 1) := by decide +kernel
theorem dX5_breaking_26 : decode cX5_breaking 26 = .ok (.istore_n 3, 1) := by decide +kernel
theorem dX5_breaking_27 : decode cX5_breaking 27 = .ok (.iload_n 3, 1) := by decide +kernel
theorem dX5_breaking_28 : decode cX5_breaking 28 = .ok (.aload_n 0, 1) := by decide +kernel
theorem dX5_breaking_29 : decode cX5_breaking 29 = .ok (.getfield 10, 3) := by decide +kernel
theorem dX5_breaking_32 : decode cX5_breaking 32 = .ok (.getfield 180, 3) := by decide +kernel
theorem dX5_breaking_35 : decode cX5_breaking 35 = .ok (.if_icmp .ge 70, 3) := by decide +kernel
theorem dX5_breaking_38 : decode cX5_breaking 38 = .ok (.iconst 0, 1) := by decide +kernel
theorem dX5_breaking_39 : decode cX5_breaking 39 = .ok (.istore 4, 2) := by decide +kernel
theorem dX5_breaking_41 : decode cX5_breaking 41 = .ok (.iload 4, 2) := by decide +kernel
theorem dX5_breaking_43 : decode cX5_breaking 43 = .ok (.aload_n 0, 1) := by decide +kernel
theorem dX5_breaking_44 : decode cX5_breaking 44 = .ok (.getfield 10, 3) := by decide +kernel
theorem dX5_breaking_47 : decode cX5_breaking 47 = .ok (.getfield 141, 3) := by decide +kernel
theorem dX5_breaking_50 : decode cX5_breaking 50 = .ok (.if_icmp .ge 49, 3) := by decide +kernel
theorem dX5_breaking_53 : decode cX5_breaking 53 = .ok (.aload_n 0, 1) := by decide +kernel
theorem dX5_breaking_54 : decode cX5_breaking 54 = .ok (.getfield 10, 3) := by decide +kernel
theorem dX5_breaking_57 : decode cX5_breaking 57 = .ok (.getfield 103, 3) := by decide +kernel
theorem dX5_breaking_60 : decode cX5_breaking 60 = .ok (.iload_n 3, 1) := by decide +kernel
theorem dX5_breaking_61 : decode cX5_breaking 61 = .ok (.iaload, 1) := by decide +kernel
theorem dX5_breaking_62 : decode cX5_breaking 62 = .ok (.bipush (-9), 2) := by decide +kernel
theorem dX5_breaking_64 : decode cX5_breaking 64 = .ok (.if_icmp .ne 35, 3) := by decide +kernel
theorem dX5_breaking_67 : decode cX5_breaking 67 = .ok (.aload_n 0, 1) := by decide +kernel
theorem dX5_breaking_68 : decode cX5_breaking 68 = .ok (.iload_n 3, 1) := by decide +kernel
theorem dX5_breaking_69 : decode cX5_breaking 69 = .ok (.iload 4, 2) := by decide +kernel
theorem dX5_breaking_71 : decode cX5_breaking 71 = .ok (.invokevirtual 183, 3) := by decide +kernel
theorem dX5_breaking_74 : decode cX5_breaking 74 = .ok (.istore 5, 2) := by decide +kernel
theorem dX5_breaking_76 : decode cX5_breaking 76 = .ok (.iload 5, 2) := by decide +kernel
theorem dX5_breaking_78 : decode cX5_breaking 78 = .ok (.iload_n 1, 1) := by decide +kernel
theorem dX5_breaking_79 : decode cX5_breaking 79 = .ok (.if_icmp .le 14, 3) := by decide +kernel
theorem dX5_breaking_82 : decode cX5_breaking 82 = .ok (.iload 5, 2) := by decide +kernel
theorem dX5_breaking_84 : decode cX5_breaking 84 = .ok (.istore_n 1, 1) := by decide +kernel
theorem dX5_breaking_85 : decode cX5_breaking 85 = .ok (.bipush 10, 2) := by decide +kernel
theorem dX5_breaking_87 : decode cX5_breaking 87 = .ok (.iload_n 3, 1) := by decide +kernel
theorem dX5_breaking_88 : decode cX5_breaking 88 = .ok (.imul, 1) := by decide +kernel
theorem dX5_breaking_89 : decode cX5_breaking 89 = .ok (.iload 4, 2) := by decide +kernel
theorem dX5_breaking_91 : decode cX5_breaking 91 = .ok (.iadd, 1) := by decide +kernel
theorem dX5_breaking_92 : decode cX5_breaking 92 = .ok (.istore_n 2, 1) := by decide +kernel
theorem dX5_breaking_93 : decode cX5_breaking 93 = .ok (.iinc 4 1, 3) := by decide +kernel
theorem dX5_breaking_96 : decode cX5_breaking 96 = .ok (.goto (-55), 3) := by decide +kernel
theorem dX5_breaking_99 : decode cX5_breaking 99 = .ok (.iinc 3 1, 3) := by decide +kernel
theorem dX5_breaking_102 : decode cX5_breaking 102 = .ok (.goto (-75), 3) := by decide +kernel
theorem dX5_breaking_105 : decode cX5_breaking 105 = .ok (.iload_n 2, 1) := by decide +kernel
theorem dX5_breaking_106 : decode cX5_breaking 106 = .ok (.ireturn, 1) := by decide +kernel
set_option maxRecDepth 20000 in
theorem ggX5_more_X4_hasThing : GoodIn wsX5_more wsX4_hasThing := goodIn_r _ [8, 9, 105, 106, 107, 108, 109, 110, 111, 112, 113, 114] (by decide +kernel) (by decide +kernel)
set_option maxRecDepth 20000 in
theorem gX5_more_X4_hasThing : GoodIn wsX5_more (wsV RX5 77 RX4 yX4_hasThing wsX4_hasThing) := goodIn_app (goodIn_of _ (by decide +kernel)) ggX5_more_X4_hasThing
set_option maxRecDepth 20000 in
theorem ggX5_more_X5_refuseAmount : GoodIn wsX5_more wsX5_refuseAmount := goodIn_r _ [14, 15, 16, 17, 18, 13, 19, 20, 95, 96, 97, 98, 99, 100, 101, 102, 103, 104] (by decide +kernel) (by decide +kernel)
set_option maxRecDepth 20000 in
theorem gX5_more_X5_refuseAmount : GoodIn wsX5_more (wsV RX5 138 RX5 yX5_refuseAmount wsX5_refuseAmount) := goodIn_app (goodIn_of _ (by decide +kernel)) ggX5_more_X5_refuseAmount
set_option maxRecDepth 20000 in
theorem ggX5_more_X5_leftNow : GoodIn wsX5_more wsX5_leftNow := goodIn_r _ [24, 2, 1, 3, 25, 26, 27, 13, 28, 29, 30, 31, 32, 33, 34, 35, 36, 37, 38, 39, 40, 41, 42, 43, 44, 45, 46, 47, 48, 49, 50, 51, 52, 53, 54, 55, 56, 57, 58, 59, 60, 61, 62, 63, 64, 65, 66, 67, 68, 7, 69, 70, 71, 5, 6, 8, 9, 72, 73, 74, 75, 76, 77, 78, 79, 80, 81, 82, 83, 84, 85, 86, 87, 88, 89, 90, 95, 96, 97, 98, 99, 100, 101, 102, 103, 104, 105, 106, 107, 108, 109, 110, 111, 112, 113, 114, 115, 116, 117, 118, 119, 120, 121, 122, 123] (by decide +kernel) (by decide +kernel)
set_option maxRecDepth 20000 in
theorem gX5_more_X5_leftNow : GoodIn wsX5_more (wsV RX5 153 RX5 yX5_leftNow wsX5_leftNow) := goodIn_app (goodIn_of _ (by decide +kernel)) ggX5_more_X5_leftNow
set_option maxRecDepth 20000 in
theorem ggX5_more_X1_addDay : GoodIn wsX5_more wsX1_addDay := goodIn_r _ [94, 35, 37, 115, 116, 117, 118, 119, 120, 121, 122, 123] (by decide +kernel) (by decide +kernel)
set_option maxRecDepth 20000 in
theorem gX5_more_X1_addDay : GoodIn wsX5_more (wsV RX5 187 RX1 yX1_addDay wsX1_addDay) := goodIn_app (goodIn_of _ (by decide +kernel)) ggX5_more_X1_addDay
set_option maxRecDepth 20000 in
theorem ggX5_more_X1_tally : GoodIn wsX5_more wsX1_tally := goodIn_r _ [45, 35, 37, 46, 47, 48, 49, 50, 51, 32, 52, 53, 54, 55, 56, 57, 58, 59, 60, 61, 62, 63, 64, 65, 66, 67, 68, 7, 69, 70, 71, 5, 6, 8, 9, 72, 73, 74, 75, 76, 77, 78, 79, 80, 81, 82, 115, 116, 117, 118, 119, 120, 121, 122, 123, 105, 106, 107, 108, 109, 110, 111, 112, 113, 114] (by decide +kernel) (by decide +kernel)
set_option maxRecDepth 20000 in
theorem gX5_more_X1_tally : GoodIn wsX5_more (wsV RX5 190 RX1 yX1_tally wsX1_tally) := goodIn_app (goodIn_of _ (by decide +kernel)) ggX5_more_X1_tally
set_option maxRecDepth 20000 in
theorem ggX5_more_X1_leftBy : GoodIn wsX5_more wsX1_leftBy := goodIn_r _ [86, 47, 87, 88, 89, 32, 90, 55, 57, 46, 56, 35, 54, 115, 116, 117, 118, 119, 120, 121, 122, 123] (by decide +kernel) (by decide +kernel)
set_option maxRecDepth 20000 in
theorem gX5_more_X1_leftBy : GoodIn wsX5_more (wsV RX5 193 RX1 yX1_leftBy wsX1_leftBy) := goodIn_app (goodIn_of _ (by decide +kernel)) ggX5_more_X1_leftBy
theorem dX5_more_0 : decode cX5_more 0 = .ok (.aload_n 0, 1) := by decide +kernel
theorem dX5_more_1 : decode cX5_more 1 = .ok (.getfield 10, 3) := by decide +kernel
theorem dX5_more_4 : decode cX5_more 4 = .ok (.iload_n 1, 1) := by decide +kernel
theorem dX5_more_5 : decode cX5_more 5 = .ok (.invokevirtual 77, 3) := by decide +kernel
theorem dX5_more_8 : decode cX5_more 8 = .ok (.ifCond .ne 9, 3) := by decide +kernel
theorem dX5_more_11 : decode cX5_more 11 = .ok (.aload_n 0, 1) := by decide +kernel
theorem dX5_more_12 : decode cX5_more 12 = .ok (.iconst (-1), 1) := by decide +kernel
theorem dX5_more_13 : decode cX5_more 13 = .ok (.invokevirtual 138, 3) := by decide +kernel
theorem dX5_more_16 : decode cX5_more 16 = .ok (.ireturn, 1) := by decide +kernel
theorem dX5_more_17 : decode cX5_more 17 = .ok (.aload_n 0, 1) := by decide +kernel
theorem dX5_more_18 : decode cX5_more 18 = .ok (.invokevirtual 153, 3) := by decide +kernel
theorem dX5_more_21 : decode cX5_more 21 = .ok (.istore_n 2, 1) := by decide +kernel
theorem dX5_more_22 : decode cX5_more 22 = .ok (.aload_n 0, 1) := by decide +kernel
theorem dX5_more_23 : decode cX5_more 23 = .ok (.getfield 33, 3) := by decide +kernel
theorem dX5_more_26 : decode cX5_more 26 = .ok (.iload_n 1, 1) := by decide +kernel
theorem dX5_more_27 : decode cX5_more 27 = .ok (.invokevirtual 187, 3) := by decide +kernel
theorem dX5_more_30 : decode cX5_more 30 = .ok (.aload_n 0, 1) := by decide +kernel
theorem dX5_more_31 : decode cX5_more 31 = .ok (.getfield 33, 3) := by decide +kernel
theorem dX5_more_34 : decode cX5_more 34 = .ok (.aload_n 0, 1) := by decide +kernel
theorem dX5_more_35 : decode cX5_more 35 = .ok (.getfield 10, 3) := by decide +kernel
theorem dX5_more_38 : decode cX5_more 38 = .ok (.invokevirtual 190, 3) := by decide +kernel
theorem dX5_more_41 : decode cX5_more 41 = .ok (.aload_n 0, 1) := by decide +kernel
theorem dX5_more_42 : decode cX5_more 42 = .ok (.getfield 33, 3) := by decide +kernel
theorem dX5_more_45 : decode cX5_more 45 = .ok (.aload_n 0, 1) := by decide +kernel
theorem dX5_more_46 : decode cX5_more 46 = .ok (.getfield 10, 3) := by decide +kernel
theorem dX5_more_49 : decode cX5_more 49 = .ok (.getfield 120, 3) := by decide +kernel
theorem dX5_more_52 : decode cX5_more 52 = .ok (.invokevirtual 193, 3) := by decide +kernel
theorem dX5_more_55 : decode cX5_more 55 = .ok (.iload_n 2, 1) := by decide +kernel
theorem dX5_more_56 : decode cX5_more 56 = .ok (.isub, 1) := by decide +kernel
theorem dX5_more_57 : decode cX5_more 57 = .ok (.ireturn, 1) := by decide +kernel
set_option maxRecDepth 20000 in
theorem ggX5_brought_X4_hasThing : GoodIn wsX5_brought wsX4_hasThing := goodIn_r _ [8, 9, 53, 54, 55, 56, 57, 58, 59, 60, 61, 62] (by decide +kernel) (by decide +kernel)
set_option maxRecDepth 20000 in
theorem gX5_brought_X4_hasThing : GoodIn wsX5_brought (wsV RX5 77 RX4 yX4_hasThing wsX4_hasThing) := goodIn_app (goodIn_of _ (by decide +kernel)) ggX5_brought_X4_hasThing
set_option maxRecDepth 20000 in
theorem ggX5_brought_X5_refuseAmount : GoodIn wsX5_brought wsX5_refuseAmount := goodIn_r _ [14, 15, 16, 17, 18, 13, 19, 20, 43, 44, 45, 46, 47, 48, 49, 50, 51, 52] (by decide +kernel) (by decide +kernel)
set_option maxRecDepth 20000 in
theorem gX5_brought_X5_refuseAmount : GoodIn wsX5_brought (wsV RX5 138 RX5 yX5_refuseAmount wsX5_refuseAmount) := goodIn_app (goodIn_of _ (by decide +kernel)) ggX5_brought_X5_refuseAmount
set_option maxRecDepth 20000 in
theorem ggX5_brought_X4_valueNow : GoodIn wsX5_brought wsX4_valueNow := goodIn_r _ [24, 25, 26, 27, 28, 7, 29, 30, 31, 32, 33, 34, 35, 36, 5, 6, 8, 9, 37, 38, 39, 40, 41, 42, 53, 54, 55, 56, 57, 58, 59, 60, 61, 62] (by decide +kernel) (by decide +kernel)
set_option maxRecDepth 20000 in
theorem gX5_brought_X4_valueNow : GoodIn wsX5_brought (wsV RX5 144 RX4 yX4_valueNow wsX4_valueNow) := goodIn_app (goodIn_of _ (by decide +kernel)) ggX5_brought_X4_valueNow
theorem dX5_brought_0 : decode cX5_brought 0 = .ok (.aload_n 0, 1) := by decide +kernel
theorem dX5_brought_1 : decode cX5_brought 1 = .ok (.getfield 10, 3) := by decide +kernel
theorem dX5_brought_4 : decode cX5_brought 4 = .ok (.iload_n 1, 1) := by decide +kernel
theorem dX5_brought_5 : decode cX5_brought 5 = .ok (.invokevirtual 77, 3) := by decide +kernel
theorem dX5_brought_8 : decode cX5_brought 8 = .ok (.ifCond .ne 9, 3) := by decide +kernel
theorem dX5_brought_11 : decode cX5_brought 11 = .ok (.aload_n 0, 1) := by decide +kernel
theorem dX5_brought_12 : decode cX5_brought 12 = .ok (.iconst (-1), 1) := by decide +kernel
theorem dX5_brought_13 : decode cX5_brought 13 = .ok (.invokevirtual 138, 3) := by decide +kernel
theorem dX5_brought_16 : decode cX5_brought 16 = .ok (.ireturn, 1) := by decide +kernel
theorem dX5_brought_17 : decode cX5_brought 17 = .ok (.iconst 0, 1) := by decide +kernel
theorem dX5_brought_18 : decode cX5_brought 18 = .ok (.istore_n 2, 1) := by decide +kernel
theorem dX5_brought_19 : decode cX5_brought 19 = .ok (.iconst 0, 1) := by decide +kernel
theorem dX5_brought_20 : decode cX5_brought 20 = .ok (.istore_n 3, 1) := by decide +kernel
theorem dX5_brought_21 : decode cX5_brought 21 = .ok (.iload_n 3, 1) := by decide +kernel
theorem dX5_brought_22 : decode cX5_brought 22 = .ok (.aload_n 0, 1) := by decide +kernel
theorem dX5_brought_23 : decode cX5_brought 23 = .ok (.getfield 10, 3) := by decide +kernel
theorem dX5_brought_26 : decode cX5_brought 26 = .ok (.getfield 180, 3) := by decide +kernel
theorem dX5_brought_29 : decode cX5_brought 29 = .ok (.if_icmp .ge 33, 3) := by decide +kernel
theorem dX5_brought_32 : decode cX5_brought 32 = .ok (.aload_n 0, 1) := by decide +kernel
theorem dX5_brought_33 : decode cX5_brought 33 = .ok (.getfield 10, 3) := by decide +kernel
theorem dX5_brought_36 : decode cX5_brought 36 = .ok (.getfield 100, 3) := by decide +kernel
theorem dX5_brought_39 : decode cX5_brought 39 = .ok (.iload_n 3, 1) := by decide +kernel
theorem dX5_brought_40 : decode cX5_brought 40 = .ok (.iaload, 1) := by decide +kernel
theorem dX5_brought_41 : decode cX5_brought 41 = .ok (.iload_n 1, 1) := by decide +kernel
theorem dX5_brought_42 : decode cX5_brought 42 = .ok (.if_icmp .ne 14, 3) := by decide +kernel
theorem dX5_brought_45 : decode cX5_brought 45 = .ok (.iload_n 2, 1) := by decide +kernel
theorem dX5_brought_46 : decode cX5_brought 46 = .ok (.aload_n 0, 1) := by decide +kernel
theorem dX5_brought_47 : decode cX5_brought 47 = .ok (.getfield 10, 3) := by decide +kernel
theorem dX5_brought_50 : decode cX5_brought 50 = .ok (.iload_n 3, 1) := by decide +kernel
theorem dX5_brought_51 : decode cX5_brought 51 = .ok (.invokevirtual 144, 3) := by decide +kernel
theorem dX5_brought_54 : decode cX5_brought 54 = .ok (.iadd, 1) := by decide +kernel
theorem dX5_brought_55 : decode cX5_brought 55 = .ok (.istore_n 2, 1) := by decide +kernel
theorem dX5_brought_56 : decode cX5_brought 56 = .ok (.iinc 3 1, 3) := by decide +kernel
theorem dX5_brought_59 : decode cX5_brought 59 = .ok (.goto (-38), 3) := by decide +kernel
theorem dX5_brought_62 : decode cX5_brought 62 = .ok (.iload_n 2, 1) := by decide +kernel
theorem dX5_brought_63 : decode cX5_brought 63 = .ok (.ireturn, 1) := by decide +kernel
set_option maxRecDepth 20000 in
theorem ggX5_byLaw_X5_isLaw : GoodIn wsX5_byLaw wsX5_isLaw := goodIn_r _ [7] (by decide +kernel) (by decide +kernel)
set_option maxRecDepth 20000 in
theorem gX5_byLaw_X5_isLaw : GoodIn wsX5_byLaw (va_wsS RX5 117 yX5_isLaw wsX5_isLaw) := goodIn_app (goodIn_of _ (by decide +kernel)) ggX5_byLaw_X5_isLaw
set_option maxRecDepth 20000 in
theorem ggX5_byLaw_X5_refuse : GoodIn wsX5_byLaw wsX5_refuse := goodIn_r _ [11, 12, 80, 81, 82, 83, 84, 85, 86, 87, 88, 89] (by decide +kernel) (by decide +kernel)
set_option maxRecDepth 20000 in
theorem gX5_byLaw_X5_refuse : GoodIn wsX5_byLaw (wsV RX5 62 RX5 yX5_refuse wsX5_refuse) := goodIn_app (goodIn_of _ (by decide +kernel)) ggX5_byLaw_X5_refuse
set_option maxRecDepth 20000 in
theorem ggX5_byLaw_X5_lookAtNow : GoodIn wsX5_byLaw wsX5_lookAtNow := goodIn_r _ [16, 3, 1, 17, 18, 19, 20, 21, 22, 23, 24, 25, 26, 27, 28, 29, 30, 31, 32, 33, 34, 35, 36, 37, 38, 39, 40, 41, 42, 43, 44, 45, 46, 47, 48, 49, 50, 51, 52, 53, 54, 55, 56, 57, 58, 59, 60, 61, 62, 63, 64, 65, 66, 67, 68, 69, 70, 71, 72, 73, 74, 75, 80, 81, 82, 83, 84, 85, 86, 87, 88, 89, 90, 91, 92, 93, 94, 95, 96, 97, 98, 99, 100, 101, 102, 103, 104, 105, 106, 107, 108] (by decide +kernel) (by decide +kernel)
set_option maxRecDepth 20000 in
theorem gX5_byLaw_X5_lookAtNow : GoodIn wsX5_byLaw (wsV RX5 123 RX5 yX5_lookAtNow wsX5_lookAtNow) := goodIn_app (goodIn_of _ (by decide +kernel)) ggX5_byLaw_X5_lookAtNow
set_option maxRecDepth 20000 in
theorem ggX5_byLaw_X1_taxBy : GoodIn wsX5_byLaw wsX1_taxBy := goodIn_r _ [79, 43, 45, 34, 44, 23, 42, 100, 101, 102, 103, 104, 105, 106, 107, 108] (by decide +kernel) (by decide +kernel)
set_option maxRecDepth 20000 in
theorem gX5_byLaw_X1_taxBy : GoodIn wsX5_byLaw (wsV RX5 150 RX1 yX1_taxBy wsX1_taxBy) := goodIn_app (goodIn_of _ (by decide +kernel)) ggX5_byLaw_X1_taxBy
theorem dX5_byLaw_0 : decode cX5_byLaw 0 = .ok (.iload_n 1, 1) := by decide +kernel
theorem dX5_byLaw_1 : decode cX5_byLaw 1 = .ok (.invokestatic 117, 3) := by decide +kernel
theorem dX5_byLaw_4 : decode cX5_byLaw 4 = .ok (.ifCond .ne 10, 3) := by decide +kernel
theorem dX5_byLaw_7 : decode cX5_byLaw 7 = .ok (.aload_n 0, 1) := by decide +kernel
theorem dX5_byLaw_8 : decode cX5_byLaw 8 = .ok (.bipush (-2), 2) := by decide +kernel
theorem dX5_byLaw_10 : decode cX5_byLaw 10 = .ok (.invokevirtual 62, 3) := by decide +kernel
theorem dX5_byLaw_13 : decode cX5_byLaw 13 = .ok (.ireturn, 1) := by decide +kernel
theorem dX5_byLaw_14 : decode cX5_byLaw 14 = .ok (.aload_n 0, 1) := by decide +kernel
theorem dX5_byLaw_15 : decode cX5_byLaw 15 = .ok (.getfield 10, 3) := by decide +kernel
theorem dX5_byLaw_18 : decode cX5_byLaw 18 = .ok (.getfield 141, 3) := by decide +kernel
theorem dX5_byLaw_21 : decode cX5_byLaw 21 = .ok (.ifCond .ne 10, 3) := by decide +kernel
theorem dX5_byLaw_24 : decode cX5_byLaw 24 = .ok (.aload_n 0, 1) := by decide +kernel
theorem dX5_byLaw_25 : decode cX5_byLaw 25 = .ok (.bipush (-3), 2) := by decide +kernel
theorem dX5_byLaw_27 : decode cX5_byLaw 27 = .ok (.invokevirtual 62, 3) := by decide +kernel
theorem dX5_byLaw_30 : decode cX5_byLaw 30 = .ok (.ireturn, 1) := by decide +kernel
theorem dX5_byLaw_31 : decode cX5_byLaw 31 = .ok (.aload_n 0, 1) := by decide +kernel
theorem dX5_byLaw_32 : decode cX5_byLaw 32 = .ok (.invokevirtual 123, 3) := by decide +kernel
theorem dX5_byLaw_35 : decode cX5_byLaw 35 = .ok (.aload_n 0, 1) := by decide +kernel
theorem dX5_byLaw_36 : decode cX5_byLaw 36 = .ok (.getfield 33, 3) := by decide +kernel
theorem dX5_byLaw_39 : decode cX5_byLaw 39 = .ok (.iload_n 1, 1) := by decide +kernel
theorem dX5_byLaw_40 : decode cX5_byLaw 40 = .ok (.invokevirtual 150, 3) := by decide +kernel
theorem dX5_byLaw_43 : decode cX5_byLaw 43 = .ok (.ireturn, 1) := by decide +kernel
set_option maxRecDepth 20000 in
theorem ggX5_years_X5_refuseLong : GoodIn wsX5_years wsX5_refuseLong := goodIn_r _ [6, 7, 8, 9, 10, 5, 11, 12, 48, 49, 50, 51, 52, 53, 54, 55, 56, 57] (by decide +kernel) (by decide +kernel)
set_option maxRecDepth 20000 in
theorem gX5_years_X5_refuseLong : GoodIn wsX5_years (wsV RX5 196 RX5 yX5_refuseLong wsX5_refuseLong) := goodIn_app (goodIn_of _ (by decide +kernel)) ggX5_years_X5_refuseLong
set_option maxRecDepth 20000 in
theorem ggX5_years_X0_beginUnknown : GoodIn wsX5_years wsX0_beginUnknown := goodIn_r _ [17, 18, 19, 20, 21, 22, 23, 24, 25, 26, 27, 28, 29, 58, 59, 60, 61, 62, 63] (by decide +kernel) (by decide +kernel)
set_option maxRecDepth 20000 in
theorem gX5_years_X0_beginUnknown : GoodIn wsX5_years (wsV RX5 200 RX0 yX0_beginUnknown wsX0_beginUnknown) := goodIn_app (goodIn_of _ (by decide +kernel)) ggX5_years_X0_beginUnknown
set_option maxRecDepth 20000 in
theorem ggX5_years_X0_withLongest : GoodIn wsX5_years wsX0_withLongest := goodIn_r _ [33, 34, 35, 36, 16, 37, 23, 38, 22, 39, 40, 41, 42, 43, 25, 18, 19, 20, 21, 44, 45, 46, 47, 24, 58, 59, 60, 61, 62, 63] (by decide +kernel) (by decide +kernel)
set_option maxRecDepth 20000 in
theorem gX5_years_X0_withLongest : GoodIn wsX5_years (wsV RX5 203 RX0 yX0_withLongest wsX0_withLongest) := goodIn_app (goodIn_of _ (by decide +kernel)) ggX5_years_X0_withLongest
theorem dX5_years_0 : decode cX5_years 0 = .ok (.iload_n 1, 1) := by decide +kernel
theorem dX5_years_1 : decode cX5_years 1 = .ok (.iconst 1, 1) := by decide +kernel
theorem dX5_years_2 : decode cX5_years 2 = .ok (.if_icmp .lt 13, 3) := by decide +kernel
theorem dX5_years_5 : decode cX5_years 5 = .ok (.iload_n 2, 1) := by decide +kernel
theorem dX5_years_6 : decode cX5_years 6 = .ok (.iconst 1, 1) := by decide +kernel
theorem dX5_years_7 : decode cX5_years 7 = .ok (.if_icmp .lt 8, 3) := by decide +kernel
theorem dX5_years_10 : decode cX5_years 10 = .ok (.iload_n 3, 1) := by decide +kernel
theorem dX5_years_11 : decode cX5_years 11 = .ok (.iconst 1, 1) := by decide +kernel
theorem dX5_years_12 : decode cX5_years 12 = .ok (.if_icmp .ge 10, 3) := by decide +kernel
theorem dX5_years_15 : decode cX5_years 15 = .ok (.aload_n 0, 1) := by decide +kernel
theorem dX5_years_16 : decode cX5_years 16 = .ok (.bipush (-4), 2) := by decide +kernel
theorem dX5_years_18 : decode cX5_years 18 = .ok (.invokevirtual 196, 3) := by decide +kernel
theorem dX5_years_21 : decode cX5_years 21 = .ok (.lreturn, 1) := by decide +kernel
theorem dX5_years_22 : decode cX5_years 22 = .ok (.iload_n 1, 1) := by decide +kernel
theorem dX5_years_23 : decode cX5_years 23 = .ok (.bipush 20, 2) := by decide +kernel
theorem dX5_years_25 : decode cX5_years 25 = .ok (.if_icmp .gt 14, 3) := by decide +kernel
theorem dX5_years_28 : decode cX5_years 28 = .ok (.iload_n 2, 1) := by decide +kernel
theorem dX5_years_29 : decode cX5_years 29 = .ok (.iconst 4, 1) := by decide +kernel
theorem dX5_years_30 : decode cX5_years 30 = .ok (.if_icmp .gt 9, 3) := by decide +kernel
theorem dX5_years_33 : decode cX5_years 33 = .ok (.iload_n 3, 1) := by decide +kernel
theorem dX5_years_34 : decode cX5_years 34 = .ok (.bipush 20, 2) := by decide +kernel
theorem dX5_years_36 : decode cX5_years 36 = .ok (.if_icmp .le 10, 3) := by decide +kernel
theorem dX5_years_39 : decode cX5_years 39 = .ok (.aload_n 0, 1) := by decide +kernel
theorem dX5_years_40 : decode cX5_years 40 = .ok (.bipush (-6), 2) := by decide +kernel
theorem dX5_years_42 : decode cX5_years 42 = .ok (.invokevirtual 196, 3) := by decide +kernel
theorem dX5_years_45 : decode cX5_years 45 = .ok (.lreturn, 1) := by decide +kernel
theorem dX5_years_46 : decode cX5_years 46 = .ok (.aload_n 0, 1) := by decide +kernel
theorem dX5_years_47 : decode cX5_years 47 = .ok (.getfield 47, 3) := by decide +kernel
theorem dX5_years_50 : decode cX5_years 50 = .ok (.iload_n 1, 1) := by decide +kernel
theorem dX5_years_51 : decode cX5_years 51 = .ok (.iload_n 2, 1) := by decide +kernel
theorem dX5_years_52 : decode cX5_years 52 = .ok (.invokevirtual 200, 3) := by decide +kernel
theorem dX5_years_55 : decode cX5_years 55 = .ok (.aload_n 0, 1) := by decide +kernel
theorem dX5_years_56 : decode cX5_years 56 = .ok (.getfield 47, 3) := by decide +kernel
theorem dX5_years_59 : decode cX5_years 59 = .ok (.iload_n 3, 1) := by decide +kernel
theorem dX5_years_60 : decode cX5_years 60 = .ok (.invokevirtual 203, 3) := by decide +kernel
theorem dX5_years_63 : decode cX5_years 63 = .ok (.lreturn, 1) := by decide +kernel
set_option maxRecDepth 20000 in
theorem ggX5_row_X5_refuse : GoodIn wsX5_row wsX5_refuse := goodIn_r _ [7, 8, 9, 10, 11, 12, 13, 14, 15, 16, 17, 18] (by decide +kernel) (by decide +kernel)
set_option maxRecDepth 20000 in
theorem gX5_row_X5_refuse : GoodIn wsX5_row (wsV RX5 62 RX5 yX5_refuse wsX5_refuse) := goodIn_app (goodIn_of _ (by decide +kernel)) ggX5_row_X5_refuse
theorem dX5_row_0 : decode cX5_row 0 = .ok (.iload_n 1, 1) := by decide +kernel
theorem dX5_row_1 : decode cX5_row 1 = .ok (.ifCond .ge 10, 3) := by decide +kernel
theorem dX5_row_4 : decode cX5_row 4 = .ok (.aload_n 0, 1) := by decide +kernel
theorem dX5_row_5 : decode cX5_row 5 = .ok (.bipush (-4), 2) := by decide +kernel
theorem dX5_row_7 : decode cX5_row 7 = .ok (.invokevirtual 62, 3) := by decide +kernel
theorem dX5_row_10 : decode cX5_row 10 = .ok (.ireturn, 1) := by decide +kernel
theorem dX5_row_11 : decode cX5_row 11 = .ok (.iload_n 1, 1) := by decide +kernel
theorem dX5_row_12 : decode cX5_row 12 = .ok (.bipush 9, 2) := by decide +kernel
theorem dX5_row_14 : decode cX5_row 14 = .ok (.if_icmp .gt 15, 3) := by decide +kernel
theorem dX5_row_17 : decode cX5_row 17 = .ok (.aload_n 0, 1) := by decide +kernel
theorem dX5_row_18 : decode cX5_row 18 = .ok (.getfield 55, 3) := by decide +kernel
theorem dX5_row_21 : decode cX5_row 21 = .ok (.aload_n 0, 1) := by decide +kernel
theorem dX5_row_22 : decode cX5_row 22 = .ok (.getfield 51, 3) := by decide +kernel
theorem dX5_row_25 : decode cX5_row 25 = .ok (.arraylength, 1) := by decide +kernel
theorem dX5_row_26 : decode cX5_row 26 = .ok (.if_icmp .lt 10, 3) := by decide +kernel
theorem dX5_row_29 : decode cX5_row 29 = .ok (.aload_n 0, 1) := by decide +kernel
theorem dX5_row_30 : decode cX5_row 30 = .ok (.bipush (-6), 2) := by decide +kernel
theorem dX5_row_32 : decode cX5_row 32 = .ok (.invokevirtual 62, 3) := by decide +kernel
theorem dX5_row_35 : decode cX5_row 35 = .ok (.ireturn, 1) := by decide +kernel
theorem dX5_row_36 : decode cX5_row 36 = .ok (.aload_n 0, 1) := by decide +kernel
theorem dX5_row_37 : decode cX5_row 37 = .ok (.getfield 51, 3) := by decide +kernel
theorem dX5_row_40 : decode cX5_row 40 = .ok (.aload_n 0, 1) := by decide +kernel
theorem dX5_row_41 : decode cX5_row 41 = .ok (.getfield 55, 3) := by decide +kernel
theorem dX5_row_44 : decode cX5_row 44 = .ok (.iload_n 1, 1) := by decide +kernel
theorem dX5_row_45 : decode cX5_row 45 = .ok (.iastore, 1) := by decide +kernel
theorem dX5_row_46 : decode cX5_row 46 = .ok (.aload_n 0, 1) := by decide +kernel
theorem dX5_row_47 : decode cX5_row 47 = .ok (.dup, 1) := by decide +kernel
theorem dX5_row_48 : decode cX5_row 48 = .ok (.getfield 55, 3) := by decide +kernel
theorem dX5_row_51 : decode cX5_row 51 = .ok (.iconst 1, 1) := by decide +kernel
theorem dX5_row_52 : decode cX5_row 52 = .ok (.iadd, 1) := by decide +kernel
theorem dX5_row_53 : decode cX5_row 53 = .ok (.putfield 55, 3) := by decide +kernel
theorem dX5_row_56 : decode cX5_row 56 = .ok (.aload_n 0, 1) := by decide +kernel
theorem dX5_row_57 : decode cX5_row 57 = .ok (.getfield 55, 3) := by decide +kernel
theorem dX5_row_60 : decode cX5_row 60 = .ok (.ireturn, 1) := by decide +kernel
set_option maxRecDepth 20000 in
theorem ggX5_fitting_X5_refuseLong : GoodIn wsX5_fitting wsX5_refuseLong := goodIn_r _ [10, 11, 12, 13, 14, 9, 15, 16, 68, 69, 70, 71, 72, 73, 74, 75, 76, 77] (by decide +kernel) (by decide +kernel)
set_option maxRecDepth 20000 in
theorem gX5_fitting_X5_refuseLong : GoodIn wsX5_fitting (wsV RX5 196 RX5 yX5_refuseLong wsX5_refuseLong) := goodIn_app (goodIn_of _ (by decide +kernel)) ggX5_fitting_X5_refuseLong
set_option maxRecDepth 20000 in
theorem ggX5_fitting_X0_beginSeen : GoodIn wsX5_fitting wsX0_beginSeen := goodIn_r _ [21, 22, 23, 24, 25, 26, 27, 28, 29, 30, 31, 32, 33, 34, 35, 36, 37, 38, 39, 40, 41, 42, 43, 44, 45, 88, 89, 90, 91, 92, 93, 78, 79, 80, 81, 82, 83, 84, 85, 86, 87] (by decide +kernel) (by decide +kernel)
set_option maxRecDepth 20000 in
theorem gX5_fitting_X0_beginSeen : GoodIn wsX5_fitting (wsV RX5 206 RX0 yX0_beginSeen wsX0_beginSeen) := goodIn_app (goodIn_of _ (by decide +kernel)) ggX5_fitting_X0_beginSeen
set_option maxRecDepth 20000 in
theorem ggX5_fitting_X0_thatPay : GoodIn wsX5_fitting wsX0_thatPay := goodIn_r _ [49, 50, 51, 52, 20, 53, 54, 55, 56, 57, 28, 58, 26, 59, 60, 61, 62, 63, 34, 22, 23, 24, 25, 64, 65, 66, 67, 29, 88, 89, 90, 91, 92, 93] (by decide +kernel) (by decide +kernel)
set_option maxRecDepth 20000 in
theorem gX5_fitting_X0_thatPay : GoodIn wsX5_fitting (wsV RX5 210 RX0 yX0_thatPay wsX0_thatPay) := goodIn_app (goodIn_of _ (by decide +kernel)) ggX5_fitting_X0_thatPay
theorem dX5_fitting_0 : decode cX5_fitting 0 = .ok (.iload_n 1, 1) := by decide +kernel
theorem dX5_fitting_1 : decode cX5_fitting 1 = .ok (.ifCond .ge 10, 3) := by decide +kernel
theorem dX5_fitting_4 : decode cX5_fitting 4 = .ok (.aload_n 0, 1) := by decide +kernel
theorem dX5_fitting_5 : decode cX5_fitting 5 = .ok (.bipush (-4), 2) := by decide +kernel
theorem dX5_fitting_7 : decode cX5_fitting 7 = .ok (.invokevirtual 196, 3) := by decide +kernel
theorem dX5_fitting_10 : decode cX5_fitting 10 = .ok (.lreturn, 1) := by decide +kernel
theorem dX5_fitting_11 : decode cX5_fitting 11 = .ok (.iload_n 1, 1) := by decide +kernel
theorem dX5_fitting_12 : decode cX5_fitting 12 = .ok (.sipush 400, 3) := by decide +kernel
theorem dX5_fitting_15 : decode cX5_fitting 15 = .ok (.if_icmp .le 10, 3) := by decide +kernel
theorem dX5_fitting_18 : decode cX5_fitting 18 = .ok (.aload_n 0, 1) := by decide +kernel
theorem dX5_fitting_19 : decode cX5_fitting 19 = .ok (.bipush (-6), 2) := by decide +kernel
theorem dX5_fitting_21 : decode cX5_fitting 21 = .ok (.invokevirtual 196, 3) := by decide +kernel
theorem dX5_fitting_24 : decode cX5_fitting 24 = .ok (.lreturn, 1) := by decide +kernel
theorem dX5_fitting_25 : decode cX5_fitting 25 = .ok (.aload_n 0, 1) := by decide +kernel
theorem dX5_fitting_26 : decode cX5_fitting 26 = .ok (.getfield 10, 3) := by decide +kernel
theorem dX5_fitting_29 : decode cX5_fitting 29 = .ok (.getfield 141, 3) := by decide +kernel
theorem dX5_fitting_32 : decode cX5_fitting 32 = .ok (.ifCond .eq 10, 3) := by decide +kernel
theorem dX5_fitting_35 : decode cX5_fitting 35 = .ok (.aload_n 0, 1) := by decide +kernel
theorem dX5_fitting_36 : decode cX5_fitting 36 = .ok (.getfield 55, 3) := by decide +kernel
theorem dX5_fitting_39 : decode cX5_fitting 39 = .ok (.ifCond .ne 10, 3) := by decide +kernel
theorem dX5_fitting_42 : decode cX5_fitting 42 = .ok (.aload_n 0, 1) := by decide +kernel
theorem dX5_fitting_43 : decode cX5_fitting 43 = .ok (.bipush (-3), 2) := by decide +kernel
theorem dX5_fitting_45 : decode cX5_fitting 45 = .ok (.invokevirtual 196, 3) := by decide +kernel
theorem dX5_fitting_48 : decode cX5_fitting 48 = .ok (.lreturn, 1) := by decide +kernel
theorem dX5_fitting_49 : decode cX5_fitting 49 = .ok (.aload_n 0, 1) := by decide +kernel
theorem dX5_fitting_50 : decode cX5_fitting 50 = .ok (.getfield 47, 3) := by decide +kernel
theorem dX5_fitting_53 : decode cX5_fitting 53 = .ok (.aload_n 0, 1) := by decide +kernel
theorem dX5_fitting_54 : decode cX5_fitting 54 = .ok (.getfield 10, 3) := by decide +kernel
theorem dX5_fitting_57 : decode cX5_fitting 57 = .ok (.aload_n 0, 1) := by decide +kernel
theorem dX5_fitting_58 : decode cX5_fitting 58 = .ok (.getfield 51, 3) := by decide +kernel
theorem dX5_fitting_61 : decode cX5_fitting 61 = .ok (.aload_n 0, 1) := by decide +kernel
theorem dX5_fitting_62 : decode cX5_fitting 62 = .ok (.getfield 55, 3) := by decide +kernel
theorem dX5_fitting_65 : decode cX5_fitting 65 = .ok (.invokevirtual 206, 3) := by decide +kernel
theorem dX5_fitting_68 : decode cX5_fitting 68 = .ok (.aload_n 0, 1) := by decide +kernel
theorem dX5_fitting_69 : decode cX5_fitting 69 = .ok (.getfield 47, 3) := by decide +kernel
theorem dX5_fitting_72 : decode cX5_fitting 72 = .ok (.iload_n 1, 1) := by decide +kernel
theorem dX5_fitting_73 : decode cX5_fitting 73 = .ok (.invokevirtual 210, 3) := by decide +kernel
theorem dX5_fitting_76 : decode cX5_fitting 76 = .ok (.lreturn, 1) := by decide +kernel
set_option maxRecDepth 20000 in
theorem ggX5_likely_X4_hasThing : GoodIn wsX5_likely wsX4_hasThing := goodIn_r _ [9, 10, 89, 90, 91, 92, 93, 94, 95, 96, 97, 98] (by decide +kernel) (by decide +kernel)
set_option maxRecDepth 20000 in
theorem gX5_likely_X4_hasThing : GoodIn wsX5_likely (wsV RX5 77 RX4 yX4_hasThing wsX4_hasThing) := goodIn_app (goodIn_of _ (by decide +kernel)) ggX5_likely_X4_hasThing
set_option maxRecDepth 20000 in
theorem ggX5_likely_X5_refuseLong : GoodIn wsX5_likely wsX5_refuseLong := goodIn_r _ [15, 16, 17, 18, 19, 14, 20, 21, 79, 80, 81, 82, 83, 84, 85, 86, 87, 88] (by decide +kernel) (by decide +kernel)
set_option maxRecDepth 20000 in
theorem gX5_likely_X5_refuseLong : GoodIn wsX5_likely (wsV RX5 196 RX5 yX5_refuseLong wsX5_refuseLong) := goodIn_app (goodIn_of _ (by decide +kernel)) ggX5_likely_X5_refuseLong
set_option maxRecDepth 20000 in
theorem ggX5_likely_X0_beginSeen : GoodIn wsX5_likely wsX0_beginSeen := goodIn_r _ [26, 27, 28, 29, 30, 31, 32, 33, 34, 35, 36, 37, 38, 39, 40, 41, 42, 8, 43, 44, 45, 6, 7, 9, 10, 99, 100, 101, 102, 103, 104, 89, 90, 91, 92, 93, 94, 95, 96, 97, 98] (by decide +kernel) (by decide +kernel)
set_option maxRecDepth 20000 in
theorem gX5_likely_X0_beginSeen : GoodIn wsX5_likely (wsV RX5 206 RX0 yX0_beginSeen wsX0_beginSeen) := goodIn_app (goodIn_of _ (by decide +kernel)) ggX5_likely_X0_beginSeen
set_option maxRecDepth 20000 in
theorem ggX5_likely_X0_thatPay : GoodIn wsX5_likely wsX0_thatPay := goodIn_r _ [49, 50, 51, 52, 25, 53, 54, 55, 56, 57, 33, 58, 31, 59, 60, 61, 62, 63, 39, 27, 28, 29, 30, 64, 65, 66, 67, 34, 99, 100, 101, 102, 103, 104] (by decide +kernel) (by decide +kernel)
set_option maxRecDepth 20000 in
theorem gX5_likely_X0_thatPay : GoodIn wsX5_likely (wsV RX5 210 RX0 yX0_thatPay wsX0_thatPay) := goodIn_app (goodIn_of _ (by decide +kernel)) ggX5_likely_X0_thatPay
set_option maxRecDepth 20000 in
theorem ggX5_likely_X0_thatPayWith : GoodIn wsX5_likely wsX0_thatPayWith := goodIn_r _ [71, 31, 34, 64, 65, 66, 25, 67, 72, 47, 48, 49, 50, 51, 52, 53, 54, 55, 56, 57, 33, 58, 59, 60, 61, 62, 63, 39, 27, 28, 29, 30, 99, 100, 101, 102, 103, 104] (by decide +kernel) (by decide +kernel)
set_option maxRecDepth 20000 in
theorem gX5_likely_X0_thatPayWith : GoodIn wsX5_likely (wsV RX5 213 RX0 yX0_thatPayWith wsX0_thatPayWith) := goodIn_app (goodIn_of _ (by decide +kernel)) ggX5_likely_X0_thatPayWith
set_option maxRecDepth 20000 in
theorem ggX5_likely_X5_inLeastTerms : GoodIn wsX5_likely wsX5_inLeastTerms := goodIn_r _ [75, 76, 77, 14, 78] (by decide +kernel) (by decide +kernel)
set_option maxRecDepth 20000 in
theorem gX5_likely_X5_inLeastTerms : GoodIn wsX5_likely (va_wsS RX5 217 yX5_inLeastTerms wsX5_inLeastTerms) := goodIn_app (goodIn_of _ (by decide +kernel)) ggX5_likely_X5_inLeastTerms
theorem dX5_likely_0 : decode cX5_likely 0 = .ok (.iload_n 2, 1) := by decide +kernel
theorem dX5_likely_1 : decode cX5_likely 1 = .ok (.ifCond .lt 22, 3) := by decide +kernel
theorem dX5_likely_4 : decode cX5_likely 4 = .ok (.iload_n 2, 1) := by decide +kernel
theorem dX5_likely_5 : decode cX5_likely 5 = .ok (.aload_n 0, 1) := by decide +kernel
theorem dX5_likely_6 : decode cX5_likely 6 = .ok (.getfield 55, 3) := by decide +kernel
theorem dX5_likely_9 : decode cX5_likely 9 = .ok (.if_icmp .ge 14, 3) := by decide +kernel
theorem dX5_likely_12 : decode cX5_likely 12 = .ok (.aload_n 0, 1) := by decide +kernel
theorem dX5_likely_13 : decode cX5_likely 13 = .ok (.getfield 10, 3) := by decide +kernel
theorem dX5_likely_16 : decode cX5_likely 16 = .ok (.iload_n 3, 1) := by decide +kernel
theorem dX5_likely_17 : decode cX5_likely 17 = .ok (.invokevirtual 77, 3) := by decide +kernel
theorem dX5_likely_20 : decode cX5_likely 20 = .ok (.ifCond .ne 9, 3) := by decide +kernel
theorem dX5_likely_23 : decode cX5_likely 23 = .ok (.aload_n 0, 1) := by decide +kernel
theorem dX5_likely_24 : decode cX5_likely 24 = .ok (.iconst (-1), 1) := by decide +kernel
theorem dX5_likely_25 : decode cX5_likely 25 = .ok (.invokevirtual 196, 3) := by decide +kernel
theorem dX5_likely_28 : decode cX5_likely 28 = .ok (.lreturn, 1) := by decide +kernel
theorem dX5_likely_29 : decode cX5_likely 29 = .ok (.iload_n 1, 1) := by decide +kernel
theorem dX5_likely_30 : decode cX5_likely 30 = .ok (.ifCond .ge 10, 3) := by decide +kernel
theorem dX5_likely_33 : decode cX5_likely 33 = .ok (.aload_n 0, 1) := by decide +kernel
theorem dX5_likely_34 : decode cX5_likely 34 = .ok (.bipush (-4), 2) := by decide +kernel
theorem dX5_likely_36 : decode cX5_likely 36 = .ok (.invokevirtual 196, 3) := by decide +kernel
theorem dX5_likely_39 : decode cX5_likely 39 = .ok (.lreturn, 1) := by decide +kernel
theorem dX5_likely_40 : decode cX5_likely 40 = .ok (.iload_n 1, 1) := by decide +kernel
theorem dX5_likely_41 : decode cX5_likely 41 = .ok (.sipush 400, 3) := by decide +kernel
theorem dX5_likely_44 : decode cX5_likely 44 = .ok (.if_icmp .le 10, 3) := by decide +kernel
theorem dX5_likely_47 : decode cX5_likely 47 = .ok (.aload_n 0, 1) := by decide +kernel
theorem dX5_likely_48 : decode cX5_likely 48 = .ok (.bipush (-6), 2) := by decide +kernel
theorem dX5_likely_50 : decode cX5_likely 50 = .ok (.invokevirtual 196, 3) := by decide +kernel
theorem dX5_likely_53 : decode cX5_likely 53 = .ok (.lreturn, 1) := by decide +kernel
theorem dX5_likely_54 : decode cX5_likely 54 = .ok (.iload 4, 2) := by decide +kernel
theorem dX5_likely_56 : decode cX5_likely 56 = .ok (.ifCond .eq 16, 3) := by decide +kernel
theorem dX5_likely_59 : decode cX5_likely 59 = .ok (.iload 4, 2) := by decide +kernel
theorem dX5_likely_61 : decode cX5_likely 61 = .ok (.iconst 1, 1) := by decide +kernel
theorem dX5_likely_62 : decode cX5_likely 62 = .ok (.if_icmp .eq 10, 3) := by decide +kernel
theorem dX5_likely_65 : decode cX5_likely 65 = .ok (.aload_n 0, 1) := by decide +kernel
theorem dX5_likely_66 : decode cX5_likely 66 = .ok (.bipush (-2), 2) := by decide +kernel
theorem dX5_likely_68 : decode cX5_likely 68 = .ok (.invokevirtual 196, 3) := by decide +kernel
theorem dX5_likely_71 : decode cX5_likely 71 = .ok (.lreturn, 1) := by decide +kernel
theorem dX5_likely_72 : decode cX5_likely 72 = .ok (.aload_n 0, 1) := by decide +kernel
theorem dX5_likely_73 : decode cX5_likely 73 = .ok (.getfield 47, 3) := by decide +kernel
theorem dX5_likely_76 : decode cX5_likely 76 = .ok (.aload_n 0, 1) := by decide +kernel
theorem dX5_likely_77 : decode cX5_likely 77 = .ok (.getfield 10, 3) := by decide +kernel
theorem dX5_likely_80 : decode cX5_likely 80 = .ok (.aload_n 0, 1) := by decide +kernel
theorem dX5_likely_81 : decode cX5_likely 81 = .ok (.getfield 51, 3) := by decide +kernel
theorem dX5_likely_84 : decode cX5_likely 84 = .ok (.aload_n 0, 1) := by decide +kernel
theorem dX5_likely_85 : decode cX5_likely 85 = .ok (.getfield 55, 3) := by decide +kernel
theorem dX5_likely_88 : decode cX5_likely 88 = .ok (.invokevirtual 206, 3) := by decide +kernel
theorem dX5_likely_91 : decode cX5_likely 91 = .ok (.aload_n 0, 1) := by decide +kernel
theorem dX5_likely_92 : decode cX5_likely 92 = .ok (.getfield 47, 3) := by decide +kernel
theorem dX5_likely_95 : decode cX5_likely 95 = .ok (.iload_n 1, 1) := by decide +kernel
theorem dX5_likely_96 : decode cX5_likely 96 = .ok (.invokevirtual 210, 3) := by decide +kernel
theorem dX5_likely_99 : decode cX5_likely 99 = .ok (.lstore 5, 2) := by decide +kernel
theorem dX5_likely_101 : decode cX5_likely 101 = .ok (.aload_n 0, 1) := by decide +kernel
theorem dX5_likely_102 : decode cX5_likely 102 = .ok (.getfield 47, 3) := by decide +kernel
theorem dX5_likely_105 : decode cX5_likely 105 = .ok (.iload_n 1, 1) := by decide +kernel
theorem dX5_likely_106 : decode cX5_likely 106 = .ok (.iload_n 2, 1) := by decide +kernel
theorem dX5_likely_107 : decode cX5_likely 107 = .ok (.iload_n 3, 1) := by decide +kernel
theorem dX5_likely_108 : decode cX5_likely 108 = .ok (.invokevirtual 213, 3) := by decide +kernel
theorem dX5_likely_111 : decode cX5_likely 111 = .ok (.lstore 7, 2) := by decide +kernel
theorem dX5_likely_113 : decode cX5_likely 113 = .ok (.lload 7, 2) := by decide +kernel
theorem dX5_likely_115 : decode cX5_likely 115 = .ok (.lload 5, 2) := by decide +kernel
theorem dX5_likely_117 : decode cX5_likely 117 = .ok (.iload 4, 2) := by decide +kernel
theorem dX5_likely_119 : decode cX5_likely 119 = .ok (.invokestatic 217, 3) := by decide +kernel
theorem dX5_likely_122 : decode cX5_likely 122 = .ok (.lreturn, 1) := by decide +kernel
set_option maxRecDepth 20000 in
theorem ggX5_judge_X5_verdictOnRow : GoodIn wsX5_judge wsX5_verdictOnRow := goodIn_r _ [6, 1, 7, 8, 9, 10, 11, 12, 13, 14, 15, 16, 17, 18, 19, 20, 21, 22, 23, 24, 25, 26, 27, 28, 29, 30, 31, 32, 33, 34] (by decide +kernel) (by decide +kernel)
set_option maxRecDepth 20000 in
theorem gX5_judge_X5_verdictOnRow : GoodIn wsX5_judge (wsV RX5 221 RX5 yX5_verdictOnRow wsX5_verdictOnRow) := goodIn_app (goodIn_of _ (by decide +kernel)) ggX5_judge_X5_verdictOnRow
theorem dX5_judge_0 : decode cX5_judge 0 = .ok (.aload_n 0, 1) := by decide +kernel
theorem dX5_judge_1 : decode cX5_judge 1 = .ok (.invokevirtual 221, 3) := by decide +kernel
theorem dX5_judge_4 : decode cX5_judge 4 = .ok (.istore_n 1, 1) := by decide +kernel
theorem dX5_judge_5 : decode cX5_judge 5 = .ok (.aload_n 0, 1) := by decide +kernel
theorem dX5_judge_6 : decode cX5_judge 6 = .ok (.iconst 0, 1) := by decide +kernel
theorem dX5_judge_7 : decode cX5_judge 7 = .ok (.putfield 55, 3) := by decide +kernel
theorem dX5_judge_10 : decode cX5_judge 10 = .ok (.iload_n 1, 1) := by decide +kernel
theorem dX5_judge_11 : decode cX5_judge 11 = .ok (.ireturn, 1) := by decide +kernel
set_option maxRecDepth 20000 in
theorem ggX5_seeds_X5_refuseAmount : GoodIn wsX5_seeds wsX5_refuseAmount := goodIn_r _ [9, 10, 11, 12, 13, 8, 14, 15, 83, 84, 85, 86, 87, 88, 89, 90, 91, 92] (by decide +kernel) (by decide +kernel)
set_option maxRecDepth 20000 in
theorem gX5_seeds_X5_refuseAmount : GoodIn wsX5_seeds (wsV RX5 138 RX5 yX5_refuseAmount wsX5_refuseAmount) := goodIn_app (goodIn_of _ (by decide +kernel)) ggX5_seeds_X5_refuseAmount
set_option maxRecDepth 20000 in
theorem ggX5_seeds_X1_drawYear : GoodIn wsX5_seeds wsX1_drawYear := goodIn_r _ [20, 21, 22, 23, 24, 25, 26, 27, 28, 93, 94, 95, 96, 97, 98, 99, 100, 101, 102, 103, 104, 105, 106, 107, 108, 109, 110, 111] (by decide +kernel) (by decide +kernel)
set_option maxRecDepth 20000 in
theorem gX5_seeds_X1_drawYear : GoodIn wsX5_seeds (wsV RX5 224 RX1 yX1_drawYear wsX1_drawYear) := goodIn_app (goodIn_of _ (by decide +kernel)) ggX5_seeds_X1_drawYear
set_option maxRecDepth 20000 in
theorem ggX5_seeds_X1_tally : GoodIn wsX5_seeds wsX1_tally := goodIn_r _ [32, 22, 24, 33, 34, 35, 36, 37, 38, 19, 39, 40, 41, 42, 43, 44, 45, 46, 47, 48, 49, 50, 51, 52, 53, 54, 55, 56, 57, 58, 59, 60, 61, 62, 63, 64, 65, 66, 67, 68, 69, 70, 71, 72, 73, 74, 103, 104, 105, 106, 107, 108, 109, 110, 111, 93, 94, 95, 96, 97, 98, 99, 100, 101, 102] (by decide +kernel) (by decide +kernel)
set_option maxRecDepth 20000 in
theorem gX5_seeds_X1_tally : GoodIn wsX5_seeds (wsV RX5 190 RX1 yX1_tally wsX1_tally) := goodIn_app (goodIn_of _ (by decide +kernel)) ggX5_seeds_X1_tally
set_option maxRecDepth 20000 in
theorem ggX5_seeds_X1_leftBy : GoodIn wsX5_seeds wsX1_leftBy := goodIn_r _ [78, 34, 79, 80, 81, 19, 82, 42, 44, 33, 43, 22, 41, 103, 104, 105, 106, 107, 108, 109, 110, 111] (by decide +kernel) (by decide +kernel)
set_option maxRecDepth 20000 in
theorem gX5_seeds_X1_leftBy : GoodIn wsX5_seeds (wsV RX5 193 RX1 yX1_leftBy wsX1_leftBy) := goodIn_app (goodIn_of _ (by decide +kernel)) ggX5_seeds_X1_leftBy
theorem dX5_seeds_0 : decode cX5_seeds 0 = .ok (.iload_n 1, 1) := by decide +kernel
theorem dX5_seeds_1 : decode cX5_seeds 1 = .ok (.iconst 1, 1) := by decide +kernel
theorem dX5_seeds_2 : decode cX5_seeds 2 = .ok (.if_icmp .ge 10, 3) := by decide +kernel
theorem dX5_seeds_5 : decode cX5_seeds 5 = .ok (.aload_n 0, 1) := by decide +kernel
theorem dX5_seeds_6 : decode cX5_seeds 6 = .ok (.bipush (-4), 2) := by decide +kernel
theorem dX5_seeds_8 : decode cX5_seeds 8 = .ok (.invokevirtual 138, 3) := by decide +kernel
theorem dX5_seeds_11 : decode cX5_seeds 11 = .ok (.ireturn, 1) := by decide +kernel
theorem dX5_seeds_12 : decode cX5_seeds 12 = .ok (.iload_n 1, 1) := by decide +kernel
theorem dX5_seeds_13 : decode cX5_seeds 13 = .ok (.bipush 20, 2) := by decide +kernel
theorem dX5_seeds_15 : decode cX5_seeds 15 = .ok (.if_icmp .le 10, 3) := by decide +kernel
theorem dX5_seeds_18 : decode cX5_seeds 18 = .ok (.aload_n 0, 1) := by decide +kernel
theorem dX5_seeds_19 : decode cX5_seeds 19 = .ok (.bipush (-6), 2) := by decide +kernel
theorem dX5_seeds_21 : decode cX5_seeds 21 = .ok (.invokevirtual 138, 3) := by decide +kernel
theorem dX5_seeds_24 : decode cX5_seeds 24 = .ok (.ireturn, 1) := by decide +kernel
theorem dX5_seeds_25 : decode cX5_seeds 25 = .ok (.aload_n 0, 1) := by decide +kernel
theorem dX5_seeds_26 : decode cX5_seeds 26 = .ok (.getfield 10, 3) := by decide +kernel
theorem dX5_seeds_29 : decode cX5_seeds 29 = .ok (.getfield 141, 3) := by decide +kernel
theorem dX5_seeds_32 : decode cX5_seeds 32 = .ok (.ifCond .ne 10, 3) := by decide +kernel
theorem dX5_seeds_35 : decode cX5_seeds 35 = .ok (.aload_n 0, 1) := by decide +kernel
theorem dX5_seeds_36 : decode cX5_seeds 36 = .ok (.bipush (-3), 2) := by decide +kernel
theorem dX5_seeds_38 : decode cX5_seeds 38 = .ok (.invokevirtual 138, 3) := by decide +kernel
theorem dX5_seeds_41 : decode cX5_seeds 41 = .ok (.ireturn, 1) := by decide +kernel
theorem dX5_seeds_42 : decode cX5_seeds 42 = .ok (.iload_n 2, 1) := by decide +kernel
theorem dX5_seeds_43 : decode cX5_seeds 43 = .ok (.istore_n 3, 1) := by decide +kernel
theorem dX5_seeds_44 : decode cX5_seeds 44 = .ok (.iconst 0, 1) := by decide +kernel
theorem dX5_seeds_45 : decode cX5_seeds 45 = .ok (.istore 4, 2) := by decide +kernel
theorem dX5_seeds_47 : decode cX5_seeds 47 = .ok (.iconst 0, 1) := by decide +kernel
theorem dX5_seeds_48 : decode cX5_seeds 48 = .ok (.istore 5, 2) := by decide +kernel
theorem dX5_seeds_50 : decode cX5_seeds 50 = .ok (.iload 5, 2) := by decide +kernel
theorem dX5_seeds_52 : decode cX5_seeds 52 = .ok (.iload_n 1, 1) := by decide +kernel
theorem dX5_seeds_53 : decode cX5_seeds 53 = .ok (.if_icmp .ge 52, 3) := by decide +kernel
theorem dX5_seeds_56 : decode cX5_seeds 56 = .ok (.aload_n 0, 1) := by decide +kernel
theorem dX5_seeds_57 : decode cX5_seeds 57 = .ok (.getfield 33, 3) := by decide +kernel
theorem dX5_seeds_60 : decode cX5_seeds 60 = .ok (.aload_n 0, 1) := by decide +kernel
theorem dX5_seeds_61 : decode cX5_seeds 61 = .ok (.getfield 10, 3) := by decide +kernel
theorem dX5_seeds_64 : decode cX5_seeds 64 = .ok (.iload_n 3, 1) := by decide +kernel
theorem dX5_seeds_65 : decode cX5_seeds 65 = .ok (.invokevirtual 224, 3) := by decide +kernel
theorem dX5_seeds_68 : decode cX5_seeds 68 = .ok (.istore_n 3, 1) := by decide +kernel
theorem dX5_seeds_69 : decode cX5_seeds 69 = .ok (.aload_n 0, 1) := by decide +kernel
theorem dX5_seeds_70 : decode cX5_seeds 70 = .ok (.getfield 33, 3) := by decide +kernel
theorem dX5_seeds_73 : decode cX5_seeds 73 = .ok (.aload_n 0, 1) := by decide +kernel
theorem dX5_seeds_74 : decode cX5_seeds 74 = .ok (.getfield 10, 3) := by decide +kernel
theorem dX5_seeds_77 : decode cX5_seeds 77 = .ok (.invokevirtual 190, 3) := by decide +kernel
theorem dX5_seeds_80 : decode cX5_seeds 80 = .ok (.iload 4, 2) := by decide +kernel
theorem dX5_seeds_82 : decode cX5_seeds 82 = .ok (.aload_n 0, 1) := by decide +kernel
theorem dX5_seeds_83 : decode cX5_seeds 83 = .ok (.getfield 33, 3) := by decide +kernel
theorem dX5_seeds_86 : decode cX5_seeds 86 = .ok (.aload_n 0, 1) := by decide +kernel
theorem dX5_seeds_87 : decode cX5_seeds 87 = .ok (.getfield 10, 3) := by decide +kernel
theorem dX5_seeds_90 : decode cX5_seeds 90 = .ok (.getfield 120, 3) := by decide +kernel
theorem dX5_seeds_93 : decode cX5_seeds 93 = .ok (.invokevirtual 193, 3) := by decide +kernel
theorem dX5_seeds_96 : decode cX5_seeds 96 = .ok (.iadd, 1) := by decide +kernel
theorem dX5_seeds_97 : decode cX5_seeds 97 = .ok (.istore 4, 2) := by decide +kernel
theorem dX5_seeds_99 : decode cX5_seeds 99 = .ok (.iinc 5 1, 3) := by decide +kernel
theorem dX5_seeds_102 : decode cX5_seeds 102 = .ok (.goto (-52), 3) := by decide +kernel
theorem dX5_seeds_105 : decode cX5_seeds 105 = .ok (.iload 4, 2) := by decide +kernel
theorem dX5_seeds_107 : decode cX5_seeds 107 = .ok (.ireturn, 1) := by decide +kernel
set_option maxRecDepth 20000 in
theorem ggX5_image_X4_copyFrom : GoodIn wsX5_image wsX4_copyFrom := goodIn_r _ [9, 10, 11, 12, 13, 14, 15, 16, 17, 18, 19, 20, 21, 22, 23, 34, 35, 36, 37, 38, 39, 40, 41, 42, 43] (by decide +kernel) (by decide +kernel)
set_option maxRecDepth 20000 in
theorem gX5_image_X4_copyFrom : GoodIn wsX5_image (wsV RX5 227 RX4 yX4_copyFrom wsX4_copyFrom) := goodIn_app (goodIn_of _ (by decide +kernel)) ggX5_image_X4_copyFrom
theorem dX5_image_0 : decode cX5_image 0 = .ok (.aload_n 0, 1) := by decide +kernel
theorem dX5_image_1 : decode cX5_image 1 = .ok (.getfield 16, 3) := by decide +kernel
theorem dX5_image_4 : decode cX5_image 4 = .ok (.aload_n 0, 1) := by decide +kernel
theorem dX5_image_5 : decode cX5_image 5 = .ok (.getfield 10, 3) := by decide +kernel
theorem dX5_image_8 : decode cX5_image 8 = .ok (.invokevirtual 227, 3) := by decide +kernel
theorem dX5_image_11 : decode cX5_image 11 = .ok (.aload_n 0, 1) := by decide +kernel
theorem dX5_image_12 : decode cX5_image 12 = .ok (.iconst 1, 1) := by decide +kernel
theorem dX5_image_13 : decode cX5_image 13 = .ok (.putfield 19, 3) := by decide +kernel
theorem dX5_image_16 : decode cX5_image 16 = .ok (.aload_n 0, 1) := by decide +kernel
theorem dX5_image_17 : decode cX5_image 17 = .ok (.getfield 10, 3) := by decide +kernel
theorem dX5_image_20 : decode cX5_image 20 = .ok (.getfield 180, 3) := by decide +kernel
theorem dX5_image_23 : decode cX5_image 23 = .ok (.ireturn, 1) := by decide +kernel
set_option maxRecDepth 20000 in
theorem ggX5_on_X5_refuse : GoodIn wsX5_on wsX5_refuse := goodIn_r _ [9, 10, 30, 31, 32, 33, 34, 35, 36, 37, 38, 39] (by decide +kernel) (by decide +kernel)
set_option maxRecDepth 20000 in
theorem gX5_on_X5_refuse : GoodIn wsX5_on (wsV RX5 62 RX5 yX5_refuse wsX5_refuse) := goodIn_app (goodIn_of _ (by decide +kernel)) ggX5_on_X5_refuse
set_option maxRecDepth 20000 in
theorem ggX5_on_X4_copyFrom : GoodIn wsX5_on wsX4_copyFrom := goodIn_r _ [15, 16, 17, 18, 19, 20, 21, 22, 23, 24, 25, 26, 27, 28, 29, 40, 41, 42, 43, 44, 45, 46, 47, 48, 49] (by decide +kernel) (by decide +kernel)
set_option maxRecDepth 20000 in
theorem gX5_on_X4_copyFrom : GoodIn wsX5_on (wsV RX5 227 RX4 yX4_copyFrom wsX4_copyFrom) := goodIn_app (goodIn_of _ (by decide +kernel)) ggX5_on_X4_copyFrom
theorem dX5_on_0 : decode cX5_on 0 = .ok (.aload_n 0, 1) := by decide +kernel
theorem dX5_on_1 : decode cX5_on 1 = .ok (.getfield 19, 3) := by decide +kernel
theorem dX5_on_4 : decode cX5_on 4 = .ok (.ifCond .ne 10, 3) := by decide +kernel
theorem dX5_on_7 : decode cX5_on 7 = .ok (.aload_n 0, 1) := by decide +kernel
theorem dX5_on_8 : decode cX5_on 8 = .ok (.bipush (-3), 2) := by decide +kernel
theorem dX5_on_10 : decode cX5_on 10 = .ok (.invokevirtual 62, 3) := by decide +kernel
theorem dX5_on_13 : decode cX5_on 13 = .ok (.ireturn, 1) := by decide +kernel
theorem dX5_on_14 : decode cX5_on 14 = .ok (.aload_n 0, 1) := by decide +kernel
theorem dX5_on_15 : decode cX5_on 15 = .ok (.getfield 10, 3) := by decide +kernel
theorem dX5_on_18 : decode cX5_on 18 = .ok (.aload_n 0, 1) := by decide +kernel
theorem dX5_on_19 : decode cX5_on 19 = .ok (.getfield 16, 3) := by decide +kernel
theorem dX5_on_22 : decode cX5_on 22 = .ok (.invokevirtual 227, 3) := by decide +kernel
theorem dX5_on_25 : decode cX5_on 25 = .ok (.aload_n 0, 1) := by decide +kernel
theorem dX5_on_26 : decode cX5_on 26 = .ok (.getfield 10, 3) := by decide +kernel
theorem dX5_on_29 : decode cX5_on 29 = .ok (.getfield 180, 3) := by decide +kernel
theorem dX5_on_32 : decode cX5_on 32 = .ok (.ireturn, 1) := by decide +kernel
set_option maxRecDepth 20000 in
theorem ggX5_count_X5_lookAtNow : GoodIn wsX5_count wsX5_lookAtNow := goodIn_r _ [16, 6, 1, 17, 18, 19, 20, 21, 22, 23, 24, 25, 26, 27, 28, 29, 30, 31, 32, 33, 34, 35, 36, 37, 38, 39, 40, 41, 42, 43, 44, 45, 46, 47, 48, 49, 50, 51, 52, 53, 54, 55, 56, 57, 58, 59, 60, 61, 62, 63, 64, 65, 66, 67, 68, 69, 70, 71, 72, 73, 74, 75, 82, 83, 84, 85, 86, 87, 88, 89, 90, 91, 92, 93, 94, 95, 96, 97, 98, 99, 100, 101, 102, 103, 104, 105, 106, 107, 108, 109, 110] (by decide +kernel) (by decide +kernel)
set_option maxRecDepth 20000 in
theorem gX5_count_X5_lookAtNow : GoodIn wsX5_count (wsV RX5 123 RX5 yX5_lookAtNow wsX5_lookAtNow) := goodIn_app (goodIn_of _ (by decide +kernel)) ggX5_count_X5_lookAtNow
set_option maxRecDepth 20000 in
theorem ggX5_count_X4_boundDays : GoodIn wsX5_count wsX4_boundDays := goodIn_r _ [79, 80, 81, 92, 93, 94, 95, 96, 97, 98, 99, 100, 101] (by decide +kernel) (by decide +kernel)
set_option maxRecDepth 20000 in
theorem gX5_count_X4_boundDays : GoodIn wsX5_count (wsV RX5 233 RX4 yX4_boundDays wsX4_boundDays) := goodIn_app (goodIn_of _ (by decide +kernel)) ggX5_count_X4_boundDays
theorem dX5_count_0 : decode cX5_count 0 = .ok (.iload_n 1, 1) := by decide +kernel
theorem dX5_count_1 : decode cX5_count 1 = .ok (.tableswitch 112 0 7 #[47, 55, 63, 71, 79, 91, 99, 104], 47) := by decide +kernel
theorem dX5_count_48 : decode cX5_count 48 = .ok (.aload_n 0, 1) := by decide +kernel
theorem dX5_count_49 : decode cX5_count 49 = .ok (.getfield 10, 3) := by decide +kernel
theorem dX5_count_52 : decode cX5_count 52 = .ok (.getfield 141, 3) := by decide +kernel
theorem dX5_count_55 : decode cX5_count 55 = .ok (.ireturn, 1) := by decide +kernel
theorem dX5_count_56 : decode cX5_count 56 = .ok (.aload_n 0, 1) := by decide +kernel
theorem dX5_count_57 : decode cX5_count 57 = .ok (.getfield 10, 3) := by decide +kernel
theorem dX5_count_60 : decode cX5_count 60 = .ok (.getfield 180, 3) := by decide +kernel
theorem dX5_count_63 : decode cX5_count 63 = .ok (.ireturn, 1) := by decide +kernel
theorem dX5_count_64 : decode cX5_count 64 = .ok (.aload_n 0, 1) := by decide +kernel
theorem dX5_count_65 : decode cX5_count 65 = .ok (.getfield 10, 3) := by decide +kernel
theorem dX5_count_68 : decode cX5_count 68 = .ok (.getfield 114, 3) := by decide +kernel
theorem dX5_count_71 : decode cX5_count 71 = .ok (.ireturn, 1) := by decide +kernel
theorem dX5_count_72 : decode cX5_count 72 = .ok (.aload_n 0, 1) := by decide +kernel
theorem dX5_count_73 : decode cX5_count 73 = .ok (.getfield 10, 3) := by decide +kernel
theorem dX5_count_76 : decode cX5_count 76 = .ok (.getfield 120, 3) := by decide +kernel
theorem dX5_count_79 : decode cX5_count 79 = .ok (.ireturn, 1) := by decide +kernel
theorem dX5_count_80 : decode cX5_count 80 = .ok (.aload_n 0, 1) := by decide +kernel
theorem dX5_count_81 : decode cX5_count 81 = .ok (.invokevirtual 123, 3) := by decide +kernel
theorem dX5_count_84 : decode cX5_count 84 = .ok (.aload_n 0, 1) := by decide +kernel
theorem dX5_count_85 : decode cX5_count 85 = .ok (.getfield 33, 3) := by decide +kernel
theorem dX5_count_88 : decode cX5_count 88 = .ok (.getfield 230, 3) := by decide +kernel
theorem dX5_count_91 : decode cX5_count 91 = .ok (.ireturn, 1) := by decide +kernel
theorem dX5_count_92 : decode cX5_count 92 = .ok (.aload_n 0, 1) := by decide +kernel
theorem dX5_count_93 : decode cX5_count 93 = .ok (.getfield 10, 3) := by decide +kernel
theorem dX5_count_96 : decode cX5_count 96 = .ok (.invokevirtual 233, 3) := by decide +kernel
theorem dX5_count_99 : decode cX5_count 99 = .ok (.ireturn, 1) := by decide +kernel
theorem dX5_count_100 : decode cX5_count 100 = .ok (.aload_n 0, 1) := by decide +kernel
theorem dX5_count_101 : decode cX5_count 101 = .ok (.getfield 55, 3) := by decide +kernel
theorem dX5_count_104 : decode cX5_count 104 = .ok (.ireturn, 1) := by decide +kernel
theorem dX5_count_105 : decode cX5_count 105 = .ok (.aload_n 0, 1) := by decide +kernel
theorem dX5_count_106 : decode cX5_count 106 = .ok (.getfield 26, 3) := by decide +kernel
theorem dX5_count_109 : decode cX5_count 109 = .ok (.getfield 236, 3) := by decide +kernel
theorem dX5_count_112 : decode cX5_count 112 = .ok (.ireturn, 1) := by decide +kernel
theorem dX5_count_113 : decode cX5_count 113 = .ok (.iload_n 1, 1) := by decide +kernel
theorem dX5_count_114 : decode cX5_count 114 = .ok (.bipush 11, 2) := by decide +kernel
theorem dX5_count_116 : decode cX5_count 116 = .ok (.if_icmp .lt 21, 3) := by decide +kernel
theorem dX5_count_119 : decode cX5_count 119 = .ok (.iload_n 1, 1) := by decide +kernel
theorem dX5_count_120 : decode cX5_count 120 = .ok (.bipush 16, 2) := by decide +kernel
theorem dX5_count_122 : decode cX5_count 122 = .ok (.if_icmp .gt 15, 3) := by decide +kernel
theorem dX5_count_125 : decode cX5_count 125 = .ok (.aload_n 0, 1) := by decide +kernel
theorem dX5_count_126 : decode cX5_count 126 = .ok (.getfield 59, 3) := by decide +kernel
theorem dX5_count_129 : decode cX5_count 129 = .ok (.iload_n 1, 1) := by decide +kernel
theorem dX5_count_130 : decode cX5_count 130 = .ok (.bipush 10, 2) := by decide +kernel
theorem dX5_count_132 : decode cX5_count 132 = .ok (.isub, 1) := by decide +kernel
theorem dX5_count_133 : decode cX5_count 133 = .ok (.iaload, 1) := by decide +kernel
theorem dX5_count_134 : decode cX5_count 134 = .ok (.goto 5, 3) := by decide +kernel
theorem dX5_count_137 : decode cX5_count 137 = .ok (.bipush (-9), 2) := by decide +kernel
theorem dX5_count_139 : decode cX5_count 139 = .ok (.ireturn, 1) := by decide +kernel
theorem dX5_refuse_0 : decode cX5_refuse 0 = .ok (.iload_n 1, 1) := by decide +kernel
theorem dX5_refuse_1 : decode cX5_refuse 1 = .ok (.ineg, 1) := by decide +kernel
theorem dX5_refuse_2 : decode cX5_refuse 2 = .ok (.istore_n 2, 1) := by decide +kernel
theorem dX5_refuse_3 : decode cX5_refuse 3 = .ok (.iload_n 2, 1) := by decide +kernel
theorem dX5_refuse_4 : decode cX5_refuse 4 = .ok (.ifCond .lt 22, 3) := by decide +kernel
theorem dX5_refuse_7 : decode cX5_refuse 7 = .ok (.iload_n 2, 1) := by decide +kernel
theorem dX5_refuse_8 : decode cX5_refuse 8 = .ok (.aload_n 0, 1) := by decide +kernel
theorem dX5_refuse_9 : decode cX5_refuse 9 = .ok (.getfield 59, 3) := by decide +kernel
theorem dX5_refuse_12 : decode cX5_refuse 12 = .ok (.arraylength, 1) := by decide +kernel
theorem dX5_refuse_13 : decode cX5_refuse 13 = .ok (.if_icmp .ge 13, 3) := by decide +kernel
theorem dX5_refuse_16 : decode cX5_refuse 16 = .ok (.aload_n 0, 1) := by decide +kernel
theorem dX5_refuse_17 : decode cX5_refuse 17 = .ok (.getfield 59, 3) := by decide +kernel
theorem dX5_refuse_20 : decode cX5_refuse 20 = .ok (.iload_n 2, 1) := by decide +kernel
theorem dX5_refuse_21 : decode cX5_refuse 21 = .ok (.dup2, 1) := by decide +kernel
theorem dX5_refuse_22 : decode cX5_refuse 22 = .ok (.iaload, 1) := by decide +kernel
theorem dX5_refuse_23 : decode cX5_refuse 23 = .ok (.iconst 1, 1) := by decide +kernel
theorem dX5_refuse_24 : decode cX5_refuse 24 = .ok (.iadd, 1) := by decide +kernel
theorem dX5_refuse_25 : decode cX5_refuse 25 = .ok (.iastore, 1) := by decide +kernel
theorem dX5_refuse_26 : decode cX5_refuse 26 = .ok (.iload_n 1, 1) := by decide +kernel
theorem dX5_refuse_27 : decode cX5_refuse 27 = .ok (.ireturn, 1) := by decide +kernel
set_option maxRecDepth 20000 in
theorem ggX5_refuseAmount_X5_refuse : GoodIn wsX5_refuseAmount wsX5_refuse := goodIn_r _ [6, 7, 8, 9, 10, 11, 12, 13, 14, 15, 16, 17] (by decide +kernel) (by decide +kernel)
set_option maxRecDepth 20000 in
theorem gX5_refuseAmount_X5_refuse : GoodIn wsX5_refuseAmount (wsV RX5 62 RX5 yX5_refuse wsX5_refuse) := goodIn_app (goodIn_of _ (by decide +kernel)) ggX5_refuseAmount_X5_refuse
theorem dX5_refuseAmount_0 : decode cX5_refuseAmount 0 = .ok (.ldc 239, 2) := by decide +kernel
theorem dX5_refuseAmount_2 : decode cX5_refuseAmount 2 = .ok (.aload_n 0, 1) := by decide +kernel
theorem dX5_refuseAmount_3 : decode cX5_refuseAmount 3 = .ok (.iload_n 1, 1) := by decide +kernel
theorem dX5_refuseAmount_4 : decode cX5_refuseAmount 4 = .ok (.invokevirtual 62, 3) := by decide +kernel
theorem dX5_refuseAmount_7 : decode cX5_refuseAmount 7 = .ok (.isub, 1) := by decide +kernel
theorem dX5_refuseAmount_8 : decode cX5_refuseAmount 8 = .ok (.ireturn, 1) := by decide +kernel
set_option maxRecDepth 20000 in
theorem ggX5_refuseLong_X5_refuse : GoodIn wsX5_refuseLong wsX5_refuse := goodIn_r _ [6, 7, 8, 9, 10, 11, 12, 13, 14, 15, 16, 17] (by decide +kernel) (by decide +kernel)
set_option maxRecDepth 20000 in
theorem gX5_refuseLong_X5_refuse : GoodIn wsX5_refuseLong (wsV RX5 62 RX5 yX5_refuse wsX5_refuse) := goodIn_app (goodIn_of _ (by decide +kernel)) ggX5_refuseLong_X5_refuse
theorem dX5_refuseLong_0 : decode cX5_refuseLong 0 = .ok (.ldc2_w 240, 3) := by decide +kernel
theorem dX5_refuseLong_3 : decode cX5_refuseLong 3 = .ok (.aload_n 0, 1) := by decide +kernel
theorem dX5_refuseLong_4 : decode cX5_refuseLong 4 = .ok (.iload_n 1, 1) := by decide +kernel
theorem dX5_refuseLong_5 : decode cX5_refuseLong 5 = .ok (.invokevirtual 62, 3) := by decide +kernel
theorem dX5_refuseLong_8 : decode cX5_refuseLong 8 = .ok (.i2l, 1) := by decide +kernel
theorem dX5_refuseLong_9 : decode cX5_refuseLong 9 = .ok (.lsub, 1) := by decide +kernel
theorem dX5_refuseLong_10 : decode cX5_refuseLong 10 = .ok (.lreturn, 1) := by decide +kernel
theorem dX5_isLaw_0 : decode cX5_isLaw 0 = .ok (.iload_n 0, 1) := by decide +kernel
theorem dX5_isLaw_1 : decode cX5_isLaw 1 = .ok (.ifCond .lt 12, 3) := by decide +kernel
theorem dX5_isLaw_4 : decode cX5_isLaw 4 = .ok (.iload_n 0, 1) := by decide +kernel
theorem dX5_isLaw_5 : decode cX5_isLaw 5 = .ok (.iconst 5, 1) := by decide +kernel
theorem dX5_isLaw_6 : decode cX5_isLaw 6 = .ok (.if_icmp .gt 7, 3) := by decide +kernel
theorem dX5_isLaw_9 : decode cX5_isLaw 9 = .ok (.iconst 1, 1) := by decide +kernel
theorem dX5_isLaw_10 : decode cX5_isLaw 10 = .ok (.goto 4, 3) := by decide +kernel
theorem dX5_isLaw_13 : decode cX5_isLaw 13 = .ok (.iconst 0, 1) := by decide +kernel
theorem dX5_isLaw_14 : decode cX5_isLaw 14 = .ok (.ireturn, 1) := by decide +kernel
set_option maxRecDepth 20000 in
theorem ggX5_lookAtNow_X1_copyYear : GoodIn wsX5_lookAtNow wsX1_copyYear := goodIn_r _ [7, 8, 9, 10, 11, 12, 13, 14, 15, 72, 73, 74, 75, 76, 77, 78, 79, 80, 81, 82, 83, 84, 85, 86, 87, 88, 89, 90] (by decide +kernel) (by decide +kernel)
set_option maxRecDepth 20000 in
theorem gX5_lookAtNow_X1_copyYear : GoodIn wsX5_lookAtNow (wsV RX5 242 RX1 yX1_copyYear wsX1_copyYear) := goodIn_app (goodIn_of _ (by decide +kernel)) ggX5_lookAtNow_X1_copyYear
set_option maxRecDepth 20000 in
theorem ggX5_lookAtNow_X1_tally : GoodIn wsX5_lookAtNow wsX1_tally := goodIn_r _ [19, 9, 11, 20, 21, 22, 23, 24, 25, 6, 26, 27, 28, 29, 30, 31, 32, 33, 34, 35, 36, 37, 38, 39, 40, 41, 42, 43, 44, 45, 46, 47, 48, 49, 50, 51, 52, 53, 54, 55, 56, 57, 58, 59, 60, 61, 82, 83, 84, 85, 86, 87, 88, 89, 90, 72, 73, 74, 75, 76, 77, 78, 79, 80, 81] (by decide +kernel) (by decide +kernel)
set_option maxRecDepth 20000 in
theorem gX5_lookAtNow_X1_tally : GoodIn wsX5_lookAtNow (wsV RX5 190 RX1 yX1_tally wsX1_tally) := goodIn_app (goodIn_of _ (by decide +kernel)) ggX5_lookAtNow_X1_tally
theorem dX5_lookAtNow_0 : decode cX5_lookAtNow 0 = .ok (.aload_n 0, 1) := by decide +kernel
theorem dX5_lookAtNow_1 : decode cX5_lookAtNow 1 = .ok (.getfield 33, 3) := by decide +kernel
theorem dX5_lookAtNow_4 : decode cX5_lookAtNow 4 = .ok (.aload_n 0, 1) := by decide +kernel
theorem dX5_lookAtNow_5 : decode cX5_lookAtNow 5 = .ok (.getfield 10, 3) := by decide +kernel
theorem dX5_lookAtNow_8 : decode cX5_lookAtNow 8 = .ok (.invokevirtual 242, 3) := by decide +kernel
theorem dX5_lookAtNow_11 : decode cX5_lookAtNow 11 = .ok (.aload_n 0, 1) := by decide +kernel
theorem dX5_lookAtNow_12 : decode cX5_lookAtNow 12 = .ok (.getfield 33, 3) := by decide +kernel
theorem dX5_lookAtNow_15 : decode cX5_lookAtNow 15 = .ok (.aload_n 0, 1) := by decide +kernel
theorem dX5_lookAtNow_16 : decode cX5_lookAtNow 16 = .ok (.getfield 10, 3) := by decide +kernel
theorem dX5_lookAtNow_19 : decode cX5_lookAtNow 19 = .ok (.invokevirtual 190, 3) := by decide +kernel
theorem dX5_lookAtNow_22 : decode cX5_lookAtNow 22 = .ok (.return_, 1) := by decide +kernel
set_option maxRecDepth 20000 in
theorem ggX5_leftNow_X5_lookAtNow : GoodIn wsX5_leftNow wsX5_lookAtNow := goodIn_r _ [8, 1, 2, 9, 10, 11, 12, 13, 14, 15, 16, 17, 18, 19, 20, 21, 22, 23, 24, 25, 26, 27, 28, 29, 30, 31, 32, 33, 34, 35, 36, 37, 38, 39, 40, 41, 42, 43, 44, 45, 46, 47, 48, 49, 50, 51, 52, 53, 54, 55, 56, 57, 58, 59, 60, 61, 62, 63, 64, 65, 66, 67, 76, 77, 78, 79, 80, 81, 82, 83, 84, 85, 86, 87, 88, 89, 90, 91, 92, 93, 94, 95, 96, 97, 98, 99, 100, 101, 102, 103, 104] (by decide +kernel) (by decide +kernel)
set_option maxRecDepth 20000 in
theorem gX5_leftNow_X5_lookAtNow : GoodIn wsX5_leftNow (wsV RX5 123 RX5 yX5_lookAtNow wsX5_lookAtNow) := goodIn_app (goodIn_of _ (by decide +kernel)) ggX5_leftNow_X5_lookAtNow
set_option maxRecDepth 20000 in
theorem ggX5_leftNow_X1_leftBy : GoodIn wsX5_leftNow wsX1_leftBy := goodIn_r _ [71, 27, 72, 73, 74, 12, 75, 35, 37, 26, 36, 15, 34, 96, 97, 98, 99, 100, 101, 102, 103, 104] (by decide +kernel) (by decide +kernel)
set_option maxRecDepth 20000 in
theorem gX5_leftNow_X1_leftBy : GoodIn wsX5_leftNow (wsV RX5 193 RX1 yX1_leftBy wsX1_leftBy) := goodIn_app (goodIn_of _ (by decide +kernel)) ggX5_leftNow_X1_leftBy
theorem dX5_leftNow_0 : decode cX5_leftNow 0 = .ok (.aload_n 0, 1) := by decide +kernel
theorem dX5_leftNow_1 : decode cX5_leftNow 1 = .ok (.invokevirtual 123, 3) := by decide +kernel
theorem dX5_leftNow_4 : decode cX5_leftNow 4 = .ok (.aload_n 0, 1) := by decide +kernel
theorem dX5_leftNow_5 : decode cX5_leftNow 5 = .ok (.getfield 33, 3) := by decide +kernel
theorem dX5_leftNow_8 : decode cX5_leftNow 8 = .ok (.aload_n 0, 1) := by decide +kernel
theorem dX5_leftNow_9 : decode cX5_leftNow 9 = .ok (.getfield 10, 3) := by decide +kernel
theorem dX5_leftNow_12 : decode cX5_leftNow 12 = .ok (.getfield 120, 3) := by decide +kernel
theorem dX5_leftNow_15 : decode cX5_leftNow 15 = .ok (.invokevirtual 193, 3) := by decide +kernel
theorem dX5_leftNow_18 : decode cX5_leftNow 18 = .ok (.ireturn, 1) := by decide +kernel
set_option maxRecDepth 20000 in
theorem ggX5_leftWith_X1_tally : GoodIn wsX5_leftWith wsX1_tally := goodIn_r _ [10, 11, 12, 13, 14, 15, 16, 17, 18, 9, 19, 20, 21, 22, 23, 24, 25, 26, 27, 28, 29, 30, 31, 32, 33, 34, 35, 36, 37, 38, 39, 40, 41, 42, 43, 44, 45, 46, 47, 48, 49, 50, 51, 52, 53, 54, 73, 74, 75, 76, 77, 78, 79, 80, 81, 82, 83, 84, 85, 86, 87, 88, 89, 90, 91] (by decide +kernel) (by decide +kernel)
set_option maxRecDepth 20000 in
theorem gX5_leftWith_X1_tally : GoodIn wsX5_leftWith (wsV RX5 190 RX1 yX1_tally wsX1_tally) := goodIn_app (goodIn_of _ (by decide +kernel)) ggX5_leftWith_X1_tally
set_option maxRecDepth 20000 in
theorem ggX5_leftWith_X1_leftBy : GoodIn wsX5_leftWith wsX1_leftBy := goodIn_r _ [58, 14, 59, 60, 61, 9, 62, 22, 24, 13, 23, 11, 21, 73, 74, 75, 76, 77, 78, 79, 80, 81] (by decide +kernel) (by decide +kernel)
set_option maxRecDepth 20000 in
theorem gX5_leftWith_X1_leftBy : GoodIn wsX5_leftWith (wsV RX5 193 RX1 yX1_leftBy wsX1_leftBy) := goodIn_app (goodIn_of _ (by decide +kernel)) ggX5_leftWith_X1_leftBy
theorem dX5_leftWith_0 : decode cX5_leftWith 0 = .ok (.aload_n 0, 1) := by decide +kernel
theorem dX5_leftWith_1 : decode cX5_leftWith 1 = .ok (.getfield 33, 3) := by decide +kernel
theorem dX5_leftWith_4 : decode cX5_leftWith 4 = .ok (.getfield 245, 3) := by decide +kernel
theorem dX5_leftWith_7 : decode cX5_leftWith 7 = .ok (.iload_n 1, 1) := by decide +kernel
theorem dX5_leftWith_8 : decode cX5_leftWith 8 = .ok (.iload_n 2, 1) := by decide +kernel
theorem dX5_leftWith_9 : decode cX5_leftWith 9 = .ok (.iastore, 1) := by decide +kernel
theorem dX5_leftWith_10 : decode cX5_leftWith 10 = .ok (.aload_n 0, 1) := by decide +kernel
theorem dX5_leftWith_11 : decode cX5_leftWith 11 = .ok (.getfield 33, 3) := by decide +kernel
theorem dX5_leftWith_14 : decode cX5_leftWith 14 = .ok (.aload_n 0, 1) := by decide +kernel
theorem dX5_leftWith_15 : decode cX5_leftWith 15 = .ok (.getfield 10, 3) := by decide +kernel
theorem dX5_leftWith_18 : decode cX5_leftWith 18 = .ok (.invokevirtual 190, 3) := by decide +kernel
theorem dX5_leftWith_21 : decode cX5_leftWith 21 = .ok (.aload_n 0, 1) := by decide +kernel
theorem dX5_leftWith_22 : decode cX5_leftWith 22 = .ok (.getfield 33, 3) := by decide +kernel
theorem dX5_leftWith_25 : decode cX5_leftWith 25 = .ok (.getfield 245, 3) := by decide +kernel
theorem dX5_leftWith_28 : decode cX5_leftWith 28 = .ok (.iload_n 1, 1) := by decide +kernel
theorem dX5_leftWith_29 : decode cX5_leftWith 29 = .ok (.aload_n 0, 1) := by decide +kernel
theorem dX5_leftWith_30 : decode cX5_leftWith 30 = .ok (.getfield 10, 3) := by decide +kernel
theorem dX5_leftWith_33 : decode cX5_leftWith 33 = .ok (.getfield 100, 3) := by decide +kernel
theorem dX5_leftWith_36 : decode cX5_leftWith 36 = .ok (.iload_n 1, 1) := by decide +kernel
theorem dX5_leftWith_37 : decode cX5_leftWith 37 = .ok (.iaload, 1) := by decide +kernel
theorem dX5_leftWith_38 : decode cX5_leftWith 38 = .ok (.iastore, 1) := by decide +kernel
theorem dX5_leftWith_39 : decode cX5_leftWith 39 = .ok (.aload_n 0, 1) := by decide +kernel
theorem dX5_leftWith_40 : decode cX5_leftWith 40 = .ok (.getfield 33, 3) := by decide +kernel
theorem dX5_leftWith_43 : decode cX5_leftWith 43 = .ok (.aload_n 0, 1) := by decide +kernel
theorem dX5_leftWith_44 : decode cX5_leftWith 44 = .ok (.getfield 10, 3) := by decide +kernel
theorem dX5_leftWith_47 : decode cX5_leftWith 47 = .ok (.getfield 120, 3) := by decide +kernel
theorem dX5_leftWith_50 : decode cX5_leftWith 50 = .ok (.invokevirtual 193, 3) := by decide +kernel
theorem dX5_leftWith_53 : decode cX5_leftWith 53 = .ok (.ireturn, 1) := by decide +kernel
theorem dX5_verdictOnRow_0 : decode cX5_verdictOnRow 0 = .ok (.aload_n 0, 1) := by decide +kernel
theorem dX5_verdictOnRow_1 : decode cX5_verdictOnRow 1 = .ok (.getfield 55, 3) := by decide +kernel
theorem dX5_verdictOnRow_4 : decode cX5_verdictOnRow 4 = .ok (.aload_n 0, 1) := by decide +kernel
theorem dX5_verdictOnRow_5 : decode cX5_verdictOnRow 5 = .ok (.getfield 10, 3) := by decide +kernel
theorem dX5_verdictOnRow_8 : decode cX5_verdictOnRow 8 = .ok (.getfield 180, 3) := by decide +kernel
theorem dX5_verdictOnRow_11 : decode cX5_verdictOnRow 11 = .ok (.invokestatic 246, 3) := by decide +kernel
theorem dX5_verdictOnRow_14 : decode cX5_verdictOnRow 14 = .ok (.istore_n 1, 1) := by decide +kernel
theorem dX5_verdictOnRow_15 : decode cX5_verdictOnRow 15 = .ok (.iconst 0, 1) := by decide +kernel
theorem dX5_verdictOnRow_16 : decode cX5_verdictOnRow 16 = .ok (.istore_n 2, 1) := by decide +kernel
theorem dX5_verdictOnRow_17 : decode cX5_verdictOnRow 17 = .ok (.iload_n 2, 1) := by decide +kernel
theorem dX5_verdictOnRow_18 : decode cX5_verdictOnRow 18 = .ok (.iload_n 1, 1) := by decide +kernel
theorem dX5_verdictOnRow_19 : decode cX5_verdictOnRow 19 = .ok (.if_icmp .ge 40, 3) := by decide +kernel
theorem dX5_verdictOnRow_22 : decode cX5_verdictOnRow 22 = .ok (.aload_n 0, 1) := by decide +kernel
theorem dX5_verdictOnRow_23 : decode cX5_verdictOnRow 23 = .ok (.getfield 51, 3) := by decide +kernel
theorem dX5_verdictOnRow_26 : decode cX5_verdictOnRow 26 = .ok (.iload_n 2, 1) := by decide +kernel
theorem dX5_verdictOnRow_27 : decode cX5_verdictOnRow 27 = .ok (.iaload, 1) := by decide +kernel
theorem dX5_verdictOnRow_28 : decode cX5_verdictOnRow 28 = .ok (.bipush 9, 2) := by decide +kernel
theorem dX5_verdictOnRow_30 : decode cX5_verdictOnRow 30 = .ok (.if_icmp .eq 23, 3) := by decide +kernel
theorem dX5_verdictOnRow_33 : decode cX5_verdictOnRow 33 = .ok (.aload_n 0, 1) := by decide +kernel
theorem dX5_verdictOnRow_34 : decode cX5_verdictOnRow 34 = .ok (.getfield 51, 3) := by decide +kernel
theorem dX5_verdictOnRow_37 : decode cX5_verdictOnRow 37 = .ok (.iload_n 2, 1) := by decide +kernel
theorem dX5_verdictOnRow_38 : decode cX5_verdictOnRow 38 = .ok (.iaload, 1) := by decide +kernel
theorem dX5_verdictOnRow_39 : decode cX5_verdictOnRow 39 = .ok (.aload_n 0, 1) := by decide +kernel
theorem dX5_verdictOnRow_40 : decode cX5_verdictOnRow 40 = .ok (.getfield 10, 3) := by decide +kernel
theorem dX5_verdictOnRow_43 : decode cX5_verdictOnRow 43 = .ok (.getfield 100, 3) := by decide +kernel
theorem dX5_verdictOnRow_46 : decode cX5_verdictOnRow 46 = .ok (.iload_n 2, 1) := by decide +kernel
theorem dX5_verdictOnRow_47 : decode cX5_verdictOnRow 47 = .ok (.iaload, 1) := by decide +kernel
theorem dX5_verdictOnRow_48 : decode cX5_verdictOnRow 48 = .ok (.if_icmp .eq 5, 3) := by decide +kernel
theorem dX5_verdictOnRow_51 : decode cX5_verdictOnRow 51 = .ok (.iload_n 2, 1) := by decide +kernel
theorem dX5_verdictOnRow_52 : decode cX5_verdictOnRow 52 = .ok (.ireturn, 1) := by decide +kernel
theorem dX5_verdictOnRow_53 : decode cX5_verdictOnRow 53 = .ok (.iinc 2 1, 3) := by decide +kernel
theorem dX5_verdictOnRow_56 : decode cX5_verdictOnRow 56 = .ok (.goto (-39), 3) := by decide +kernel
theorem dX5_verdictOnRow_59 : decode cX5_verdictOnRow 59 = .ok (.aload_n 0, 1) := by decide +kernel
theorem dX5_verdictOnRow_60 : decode cX5_verdictOnRow 60 = .ok (.getfield 55, 3) := by decide +kernel
theorem dX5_verdictOnRow_63 : decode cX5_verdictOnRow 63 = .ok (.aload_n 0, 1) := by decide +kernel
theorem dX5_verdictOnRow_64 : decode cX5_verdictOnRow 64 = .ok (.getfield 10, 3) := by decide +kernel
theorem dX5_verdictOnRow_67 : decode cX5_verdictOnRow 67 = .ok (.getfield 180, 3) := by decide +kernel
theorem dX5_verdictOnRow_70 : decode cX5_verdictOnRow 70 = .ok (.if_icmp .ne 8, 3) := by decide +kernel
theorem dX5_verdictOnRow_73 : decode cX5_verdictOnRow 73 = .ok (.bipush (-9), 2) := by decide +kernel
theorem dX5_verdictOnRow_75 : decode cX5_verdictOnRow 75 = .ok (.goto 4, 3) := by decide +kernel
theorem dX5_verdictOnRow_78 : decode cX5_verdictOnRow 78 = .ok (.iload_n 1, 1) := by decide +kernel
theorem dX5_verdictOnRow_79 : decode cX5_verdictOnRow 79 = .ok (.ireturn, 1) := by decide +kernel
set_option maxRecDepth 20000 in
theorem ggX5_inLeastTerms_X5_commonDivisor : GoodIn wsX5_inLeastTerms wsX5_commonDivisor := goodIn_r _ [4] (by decide +kernel) (by decide +kernel)
set_option maxRecDepth 20000 in
theorem gX5_inLeastTerms_X5_commonDivisor : GoodIn wsX5_inLeastTerms (va_wsS RX5 251 yX5_commonDivisor wsX5_commonDivisor) := goodIn_app (goodIn_of _ (by decide +kernel)) ggX5_inLeastTerms_X5_commonDivisor
theorem dX5_inLeastTerms_0 : decode cX5_inLeastTerms 0 = .ok (.lload_n 2, 1) := by decide +kernel
theorem dX5_inLeastTerms_1 : decode cX5_inLeastTerms 1 = .ok (.lconst 0, 1) := by decide +kernel
theorem dX5_inLeastTerms_2 : decode cX5_inLeastTerms 2 = .ok (.lcmp, 1) := by decide +kernel
theorem dX5_inLeastTerms_3 : decode cX5_inLeastTerms 3 = .ok (.ifCond .ne 7, 3) := by decide +kernel
theorem dX5_inLeastTerms_6 : decode cX5_inLeastTerms 6 = .ok (.iload 4, 2) := by decide +kernel
theorem dX5_inLeastTerms_8 : decode cX5_inLeastTerms 8 = .ok (.i2l, 1) := by decide +kernel
theorem dX5_inLeastTerms_9 : decode cX5_inLeastTerms 9 = .ok (.lreturn, 1) := by decide +kernel
theorem dX5_inLeastTerms_10 : decode cX5_inLeastTerms 10 = .ok (.lload_n 0, 1) := by decide +kernel
theorem dX5_inLeastTerms_11 : decode cX5_inLeastTerms 11 = .ok (.lload_n 2, 1) := by decide +kernel
theorem dX5_inLeastTerms_12 : decode cX5_inLeastTerms 12 = .ok (.invokestatic 251, 3) := by decide +kernel
theorem dX5_inLeastTerms_15 : decode cX5_inLeastTerms 15 = .ok (.lstore 5, 2) := by decide +kernel
theorem dX5_inLeastTerms_17 : decode cX5_inLeastTerms 17 = .ok (.lload 5, 2) := by decide +kernel
theorem dX5_inLeastTerms_19 : decode cX5_inLeastTerms 19 = .ok (.lconst 0, 1) := by decide +kernel
theorem dX5_inLeastTerms_20 : decode cX5_inLeastTerms 20 = .ok (.lcmp, 1) := by decide +kernel
theorem dX5_inLeastTerms_21 : decode cX5_inLeastTerms 21 = .ok (.ifCond .ne 7, 3) := by decide +kernel
theorem dX5_inLeastTerms_24 : decode cX5_inLeastTerms 24 = .ok (.iload 4, 2) := by decide +kernel
theorem dX5_inLeastTerms_26 : decode cX5_inLeastTerms 26 = .ok (.i2l, 1) := by decide +kernel
theorem dX5_inLeastTerms_27 : decode cX5_inLeastTerms 27 = .ok (.lreturn, 1) := by decide +kernel
theorem dX5_inLeastTerms_28 : decode cX5_inLeastTerms 28 = .ok (.iload 4, 2) := by decide +kernel
theorem dX5_inLeastTerms_30 : decode cX5_inLeastTerms 30 = .ok (.ifCond .ne 7, 3) := by decide +kernel
theorem dX5_inLeastTerms_33 : decode cX5_inLeastTerms 33 = .ok (.lload_n 0, 1) := by decide +kernel
theorem dX5_inLeastTerms_34 : decode cX5_inLeastTerms 34 = .ok (.goto 4, 3) := by decide +kernel
theorem dX5_inLeastTerms_37 : decode cX5_inLeastTerms 37 = .ok (.lload_n 2, 1) := by decide +kernel
theorem dX5_inLeastTerms_38 : decode cX5_inLeastTerms 38 = .ok (.lload 5, 2) := by decide +kernel
theorem dX5_inLeastTerms_40 : decode cX5_inLeastTerms 40 = .ok (.ldiv, 1) := by decide +kernel
theorem dX5_inLeastTerms_41 : decode cX5_inLeastTerms 41 = .ok (.lreturn, 1) := by decide +kernel
theorem dX5_commonDivisor_0 : decode cX5_commonDivisor 0 = .ok (.lload_n 0, 1) := by decide +kernel
theorem dX5_commonDivisor_1 : decode cX5_commonDivisor 1 = .ok (.lstore 4, 2) := by decide +kernel
theorem dX5_commonDivisor_3 : decode cX5_commonDivisor 3 = .ok (.lload_n 2, 1) := by decide +kernel
theorem dX5_commonDivisor_4 : decode cX5_commonDivisor 4 = .ok (.lstore 6, 2) := by decide +kernel
theorem dX5_commonDivisor_6 : decode cX5_commonDivisor 6 = .ok (.iconst 0, 1) := by decide +kernel
theorem dX5_commonDivisor_7 : decode cX5_commonDivisor 7 = .ok (.istore 8, 2) := by decide +kernel
theorem dX5_commonDivisor_9 : decode cX5_commonDivisor 9 = .ok (.iload 8, 2) := by decide +kernel
theorem dX5_commonDivisor_11 : decode cX5_commonDivisor 11 = .ok (.sipush 200, 3) := by decide +kernel
theorem dX5_commonDivisor_14 : decode cX5_commonDivisor 14 = .ok (.if_icmp .ge 31, 3) := by decide +kernel
theorem dX5_commonDivisor_17 : decode cX5_commonDivisor 17 = .ok (.lload 6, 2) := by decide +kernel
theorem dX5_commonDivisor_19 : decode cX5_commonDivisor 19 = .ok (.lconst 0, 1) := by decide +kernel
theorem dX5_commonDivisor_20 : decode cX5_commonDivisor 20 = .ok (.lcmp, 1) := by decide +kernel
theorem dX5_commonDivisor_21 : decode cX5_commonDivisor 21 = .ok (.ifCond .eq 24, 3) := by decide +kernel
theorem dX5_commonDivisor_24 : decode cX5_commonDivisor 24 = .ok (.lload 4, 2) := by decide +kernel
theorem dX5_commonDivisor_26 : decode cX5_commonDivisor 26 = .ok (.lload 6, 2) := by decide +kernel
theorem dX5_commonDivisor_28 : decode cX5_commonDivisor 28 = .ok (.lrem, 1) := by decide +kernel
theorem dX5_commonDivisor_29 : decode cX5_commonDivisor 29 = .ok (.lstore 9, 2) := by decide +kernel
theorem dX5_commonDivisor_31 : decode cX5_commonDivisor 31 = .ok (.lload 6, 2) := by decide +kernel
theorem dX5_commonDivisor_33 : decode cX5_commonDivisor 33 = .ok (.lstore 4, 2) := by decide +kernel
theorem dX5_commonDivisor_35 : decode cX5_commonDivisor 35 = .ok (.lload 9, 2) := by decide +kernel
theorem dX5_commonDivisor_37 : decode cX5_commonDivisor 37 = .ok (.lstore 6, 2) := by decide +kernel
theorem dX5_commonDivisor_39 : decode cX5_commonDivisor 39 = .ok (.iinc 8 1, 3) := by decide +kernel
theorem dX5_commonDivisor_42 : decode cX5_commonDivisor 42 = .ok (.goto (-33), 3) := by decide +kernel
theorem dX5_commonDivisor_45 : decode cX5_commonDivisor 45 = .ok (.lload 4, 2) := by decide +kernel
theorem dX5_commonDivisor_47 : decode cX5_commonDivisor 47 = .ok (.lreturn, 1) := by decide +kernel
