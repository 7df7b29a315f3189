theorem mem_r {big : List Cond} (ws : List Cond) (ps : List Nat) (hp : ws = ps.filterMap (fun i => big[i]?)) : ∀ w ∈ ws, w ∈ big := by
  intro w hw
  rw [hp] at hw
  obtain ⟨i, -, hi⟩ := List.mem_filterMap.mp hw
  exact List.mem_of_getElem? hi
set_option maxRecDepth 20000 in
theorem wl_1 : ∀ w ∈ wsL_law_r1, w ∈ lw_tbl := mem_r _ [74, 75, 59, 815, 816, 66, 76, 77, 78, 79, 80, 81, 82, 83, 60, 271, 272, 273, 145, 146, 62, 274, 173, 174] (by decide +kernel)
set_option maxRecDepth 20000 in
theorem wl_2 : ∀ w ∈ wsL_law_r2, w ∈ lw_tbl := mem_r _ [63, 275, 212, 213, 64, 276, 242, 243, 65, 277, 144, 278, 279, 280, 84, 85, 86, 87, 91, 93, 95, 97, 99, 103] (by decide +kernel)
set_option maxRecDepth 20000 in
theorem wl_3 : ∀ w ∈ wsL_law_r3, w ∈ lw_tbl := mem_r _ [106, 111, 115, 120, 88, 89, 61, 90, 148, 149, 150, 153, 154, 156, 157, 158, 151, 159, 152, 176, 177, 178, 179, 181] (by decide +kernel)
set_option maxRecDepth 20000 in
theorem wl_4 : ∀ w ∈ wsL_law_r4, w ∈ lw_tbl := mem_r _ [182, 184, 186, 188, 190, 191, 192, 215, 216, 217, 218, 220, 221, 222, 223, 225, 227, 245, 246, 247, 250, 269, 251, 248] (by decide +kernel)
set_option maxRecDepth 20000 in
theorem wl_5 : ∀ w ∈ wsL_law_r5, w ∈ lw_tbl := mem_r _ [270, 252, 253, 254, 255, 817, 818, 819, 820, 826, 827, 828, 829, 831, 832, 836, 840, 841, 843, 844, 845, 846, 847, 848] (by decide +kernel)
set_option maxRecDepth 20000 in
theorem wl_6 : ∀ w ∈ wsL_law_r6, w ∈ lw_tbl := mem_r _ [833, 821, 823, 32, 824, 830, 302, 303, 304, 305, 306, 308, 0, 309, 310, 311, 312, 313, 314, 315, 316, 317, 318, 898] (by decide +kernel)
set_option maxRecDepth 20000 in
theorem wl_7 : ∀ w ∈ wsL_law_r7, w ∈ lw_tbl := mem_r _ [899, 900, 901, 835, 902, 904, 33, 905, 319, 320, 321, 322, 323, 324, 325, 326, 327, 329, 1, 330, 331, 333, 2, 334] (by decide +kernel)
set_option maxRecDepth 20000 in
theorem wl_8 : ∀ w ∈ wsL_law_r8, w ∈ lw_tbl := mem_r _ [335, 337, 3, 338, 339, 341, 4, 342, 344, 345, 346, 67, 347, 348, 349, 350, 351, 1140, 352, 353, 354, 355, 356, 1139] (by decide +kernel)
set_option maxRecDepth 20000 in
theorem wl_9 : ∀ w ∈ wsL_law_r9, w ∈ lw_tbl := mem_r _ [358, 359, 360, 361, 362, 363, 364, 365, 366, 367, 68, 368, 372, 373, 69, 374, 375, 376, 377, 369, 370, 371, 378, 379] (by decide +kernel)
set_option maxRecDepth 20000 in
theorem wl_10 : ∀ w ∈ wsL_law_r10, w ∈ lw_tbl := mem_r _ [380, 381, 382, 70, 383, 384, 385, 386, 387, 388, 389, 390, 391, 392, 393, 394, 395, 396, 397, 398, 399, 401, 402, 71] (by decide +kernel)
set_option maxRecDepth 20000 in
theorem wl_11 : ∀ w ∈ wsL_law_r11, w ∈ lw_tbl := mem_r _ [403, 404, 405, 406, 407, 408, 409, 410, 412, 414, 416, 417, 418, 419, 420, 72, 421, 422, 423, 424, 425, 426, 427, 428] (by decide +kernel)
set_option maxRecDepth 20000 in
theorem wl_12 : ∀ w ∈ wsL_law_r12, w ∈ lw_tbl := mem_r _ [429, 430, 432, 5, 433, 434, 436, 6, 437, 438, 440, 7, 441, 442, 444, 8, 445, 446, 447, 448, 449, 450, 452, 451] (by decide +kernel)
set_option maxRecDepth 20000 in
theorem wl_13 : ∀ w ∈ wsL_law_r13, w ∈ lw_tbl := mem_r _ [73, 453, 455, 9, 456, 119, 457, 458, 459, 460, 461, 462, 463, 464, 465, 467, 10, 468, 102, 469, 470, 471, 472, 473] (by decide +kernel)
set_option maxRecDepth 20000 in
theorem wl_14 : ∀ w ∈ wsL_law_r14, w ∈ lw_tbl := mem_r _ [474, 475, 476, 477, 478, 479, 480, 481, 483, 11, 484, 485, 486, 487, 488, 489, 490, 491, 492, 493, 495, 12, 496, 122] (by decide +kernel)
set_option maxRecDepth 20000 in
theorem wl_15 : ∀ w ∈ wsL_law_r15, w ∈ lw_tbl := mem_r _ [498, 499, 906, 907, 908, 909, 837, 910, 912, 34, 913, 838, 825, 834, 914, 916, 35, 917, 918, 919, 920, 922, 923, 925] (by decide +kernel)
set_option maxRecDepth 20000 in
theorem wl_16 : ∀ w ∈ wsL_law_r16, w ∈ lw_tbl := mem_r _ [36, 926, 927, 929, 37, 930, 931, 933, 38, 934, 935, 936, 937, 938, 940, 39, 941, 942, 944, 40, 945, 946, 948, 41] (by decide +kernel)
set_option maxRecDepth 20000 in
theorem wl_17 : ∀ w ∈ wsL_law_r17, w ∈ lw_tbl := mem_r _ [949, 950, 952, 42, 953, 501, 502, 503, 504, 92, 94, 96, 98, 505, 954, 955, 956, 957, 506, 507, 508, 509, 101, 510] (by decide +kernel)
set_option maxRecDepth 20000 in
theorem wl_18 : ∀ w ∈ wsL_law_r18, w ∈ lw_tbl := mem_r _ [511, 958, 959, 960, 961, 512, 513, 514, 515, 105, 516, 517, 962, 963, 964, 965, 518, 519, 520, 521, 966, 967, 968, 969] (by decide +kernel)
set_option maxRecDepth 20000 in
theorem wl_19 : ∀ w ∈ wsL_law_r19, w ∈ lw_tbl := mem_r _ [522, 523, 524, 525, 118, 970, 971, 972, 973, 526, 527, 528, 529, 121, 530, 974, 975, 976, 977, 531, 532, 533, 534, 189] (by decide +kernel)
set_option maxRecDepth 20000 in
theorem wl_20 : ∀ w ∈ wsL_law_r20, w ∈ lw_tbl := mem_r _ [535, 537, 13, 538, 539, 540, 541, 542, 112, 100, 543, 544, 545, 546, 547, 116, 548, 550, 14, 551, 552, 554, 15, 555] (by decide +kernel)
