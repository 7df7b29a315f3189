set_option maxRecDepth 20000 in
theorem ggL_law_X5_init : GoodIn wsL_law wsX5_init := goodIn_r _ [8, 9, 10, 11, 12, 13, 14, 15, 16, 17, 18, 19, 20, 21, 22, 23, 24, 25, 26, 27, 28, 29, 30, 31, 32, 33, 34, 35, 36, 37, 38, 39, 40, 41, 42, 43, 44, 45, 46, 47, 48, 49, 50, 51, 52, 53, 54, 55, 56, 57, 58, 59, 60, 61, 62, 63, 64, 65, 66, 67, 68, 69, 70, 71, 72, 73, 74, 75, 76, 77, 78, 79, 80, 81, 82, 83, 84, 85, 86, 87, 88, 89, 90, 91, 92, 93, 94, 95, 96, 97, 98, 99, 100, 952, 953, 954, 955, 956, 957, 958, 959, 960, 961, 918, 919, 920, 921, 922, 923, 924, 925, 926, 927, 962, 963, 964, 965, 966, 967, 968, 969, 970, 971, 972, 973, 974, 975, 976, 977, 978, 979, 980, 981, 982, 983, 984, 985, 986, 987, 988] (by exact rfl) (by decide +kernel)
set_option maxRecDepth 20000 in
theorem gL_law_X5_init : GoodIn wsL_law (wsX5_init) := ggL_law_X5_init
set_option maxRecDepth 20000 in
theorem ggL_law_X6_init : GoodIn wsL_law wsX6_init := goodIn_r _ [103, 104, 10, 11, 34, 105, 106, 107, 108, 109, 110, 111, 112, 113, 114, 115, 116, 117, 96, 118, 119, 120, 121, 122, 123, 5, 124, 125, 928, 929, 930, 931, 932, 933, 934, 935, 936, 937, 938, 939, 940, 941, 942, 943, 944, 945, 946, 947, 948, 949, 950, 951] (by decide +kernel) (by decide +kernel)
set_option maxRecDepth 20000 in
theorem gL_law_X6_init : GoodIn wsL_law (wsX6_init) := ggL_law_X6_init
set_option maxRecDepth 20000 in
theorem ggL_law_X5_letter : GoodIn wsL_law wsX5_letter := goodIn_r _ [129, 21, 130, 131, 132, 2, 133, 37, 134, 135, 136, 20, 137, 60, 59, 138, 139, 140, 141, 142, 918, 919, 920, 921, 922, 923, 924, 925, 926, 927, 962, 963, 964, 965, 966, 967] (by decide +kernel) (by decide +kernel)
set_option maxRecDepth 20000 in
theorem gL_law_X5_letter : GoodIn wsL_law (wsV RL 13 RX5 yX5_letter wsX5_letter) := goodIn_app (goodIn_of _ (by decide +kernel)) ggL_law_X5_letter
set_option maxRecDepth 20000 in
theorem ggL_law_X6_letter : GoodIn wsL_law wsX6_letter := goodIn_r _ [146, 147, 111, 148, 149, 150, 5, 151, 113, 928, 929, 930, 931, 932, 933, 934, 935, 936, 937, 938, 939, 940, 941, 942, 943, 944, 945, 946, 947, 948, 949, 950, 951] (by decide +kernel) (by decide +kernel)
set_option maxRecDepth 20000 in
theorem gL_law_X6_letter : GoodIn wsL_law (wsV RL 17 RX6 yX6_letter wsX6_letter) := goodIn_app (goodIn_of _ (by decide +kernel)) ggL_law_X6_letter
set_option maxRecDepth 20000 in
theorem ggL_law_X5_land : GoodIn wsL_law wsX5_land := goodIn_r _ [155, 21, 15, 156, 157, 158, 20, 159, 61, 65, 60, 160, 161, 162, 163, 164, 165, 166, 167, 62, 168, 169, 170, 171, 59, 172, 173, 174, 175, 63, 176, 177, 178, 179, 180, 181, 182, 183, 184, 185, 186, 187, 188, 189, 190, 191, 192, 193, 194, 195, 196, 197, 198, 199, 200, 201, 202, 203, 204, 205, 206, 207, 208, 209, 210, 211, 212, 213, 214, 215, 216, 217, 218, 219, 220, 221, 222, 223, 224, 225, 226, 227, 228, 229, 230, 231, 232, 233, 234, 235, 236, 237, 238, 239, 240, 241, 242, 243, 244, 245, 246, 247, 248, 249, 250, 251, 252, 253, 254, 255, 256, 257, 258, 259, 260, 261, 262, 263, 264, 265, 266, 267, 268, 269, 270, 271, 272, 273, 274, 275, 276, 277, 278, 279, 280, 281, 282, 283, 14, 284, 42, 285, 286, 287, 288, 43, 44, 45, 46, 47, 48, 49, 50, 51, 289, 290, 291, 292, 293, 294, 295, 296, 297, 298, 299, 300, 301, 52, 53, 54, 55, 302, 303, 304, 305, 306, 307, 308, 309, 310, 311, 312, 313, 314, 315, 316, 317, 318, 319, 320, 321, 322, 323, 324, 325, 326, 327, 328, 329, 330, 331, 332, 333, 334, 335, 336, 2, 337, 918, 919, 920, 921, 922, 923, 924, 925, 926, 927, 962, 963, 964, 965, 966, 967, 952, 953, 954, 955, 956, 957, 958, 959, 960, 961] (by exact rfl) (by decide +kernel)
set_option maxRecDepth 20000 in
theorem gL_law_X5_land : GoodIn wsL_law (wsV RL 18 RX5 yX5_land wsX5_land) := goodIn_app (goodIn_of _ (by decide +kernel)) ggL_law_X5_land
set_option maxRecDepth 20000 in
theorem ggL_law_X6_land : GoodIn wsL_law wsX6_land := goodIn_r _ [341, 342, 147, 115, 343, 344, 345, 5, 346, 111, 347, 348, 105, 106, 107, 108, 120, 349, 110, 109, 350, 351, 352, 353, 354, 355, 356, 357, 177, 178, 179, 180, 181, 182, 183, 184, 185, 186, 187, 188, 189, 190, 191, 192, 193, 194, 195, 196, 197, 198, 199, 200, 201, 202, 203, 204, 205, 206, 207, 208, 209, 210, 211, 212, 213, 214, 215, 216, 217, 218, 219, 220, 221, 222, 223, 224, 225, 226, 227, 228, 229, 230, 231, 232, 233, 234, 235, 236, 237, 238, 239, 240, 241, 242, 243, 244, 245, 246, 247, 248, 249, 250, 251, 252, 253, 254, 255, 256, 257, 258, 259, 260, 261, 262, 263, 264, 358, 359, 360, 361, 362, 363, 364, 365, 366, 367, 368, 369, 370, 371, 372, 121, 122, 123, 124, 125, 373, 374, 375, 376, 377, 378, 379, 380, 381, 382, 383, 384, 385, 386, 387, 388, 928, 929, 930, 931, 932, 933, 934, 935, 936, 937, 938, 939, 940, 941, 942, 943, 944, 945, 946, 947, 948, 949, 950, 951] (by exact rfl) (by decide +kernel)
set_option maxRecDepth 20000 in
theorem gL_law_X6_land : GoodIn wsL_law (wsV RL 22 RX6 yX6_land wsX6_land) := goodIn_app (goodIn_of _ (by decide +kernel)) ggL_law_X6_land
set_option maxRecDepth 20000 in
theorem ggL_law_X5_thing : GoodIn wsL_law wsX5_thing := goodIn_r _ [392, 15, 393, 394, 395, 396, 397, 312, 313, 14, 314, 48, 130, 131, 132, 2, 133, 37, 918, 919, 920, 921, 922, 923, 924, 925, 926, 927, 952, 953, 954, 955, 956, 957, 958, 959, 960, 961] (by decide +kernel) (by decide +kernel)
set_option maxRecDepth 20000 in
theorem gL_law_X5_thing : GoodIn wsL_law (wsV RL 23 RX5 yX5_thing wsX5_thing) := goodIn_app (goodIn_of _ (by decide +kernel)) ggL_law_X5_thing
set_option maxRecDepth 20000 in
theorem ggL_law_X6_thing : GoodIn wsL_law wsX6_thing := goodIn_r _ [401, 105, 106, 107, 108, 377, 378, 379, 5, 380, 348, 370, 371, 372, 148, 149, 150, 151, 113, 928, 929, 930, 931, 932, 933, 934, 935, 936, 937, 938, 939, 940, 941, 942, 943, 944, 945, 946, 947, 948, 949, 950, 951] (by decide +kernel) (by decide +kernel)
set_option maxRecDepth 20000 in
theorem gL_law_X6_thing : GoodIn wsL_law (wsV RL 27 RX6 yX6_thing wsX6_thing) := goodIn_app (goodIn_of _ (by decide +kernel)) ggL_law_X6_thing
set_option maxRecDepth 20000 in
theorem ggL_law_X5_does : GoodIn wsL_law wsX5_does := goodIn_r _ [405, 15, 406, 407, 308, 309, 14, 310, 49, 397, 312, 313, 314, 48, 130, 131, 132, 2, 133, 37, 408, 316, 317, 318, 47, 918, 919, 920, 921, 922, 923, 924, 925, 926, 927, 952, 953, 954, 955, 956, 957, 958, 959, 960, 961] (by decide +kernel) (by decide +kernel)
set_option maxRecDepth 20000 in
theorem gL_law_X5_does : GoodIn wsL_law (wsV RL 28 RX5 yX5_does wsX5_does) := goodIn_app (goodIn_of _ (by decide +kernel)) ggL_law_X5_does
set_option maxRecDepth 20000 in
theorem ggL_law_X6_does : GoodIn wsL_law wsX6_does := goodIn_r _ [412, 110, 109, 373, 374, 375, 5, 376, 125, 370, 371, 372, 377, 378, 379, 380, 348, 148, 149, 150, 151, 113, 928, 929, 930, 931, 932, 933, 934, 935, 936, 937, 938, 939, 940, 941, 942, 943, 944, 945, 946, 947, 948, 949, 950, 951] (by decide +kernel) (by decide +kernel)
set_option maxRecDepth 20000 in
theorem gL_law_X6_does : GoodIn wsL_law (wsV RL 31 RX6 yX6_does wsX6_does) := goodIn_app (goodIn_of _ (by decide +kernel)) ggL_law_X6_does
set_option maxRecDepth 20000 in
theorem ggL_law_X5_bind : GoodIn wsL_law wsX5_bind := goodIn_r _ [416, 15, 417, 407, 308, 309, 14, 310, 49, 397, 312, 313, 314, 48, 130, 131, 132, 2, 133, 37, 418, 324, 325, 326, 47, 419, 328, 329, 330, 46, 918, 919, 920, 921, 922, 923, 924, 925, 926, 927, 952, 953, 954, 955, 956, 957, 958, 959, 960, 961] (by decide +kernel) (by decide +kernel)
set_option maxRecDepth 20000 in
theorem gL_law_X5_bind : GoodIn wsL_law (wsV RL 32 RX5 yX5_bind wsX5_bind) := goodIn_app (goodIn_of _ (by decide +kernel)) ggL_law_X5_bind
set_option maxRecDepth 20000 in
theorem ggL_law_X6_bind : GoodIn wsL_law wsX6_bind := goodIn_r _ [423, 110, 109, 373, 374, 375, 5, 376, 125, 370, 371, 372, 377, 378, 379, 380, 348, 148, 149, 150, 151, 113, 928, 929, 930, 931, 932, 933, 934, 935, 936, 937, 938, 939, 940, 941, 942, 943, 944, 945, 946, 947, 948, 949, 950, 951] (by decide +kernel) (by decide +kernel)
set_option maxRecDepth 20000 in
theorem gL_law_X6_bind : GoodIn wsL_law (wsV RL 35 RX6 yX6_bind wsX6_bind) := goodIn_app (goodIn_of _ (by decide +kernel)) ggL_law_X6_bind
set_option maxRecDepth 20000 in
theorem ggL_law_X5_done : GoodIn wsL_law wsX5_done := goodIn_r _ [427, 15, 406, 407, 308, 309, 14, 310, 49, 130, 131, 132, 2, 133, 37, 918, 919, 920, 921, 922, 923, 924, 925, 926, 927, 952, 953, 954, 955, 956, 957, 958, 959, 960, 961] (by decide +kernel) (by decide +kernel)
set_option maxRecDepth 20000 in
theorem gL_law_X5_done : GoodIn wsL_law (wsV RL 36 RX5 yX5_done wsX5_done) := goodIn_app (goodIn_of _ (by decide +kernel)) ggL_law_X5_done
set_option maxRecDepth 20000 in
theorem ggL_law_X6_done : GoodIn wsL_law wsX6_done := goodIn_r _ [431, 109, 373, 374, 375, 5, 376, 125, 370, 371, 372, 148, 149, 150, 151, 113, 928, 929, 930, 931, 932, 933, 934, 935, 936, 937, 938, 939, 940, 941, 942, 943, 944, 945, 946, 947, 948, 949, 950, 951] (by decide +kernel) (by decide +kernel)
set_option maxRecDepth 20000 in
theorem gL_law_X6_done : GoodIn wsL_law (wsV RL 39 RX6 yX6_done wsX6_done) := goodIn_app (goodIn_of _ (by decide +kernel)) ggL_law_X6_done
set_option maxRecDepth 20000 in
theorem ggL_law_X5_change : GoodIn wsL_law wsX5_change := goodIn_r _ [435, 15, 436, 130, 131, 132, 2, 133, 37, 918, 919, 920, 921, 922, 923, 924, 925, 926, 927, 952, 953, 954, 955, 956, 957, 958, 959, 960, 961] (by decide +kernel) (by decide +kernel)
set_option maxRecDepth 20000 in
theorem gL_law_X5_change : GoodIn wsL_law (wsV RL 40 RX5 yX5_change wsX5_change) := goodIn_app (goodIn_of _ (by decide +kernel)) ggL_law_X5_change
set_option maxRecDepth 20000 in
theorem ggL_law_X6_change : GoodIn wsL_law wsX6_change := goodIn_r _ [440, 120, 148, 149, 150, 5, 151, 113, 928, 929, 930, 931, 932, 933, 934, 935, 936, 937, 938, 939, 940, 941, 942, 943, 944, 945, 946, 947, 948, 949, 950, 951] (by decide +kernel) (by decide +kernel)
set_option maxRecDepth 20000 in
theorem gL_law_X6_change : GoodIn wsL_law (wsV RL 43 RX6 yX6_change wsX6_change) := goodIn_app (goodIn_of _ (by decide +kernel)) ggL_law_X6_change
set_option maxRecDepth 20000 in
theorem ggL_law_X5_law : GoodIn wsL_law wsX5_law := goodIn_r _ [444, 15, 445, 446, 336, 2, 337, 130, 131, 132, 133, 37, 918, 919, 920, 921, 922, 923, 924, 925, 926, 927, 952, 953, 954, 955, 956, 957, 958, 959, 960, 961] (by decide +kernel) (by decide +kernel)
set_option maxRecDepth 20000 in
theorem gL_law_X5_law : GoodIn wsL_law (wsV RL 44 RX5 yX5_law wsX5_law) := goodIn_app (goodIn_of _ (by decide +kernel)) ggL_law_X5_law
set_option maxRecDepth 20000 in
theorem ggL_law_X6_law : GoodIn wsL_law wsX6_law := goodIn_r _ [450, 349, 370, 371, 5, 372, 148, 149, 150, 151, 113, 928, 929, 930, 931, 932, 933, 934, 935, 936, 937, 938, 939, 940, 941, 942, 943, 944, 945, 946, 947, 948, 949, 950, 951] (by decide +kernel) (by decide +kernel)
set_option maxRecDepth 20000 in
theorem gL_law_X6_law : GoodIn wsL_law (wsV RL 47 RX6 yX6_law wsX6_law) := goodIn_app (goodIn_of _ (by decide +kernel)) ggL_law_X6_law
set_option maxRecDepth 20000 in
theorem ggL_law_X5_longest : GoodIn wsL_law wsX5_longest := goodIn_r _ [454, 25, 455, 456, 457, 458, 2, 459, 15, 460, 461, 462, 24, 463, 464, 71, 465, 70, 466, 286, 287, 288, 467, 468, 469, 470, 73, 72, 471, 472, 473, 474, 475, 74, 75, 76, 77, 78, 476, 477, 478, 479, 480, 209, 206, 210, 481, 482, 483, 14, 484, 42, 485, 312, 313, 314, 48, 486, 487, 488, 489, 43, 490, 491, 492, 493, 44, 45, 918, 919, 920, 921, 922, 923, 924, 925, 926, 927, 968, 969, 970, 971, 972, 973, 974, 975, 976, 952, 953, 954, 955, 956, 957, 958, 959, 960, 961] (by exact rfl) (by decide +kernel)
set_option maxRecDepth 20000 in
theorem gL_law_X5_longest : GoodIn wsL_law (wsV RL 48 RX5 yX5_longest wsX5_longest) := goodIn_app (goodIn_of _ (by decide +kernel)) ggL_law_X5_longest
set_option maxRecDepth 20000 in
theorem ggL_law_X6_longest : GoodIn wsL_law wsX6_longest := goodIn_r _ [497, 498, 499, 500, 5, 501, 125, 109, 502, 205, 206, 207, 503, 504, 505, 506, 348, 105, 507, 508, 509, 510, 928, 929, 930, 931, 932, 933, 934, 935, 936, 937, 938, 939, 940, 941, 942, 943, 944, 945, 946, 947, 948, 949, 950, 951] (by decide +kernel) (by decide +kernel)
set_option maxRecDepth 20000 in
theorem gL_law_X6_longest : GoodIn wsL_law (wsV RL 51 RX6 yX6_longest wsX6_longest) := goodIn_app (goodIn_of _ (by decide +kernel)) ggL_law_X6_longest
set_option maxRecDepth 20000 in
theorem ggL_law_X5_stretches : GoodIn wsL_law wsX5_stretches := goodIn_r _ [514, 25, 515, 456, 457, 458, 2, 459, 15, 460, 461, 462, 24, 463, 464, 71, 465, 70, 466, 286, 287, 288, 467, 468, 469, 470, 73, 72, 471, 472, 473, 474, 475, 74, 75, 76, 77, 78, 476, 477, 478, 479, 480, 209, 206, 210, 481, 482, 483, 14, 484, 42, 485, 312, 313, 314, 48, 486, 487, 488, 489, 43, 490, 491, 492, 493, 44, 45, 918, 919, 920, 921, 922, 923, 924, 925, 926, 927, 968, 969, 970, 971, 972, 973, 974, 975, 976, 952, 953, 954, 955, 956, 957, 958, 959, 960, 961] (by exact rfl) (by decide +kernel)
set_option maxRecDepth 20000 in
theorem gL_law_X5_stretches : GoodIn wsL_law (wsV RL 52 RX5 yX5_stretches wsX5_stretches) := goodIn_app (goodIn_of _ (by decide +kernel)) ggL_law_X5_stretches
set_option maxRecDepth 20000 in
theorem ggL_law_X6_stretches : GoodIn wsL_law wsX6_stretches := goodIn_r _ [519, 125, 109, 520, 521, 522, 5, 523, 503, 504, 505, 506, 348, 105, 928, 929, 930, 931, 932, 933, 934, 935, 936, 937, 938, 939, 940, 941, 942, 943, 944, 945, 946, 947, 948, 949, 950, 951] (by decide +kernel) (by decide +kernel)
set_option maxRecDepth 20000 in
theorem gL_law_X6_stretches : GoodIn wsL_law (wsV RL 55 RX6 yX6_stretches wsX6_stretches) := goodIn_app (goodIn_of _ (by decide +kernel)) ggL_law_X6_stretches
set_option maxRecDepth 20000 in
theorem ggL_law_X5_stretch : GoodIn wsL_law wsX5_stretch := goodIn_r _ [527, 15, 407, 308, 309, 14, 310, 49, 130, 131, 132, 2, 133, 37, 528, 529, 530, 531, 46, 532, 533, 534, 535, 918, 919, 920, 921, 922, 923, 924, 925, 926, 927, 952, 953, 954, 955, 956, 957, 958, 959, 960, 961] (by decide +kernel) (by decide +kernel)
set_option maxRecDepth 20000 in
theorem gL_law_X5_stretch : GoodIn wsL_law (wsV RL 56 RX5 yX5_stretch wsX5_stretch) := goodIn_app (goodIn_of _ (by decide +kernel)) ggL_law_X5_stretch
set_option maxRecDepth 20000 in
theorem ggL_law_X6_stretch : GoodIn wsL_law wsX6_stretch := goodIn_r _ [539, 373, 374, 375, 5, 376, 125, 370, 371, 372, 148, 149, 150, 151, 113, 507, 508, 509, 510, 109, 520, 521, 522, 523, 928, 929, 930, 931, 932, 933, 934, 935, 936, 937, 938, 939, 940, 941, 942, 943, 944, 945, 946, 947, 948, 949, 950, 951] (by decide +kernel) (by decide +kernel)
set_option maxRecDepth 20000 in
theorem gL_law_X6_stretch : GoodIn wsL_law (wsV RL 59 RX6 yX6_stretch wsX6_stretch) := goodIn_app (goodIn_of _ (by decide +kernel)) ggL_law_X6_stretch
set_option maxRecDepth 20000 in
theorem ggL_law_X5_worth : GoodIn wsL_law wsX5_worth := goodIn_r _ [543, 15, 544, 407, 308, 309, 14, 310, 49, 545, 546, 547, 2, 548, 549, 130, 131, 132, 133, 37, 550, 551, 552, 553, 46, 554, 529, 530, 531, 555, 487, 488, 489, 42, 43, 485, 312, 313, 314, 48, 490, 491, 492, 493, 44, 45, 918, 919, 920, 921, 922, 923, 924, 925, 926, 927, 952, 953, 954, 955, 956, 957, 958, 959, 960, 961] (by exact rfl) (by decide +kernel)
set_option maxRecDepth 20000 in
theorem gL_law_X5_worth : GoodIn wsL_law (wsV RL 60 RX5 yX5_worth wsX5_worth) := goodIn_app (goodIn_of _ (by decide +kernel)) ggL_law_X5_worth
set_option maxRecDepth 20000 in
theorem ggL_law_X6_worth : GoodIn wsL_law wsX6_worth := goodIn_r _ [559, 348, 109, 373, 374, 375, 5, 376, 125, 370, 371, 372, 560, 561, 562, 563, 564, 148, 149, 150, 151, 113, 507, 508, 509, 510, 565, 566, 567, 568, 105, 106, 107, 108, 928, 929, 930, 931, 932, 933, 934, 935, 936, 937, 938, 939, 940, 941, 942, 943, 944, 945, 946, 947, 948, 949, 950, 951] (by decide +kernel) (by decide +kernel)
set_option maxRecDepth 20000 in
theorem gL_law_X6_worth : GoodIn wsL_law (wsV RL 63 RX6 yX6_worth wsX6_worth) := goodIn_app (goodIn_of _ (by decide +kernel)) ggL_law_X6_worth
set_option maxRecDepth 20000 in
theorem ggL_law_X5_earned : GoodIn wsL_law wsX5_earned := goodIn_r _ [572, 15, 544, 25, 573, 545, 546, 547, 2, 548, 549, 130, 131, 132, 133, 37, 456, 457, 458, 459, 460, 461, 462, 24, 463, 464, 71, 465, 70, 466, 286, 287, 288, 467, 468, 469, 470, 73, 72, 471, 472, 473, 474, 475, 74, 75, 76, 77, 78, 476, 477, 478, 479, 480, 209, 206, 210, 481, 482, 483, 14, 484, 42, 485, 312, 313, 314, 48, 486, 487, 488, 489, 43, 490, 491, 492, 493, 44, 45, 918, 919, 920, 921, 922, 923, 924, 925, 926, 927, 952, 953, 954, 955, 956, 957, 958, 959, 960, 961, 968, 969, 970, 971, 972, 973, 974, 975, 976] (by exact rfl) (by decide +kernel)
set_option maxRecDepth 20000 in
theorem gL_law_X5_earned : GoodIn wsL_law (wsV RL 64 RX5 yX5_earned wsX5_earned) := goodIn_app (goodIn_of _ (by decide +kernel)) ggL_law_X5_earned
set_option maxRecDepth 20000 in
theorem ggL_law_X6_earned : GoodIn wsL_law wsX6_earned := goodIn_r _ [577, 348, 560, 561, 562, 5, 563, 564, 148, 149, 150, 151, 113, 578, 579, 580, 581, 120, 125, 109, 582, 583, 584, 585, 507, 508, 509, 510, 565, 566, 567, 568, 105, 106, 107, 108, 928, 929, 930, 931, 932, 933, 934, 935, 936, 937, 938, 939, 940, 941, 942, 943, 944, 945, 946, 947, 948, 949, 950, 951] (by exact rfl) (by decide +kernel)
set_option maxRecDepth 20000 in
theorem gL_law_X6_earned : GoodIn wsL_law (wsV RL 67 RX6 yX6_earned wsX6_earned) := goodIn_app (goodIn_of _ (by decide +kernel)) ggL_law_X6_earned
set_option maxRecDepth 20000 in
theorem ggL_law_X5_pays : GoodIn wsL_law wsX5_pays := goodIn_r _ [589, 15, 544, 25, 445, 130, 131, 132, 2, 133, 37, 456, 457, 458, 459, 460, 461, 462, 24, 463, 464, 71, 465, 70, 466, 286, 287, 288, 467, 468, 469, 470, 73, 72, 471, 472, 473, 474, 475, 74, 75, 76, 77, 78, 476, 477, 478, 479, 480, 209, 206, 210, 481, 482, 483, 14, 484, 42, 485, 312, 313, 314, 48, 486, 487, 488, 489, 43, 490, 491, 492, 493, 44, 45, 590, 591, 592, 593, 918, 919, 920, 921, 922, 923, 924, 925, 926, 927, 952, 953, 954, 955, 956, 957, 958, 959, 960, 961, 968, 969, 970, 971, 972, 973, 974, 975, 976] (by exact rfl) (by decide +kernel)
set_option maxRecDepth 20000 in
theorem gL_law_X5_pays : GoodIn wsL_law (wsV RL 68 RX5 yX5_pays wsX5_pays) := goodIn_app (goodIn_of _ (by decide +kernel)) ggL_law_X5_pays
set_option maxRecDepth 20000 in
theorem ggL_law_X6_pays : GoodIn wsL_law wsX6_pays := goodIn_r _ [597, 348, 349, 148, 149, 150, 5, 151, 113, 598, 599, 600, 601, 125, 109, 582, 583, 584, 585, 520, 521, 522, 523, 503, 504, 505, 506, 105, 507, 508, 509, 510, 928, 929, 930, 931, 932, 933, 934, 935, 936, 937, 938, 939, 940, 941, 942, 943, 944, 945, 946, 947, 948, 949, 950, 951] (by decide +kernel) (by decide +kernel)
set_option maxRecDepth 20000 in
theorem gL_law_X6_pays : GoodIn wsL_law (wsV RL 71 RX6 yX6_pays wsX6_pays) := goodIn_app (goodIn_of _ (by decide +kernel)) ggL_law_X6_pays
set_option maxRecDepth 20000 in
theorem ggL_law_X5_left : GoodIn wsL_law wsX5_left := goodIn_r _ [605, 15, 544, 545, 546, 547, 2, 548, 549, 130, 131, 132, 133, 37, 606, 607, 608, 609, 25, 445, 456, 457, 458, 459, 460, 461, 462, 24, 463, 464, 71, 465, 70, 466, 286, 287, 288, 467, 468, 469, 470, 73, 72, 471, 472, 473, 474, 475, 74, 75, 76, 77, 78, 476, 477, 478, 479, 480, 209, 206, 210, 481, 482, 483, 14, 484, 42, 485, 312, 313, 314, 48, 486, 487, 488, 489, 43, 490, 491, 492, 493, 44, 45, 610, 611, 612, 613, 614, 591, 592, 593, 918, 919, 920, 921, 922, 923, 924, 925, 926, 927, 952, 953, 954, 955, 956, 957, 958, 959, 960, 961, 968, 969, 970, 971, 972, 973, 974, 975, 976] (by exact rfl) (by decide +kernel)
set_option maxRecDepth 20000 in
theorem gL_law_X5_left : GoodIn wsL_law (wsV RL 72 RX5 yX5_left wsX5_left) := goodIn_app (goodIn_of _ (by decide +kernel)) ggL_law_X5_left
set_option maxRecDepth 20000 in
theorem ggL_law_X6_left : GoodIn wsL_law wsX6_left := goodIn_r _ [618, 348, 560, 561, 562, 5, 563, 564, 148, 149, 150, 151, 113, 619, 620, 621, 622, 349, 578, 579, 580, 581, 120, 125, 109, 582, 583, 584, 585, 507, 508, 509, 510, 565, 566, 567, 568, 105, 106, 107, 108, 598, 599, 600, 601, 520, 521, 522, 523, 503, 504, 505, 506, 928, 929, 930, 931, 932, 933, 934, 935, 936, 937, 938, 939, 940, 941, 942, 943, 944, 945, 946, 947, 948, 949, 950, 951] (by exact rfl) (by decide +kernel)
set_option maxRecDepth 20000 in
theorem gL_law_X6_left : GoodIn wsL_law (wsV RL 75 RX6 yX6_left wsX6_left) := goodIn_app (goodIn_of _ (by decide +kernel)) ggL_law_X6_left
set_option maxRecDepth 20000 in
theorem ggL_law_X5_allow : GoodIn wsL_law wsX5_allow := goodIn_r _ [626, 15, 544, 29, 545, 546, 547, 2, 548, 549, 130, 131, 132, 133, 37, 627, 628, 629, 28, 630, 631, 632, 83, 633, 487, 488, 14, 489, 42, 43, 485, 312, 313, 314, 48, 490, 491, 492, 493, 44, 45, 634, 635, 636, 637, 85, 84, 638, 205, 206, 207, 639, 640, 641, 642, 643, 644, 645, 646, 647, 209, 210, 648, 482, 483, 484, 649, 316, 317, 318, 47, 650, 651, 652, 653, 654, 918, 919, 920, 921, 922, 923, 924, 925, 926, 927, 952, 953, 954, 955, 956, 957, 958, 959, 960, 961, 977, 978, 979, 980, 981, 982] (by exact rfl) (by decide +kernel)
set_option maxRecDepth 20000 in
theorem gL_law_X5_allow : GoodIn wsL_law (wsV RL 76 RX5 yX5_allow wsX5_allow) := goodIn_app (goodIn_of _ (by decide +kernel)) ggL_law_X5_allow
set_option maxRecDepth 20000 in
theorem ggL_law_X6_allow : GoodIn wsL_law wsX6_allow := goodIn_r _ [658, 348, 560, 561, 562, 5, 563, 564, 148, 149, 150, 151, 113, 659, 660, 661, 662, 125, 116, 502, 205, 206, 207, 663, 664, 665, 666, 110, 120, 503, 504, 505, 506, 105, 565, 566, 567, 568, 106, 107, 108, 928, 929, 930, 931, 932, 933, 934, 935, 936, 937, 938, 939, 940, 941, 942, 943, 944, 945, 946, 947, 948, 949, 950, 951] (by exact rfl) (by decide +kernel)
set_option maxRecDepth 20000 in
theorem gL_law_X6_allow : GoodIn wsL_law (wsV RL 79 RX6 yX6_allow wsX6_allow) := goodIn_app (goodIn_of _ (by decide +kernel)) ggL_law_X6_allow
set_option maxRecDepth 20000 in
theorem ggL_law_X5_best : GoodIn wsL_law wsX5_best := goodIn_r _ [670, 15, 544, 29, 671, 672, 545, 546, 547, 2, 548, 549, 130, 131, 132, 133, 37, 673, 674, 675, 28, 676, 87, 88, 632, 677, 628, 629, 630, 631, 83, 633, 487, 488, 14, 489, 42, 43, 485, 312, 313, 314, 48, 490, 491, 492, 493, 44, 45, 678, 635, 636, 637, 85, 84, 638, 205, 206, 207, 639, 640, 641, 642, 643, 644, 645, 646, 647, 209, 210, 648, 482, 483, 484, 649, 316, 317, 318, 47, 650, 651, 652, 653, 654, 918, 919, 920, 921, 922, 923, 924, 925, 926, 927, 952, 953, 954, 955, 956, 957, 958, 959, 960, 961, 977, 978, 979, 980, 981, 982] (by exact rfl) (by decide +kernel)
set_option maxRecDepth 20000 in
theorem gL_law_X5_best : GoodIn wsL_law (wsV RL 80 RX5 yX5_best wsX5_best) := goodIn_app (goodIn_of _ (by decide +kernel)) ggL_law_X5_best
set_option maxRecDepth 20000 in
theorem ggL_law_X6_best : GoodIn wsL_law wsX6_best := goodIn_r _ [682, 348, 370, 371, 5, 372, 560, 561, 562, 563, 564, 148, 149, 150, 151, 113, 683, 684, 685, 686, 125, 117, 116, 659, 660, 661, 662, 502, 205, 206, 207, 663, 664, 665, 666, 110, 120, 503, 504, 505, 506, 105, 565, 566, 567, 568, 106, 107, 108, 928, 929, 930, 931, 932, 933, 934, 935, 936, 937, 938, 939, 940, 941, 942, 943, 944, 945, 946, 947, 948, 949, 950, 951] (by exact rfl) (by decide +kernel)
set_option maxRecDepth 20000 in
theorem gL_law_X6_best : GoodIn wsL_law (wsV RL 83 RX6 yX6_best wsX6_best) := goodIn_app (goodIn_of _ (by decide +kernel)) ggL_law_X6_best
set_option maxRecDepth 20000 in
theorem ggL_law_X5_bestDay : GoodIn wsL_law wsX5_bestDay := goodIn_r _ [690, 15, 544, 29, 672, 691, 407, 308, 309, 14, 310, 49, 130, 131, 132, 2, 133, 37, 673, 674, 675, 28, 676, 87, 88, 632, 677, 628, 629, 630, 631, 83, 633, 487, 488, 489, 42, 43, 485, 312, 313, 314, 48, 490, 491, 492, 493, 44, 45, 678, 635, 636, 637, 85, 84, 638, 205, 206, 207, 639, 640, 641, 642, 643, 644, 645, 646, 647, 209, 210, 648, 482, 483, 484, 649, 316, 317, 318, 47, 650, 651, 652, 653, 654, 692, 693, 694, 695, 86, 696, 697, 698, 699, 700, 701, 702, 703, 704, 705, 706, 707, 708, 709, 710, 711, 918, 919, 920, 921, 922, 923, 924, 925, 926, 927, 952, 953, 954, 955, 956, 957, 958, 959, 960, 961, 977, 978, 979, 980, 981, 982] (by exact rfl) (by decide +kernel)
set_option maxRecDepth 20000 in
theorem gL_law_X5_bestDay : GoodIn wsL_law (wsV RL 84 RX5 yX5_bestDay wsX5_bestDay) := goodIn_app (goodIn_of _ (by decide +kernel)) ggL_law_X5_bestDay
set_option maxRecDepth 20000 in
theorem ggL_law_X6_bestDay : GoodIn wsL_law wsX6_bestDay := goodIn_r _ [715, 348, 117, 373, 374, 375, 5, 376, 125, 370, 371, 372, 148, 149, 150, 151, 113, 683, 684, 685, 686, 116, 659, 660, 661, 662, 502, 205, 206, 207, 663, 664, 665, 666, 110, 120, 503, 504, 505, 506, 105, 565, 566, 567, 568, 106, 107, 108, 928, 929, 930, 931, 932, 933, 934, 935, 936, 937, 938, 939, 940, 941, 942, 943, 944, 945, 946, 947, 948, 949, 950, 951] (by exact rfl) (by decide +kernel)
set_option maxRecDepth 20000 in
theorem gL_law_X6_bestDay : GoodIn wsL_law (wsV RL 87 RX6 yX6_bestDay wsX6_bestDay) := goodIn_app (goodIn_of _ (by decide +kernel)) ggL_law_X6_bestDay
set_option maxRecDepth 20000 in
theorem ggL_law_X5_breaking : GoodIn wsL_law wsX5_breaking := goodIn_r _ [719, 15, 544, 720, 417, 130, 131, 132, 2, 133, 37, 606, 607, 608, 609, 25, 445, 456, 457, 458, 459, 460, 461, 462, 24, 463, 464, 71, 465, 70, 466, 286, 287, 288, 467, 468, 469, 470, 73, 72, 471, 472, 473, 474, 475, 74, 75, 76, 77, 78, 476, 477, 478, 479, 480, 209, 206, 210, 481, 482, 483, 14, 484, 42, 485, 312, 313, 314, 48, 486, 487, 488, 489, 43, 490, 491, 492, 493, 44, 45, 610, 611, 612, 613, 614, 591, 592, 593, 721, 722, 723, 724, 725, 406, 918, 919, 920, 921, 922, 923, 924, 925, 926, 927, 952, 953, 954, 955, 956, 957, 958, 959, 960, 961, 968, 969, 970, 971, 972, 973, 974, 975, 976] (by exact rfl) (by decide +kernel)
set_option maxRecDepth 20000 in
theorem gL_law_X5_breaking : GoodIn wsL_law (wsV RL 88 RX5 yX5_breaking wsX5_breaking) := goodIn_app (goodIn_of _ (by decide +kernel)) ggL_law_X5_breaking
set_option maxRecDepth 20000 in
theorem ggL_law_X6_breaking : GoodIn wsL_law wsX6_breaking := goodIn_r _ [729, 348, 125, 110, 109, 148, 149, 150, 5, 151, 113, 619, 620, 621, 622, 349, 578, 579, 580, 581, 120, 582, 583, 584, 585, 507, 508, 509, 510, 565, 566, 567, 568, 105, 106, 107, 108, 598, 599, 600, 601, 520, 521, 522, 523, 503, 504, 505, 506, 928, 929, 930, 931, 932, 933, 934, 935, 936, 937, 938, 939, 940, 941, 942, 943, 944, 945, 946, 947, 948, 949, 950, 951] (by exact rfl) (by decide +kernel)
set_option maxRecDepth 20000 in
theorem gL_law_X6_breaking : GoodIn wsL_law (wsV RL 91 RX6 yX6_breaking wsX6_breaking) := goodIn_app (goodIn_of _ (by decide +kernel)) ggL_law_X6_breaking
set_option maxRecDepth 20000 in
theorem ggL_law_X5_more : GoodIn wsL_law wsX5_more := goodIn_r _ [733, 15, 25, 445, 397, 312, 313, 14, 314, 48, 545, 546, 547, 2, 548, 549, 130, 131, 132, 133, 37, 606, 607, 608, 609, 456, 457, 458, 459, 460, 461, 462, 24, 463, 464, 71, 465, 70, 466, 286, 287, 288, 467, 468, 469, 470, 73, 72, 471, 472, 473, 474, 475, 74, 75, 76, 77, 78, 476, 477, 478, 479, 480, 209, 206, 210, 481, 482, 483, 484, 42, 485, 486, 487, 488, 489, 43, 490, 491, 492, 493, 44, 45, 610, 611, 612, 613, 614, 591, 592, 593, 734, 735, 736, 737, 918, 919, 920, 921, 922, 923, 924, 925, 926, 927, 952, 953, 954, 955, 956, 957, 958, 959, 960, 961, 968, 969, 970, 971, 972, 973, 974, 975, 976] (by exact rfl) (by decide +kernel)
set_option maxRecDepth 20000 in
theorem gL_law_X5_more : GoodIn wsL_law (wsV RL 92 RX5 yX5_more wsX5_more) := goodIn_app (goodIn_of _ (by decide +kernel)) ggL_law_X5_more
set_option maxRecDepth 20000 in
theorem ggL_law_X6_more : GoodIn wsL_law wsX6_more := goodIn_r _ [741, 109, 125, 377, 378, 379, 5, 380, 348, 370, 371, 372, 560, 561, 562, 563, 564, 148, 149, 150, 151, 113, 619, 620, 621, 622, 349, 578, 579, 580, 581, 120, 582, 583, 584, 585, 507, 508, 509, 510, 565, 566, 567, 568, 105, 106, 107, 108, 598, 599, 600, 601, 520, 521, 522, 523, 503, 504, 505, 506, 928, 929, 930, 931, 932, 933, 934, 935, 936, 937, 938, 939, 940, 941, 942, 943, 944, 945, 946, 947, 948, 949, 950, 951] (by exact rfl) (by decide +kernel)
set_option maxRecDepth 20000 in
theorem gL_law_X6_more : GoodIn wsL_law (wsV RL 95 RX6 yX6_more wsX6_more) := goodIn_app (goodIn_of _ (by decide +kernel)) ggL_law_X6_more
set_option maxRecDepth 20000 in
theorem ggL_law_X5_brought : GoodIn wsL_law wsX5_brought := goodIn_r _ [745, 15, 720, 406, 397, 312, 313, 14, 314, 48, 545, 546, 547, 2, 548, 549, 130, 131, 132, 133, 37, 550, 551, 552, 553, 46, 554, 529, 530, 531, 555, 487, 488, 489, 42, 43, 485, 490, 491, 492, 493, 44, 45, 918, 919, 920, 921, 922, 923, 924, 925, 926, 927, 952, 953, 954, 955, 956, 957, 958, 959, 960, 961] (by exact rfl) (by decide +kernel)
set_option maxRecDepth 20000 in
theorem gL_law_X5_brought : GoodIn wsL_law (wsV RL 96 RX5 yX5_brought wsX5_brought) := goodIn_app (goodIn_of _ (by decide +kernel)) ggL_law_X5_brought
set_option maxRecDepth 20000 in
theorem ggL_law_X6_brought : GoodIn wsL_law wsX6_brought := goodIn_r _ [749, 125, 109, 377, 378, 379, 5, 380, 348, 370, 371, 372, 560, 561, 562, 563, 564, 148, 149, 150, 151, 113, 507, 508, 509, 510, 565, 566, 567, 568, 105, 106, 107, 108, 928, 929, 930, 931, 932, 933, 934, 935, 936, 937, 938, 939, 940, 941, 942, 943, 944, 945, 946, 947, 948, 949, 950, 951] (by decide +kernel) (by decide +kernel)
set_option maxRecDepth 20000 in
theorem gL_law_X6_brought : GoodIn wsL_law (wsV RL 99 RX6 yX6_brought wsX6_brought) := goodIn_app (goodIn_of _ (by decide +kernel)) ggL_law_X6_brought
set_option maxRecDepth 20000 in
theorem ggL_law_X5_byLaw : GoodIn wsL_law wsX5_byLaw := goodIn_r _ [753, 15, 544, 25, 446, 336, 2, 337, 130, 131, 132, 133, 37, 456, 457, 458, 459, 460, 461, 462, 24, 463, 464, 71, 465, 70, 466, 286, 287, 288, 467, 468, 469, 470, 73, 72, 471, 472, 473, 474, 475, 74, 75, 76, 77, 78, 476, 477, 478, 479, 480, 209, 206, 210, 481, 482, 483, 14, 484, 42, 485, 312, 313, 314, 48, 486, 487, 488, 489, 43, 490, 491, 492, 493, 44, 45, 590, 591, 592, 593, 918, 919, 920, 921, 922, 923, 924, 925, 926, 927, 952, 953, 954, 955, 956, 957, 958, 959, 960, 961, 968, 969, 970, 971, 972, 973, 974, 975, 976] (by exact rfl) (by decide +kernel)
set_option maxRecDepth 20000 in
theorem gL_law_X5_byLaw : GoodIn wsL_law (wsV RL 100 RX5 yX5_byLaw wsX5_byLaw) := goodIn_app (goodIn_of _ (by decide +kernel)) ggL_law_X5_byLaw
set_option maxRecDepth 20000 in
theorem ggL_law_X6_byLaw : GoodIn wsL_law wsX6_byLaw := goodIn_r _ [757, 348, 370, 371, 5, 372, 148, 149, 150, 151, 113, 598, 599, 600, 601, 125, 109, 582, 583, 584, 585, 520, 521, 522, 523, 503, 504, 505, 506, 105, 507, 508, 509, 510, 928, 929, 930, 931, 932, 933, 934, 935, 936, 937, 938, 939, 940, 941, 942, 943, 944, 945, 946, 947, 948, 949, 950, 951] (by decide +kernel) (by decide +kernel)
set_option maxRecDepth 20000 in
theorem gL_law_X6_byLaw : GoodIn wsL_law (wsV RL 103 RX6 yX6_byLaw wsX6_byLaw) := goodIn_app (goodIn_of _ (by decide +kernel)) ggL_law_X6_byLaw
set_option maxRecDepth 20000 in
theorem ggL_law_X5_years : GoodIn wsL_law wsX5_years := goodIn_r _ [761, 33, 762, 763, 764, 2, 765, 766, 130, 131, 132, 133, 37, 767, 768, 769, 32, 770, 771, 209, 206, 210, 99, 100, 92, 94, 772, 53, 54, 55, 773, 774, 775, 776, 777, 778, 779, 780, 98, 97, 781, 782, 783, 784, 785, 786, 787, 788, 918, 919, 920, 921, 922, 923, 924, 925, 926, 927, 983, 984, 985, 986, 987, 988] (by exact rfl) (by decide +kernel)
set_option maxRecDepth 20000 in
theorem gL_law_X5_years : GoodIn wsL_law (wsV RL 104 RX5 yX5_years wsX5_years) := goodIn_app (goodIn_of _ (by decide +kernel)) ggL_law_X5_years
set_option maxRecDepth 20000 in
theorem ggL_law_X6_years : GoodIn wsL_law wsX6_years := goodIn_r _ [792, 793, 794, 795, 5, 796, 797, 148, 149, 150, 151, 113, 798, 799, 800, 96, 928, 929, 930, 931, 932, 933, 934, 935, 936, 937, 938, 939, 940, 941, 942, 943, 944, 945, 946, 947, 948, 949, 950, 951] (by decide +kernel) (by decide +kernel)
set_option maxRecDepth 20000 in
theorem gL_law_X6_years : GoodIn wsL_law (wsV RL 108 RX6 yX6_years wsX6_years) := goodIn_app (goodIn_of _ (by decide +kernel)) ggL_law_X6_years
set_option maxRecDepth 20000 in
theorem ggL_law_X5_row : GoodIn wsL_law wsX5_row := goodIn_r _ [804, 36, 35, 130, 131, 132, 2, 133, 37, 918, 919, 920, 921, 922, 923, 924, 925, 926, 927] (by decide +kernel) (by decide +kernel)
set_option maxRecDepth 20000 in
theorem gL_law_X5_row : GoodIn wsL_law (wsV RL 109 RX5 yX5_row wsX5_row) := goodIn_app (goodIn_of _ (by decide +kernel)) ggL_law_X5_row
set_option maxRecDepth 20000 in
theorem ggL_law_X6_row : GoodIn wsL_law wsX6_row := goodIn_r _ [808, 809, 112, 148, 149, 150, 5, 151, 113, 928, 929, 930, 931, 932, 933, 934, 935, 936, 937, 938, 939, 940, 941, 942, 943, 944, 945, 946, 947, 948, 949, 950, 951] (by decide +kernel) (by decide +kernel)
set_option maxRecDepth 20000 in
theorem gL_law_X6_row : GoodIn wsL_law (wsV RL 112 RX6 yX6_row wsX6_row) := goodIn_app (goodIn_of _ (by decide +kernel)) ggL_law_X6_row
set_option maxRecDepth 20000 in
theorem ggL_law_X5_fitting : GoodIn wsL_law wsX5_fitting := goodIn_r _ [813, 15, 544, 36, 33, 35, 762, 763, 764, 2, 765, 766, 130, 131, 132, 133, 37, 814, 815, 816, 32, 817, 771, 209, 206, 210, 99, 818, 100, 92, 819, 286, 287, 288, 94, 820, 482, 483, 14, 484, 42, 485, 312, 313, 314, 48, 821, 822, 823, 824, 825, 774, 775, 776, 777, 778, 779, 780, 98, 97, 781, 782, 783, 784, 785, 786, 787, 788, 918, 919, 920, 921, 922, 923, 924, 925, 926, 927, 952, 953, 954, 955, 956, 957, 958, 959, 960, 961, 983, 984, 985, 986, 987, 988] (by exact rfl) (by decide +kernel)
set_option maxRecDepth 20000 in
theorem gL_law_X5_fitting : GoodIn wsL_law (wsV RL 113 RX5 yX5_fitting wsX5_fitting) := goodIn_app (goodIn_of _ (by decide +kernel)) ggL_law_X5_fitting
set_option maxRecDepth 20000 in
theorem ggL_law_X6_fitting : GoodIn wsL_law wsX6_fitting := goodIn_r _ [829, 809, 348, 793, 794, 795, 5, 796, 797, 148, 149, 150, 151, 113, 830, 831, 832, 833, 118, 119, 112, 502, 205, 206, 207, 503, 504, 505, 506, 105, 928, 929, 930, 931, 932, 933, 934, 935, 936, 937, 938, 939, 940, 941, 942, 943, 944, 945, 946, 947, 948, 949, 950, 951] (by decide +kernel) (by decide +kernel)
set_option maxRecDepth 20000 in
theorem gL_law_X6_fitting : GoodIn wsL_law (wsV RL 117 RX6 yX6_fitting wsX6_fitting) := goodIn_app (goodIn_of _ (by decide +kernel)) ggL_law_X6_fitting
set_option maxRecDepth 20000 in
theorem ggL_law_X5_likely : GoodIn wsL_law wsX5_likely := goodIn_r _ [837, 36, 15, 33, 35, 397, 312, 313, 14, 314, 48, 762, 763, 764, 2, 765, 766, 130, 131, 132, 133, 37, 814, 815, 816, 32, 817, 771, 209, 206, 210, 99, 818, 100, 92, 819, 286, 287, 288, 94, 820, 482, 483, 484, 42, 485, 821, 822, 823, 824, 825, 774, 775, 776, 777, 778, 779, 780, 98, 97, 781, 782, 783, 784, 785, 786, 787, 788, 838, 839, 840, 841, 842, 843, 844, 845, 846, 847, 848, 918, 919, 920, 921, 922, 923, 924, 925, 926, 927, 952, 953, 954, 955, 956, 957, 958, 959, 960, 961, 983, 984, 985, 986, 987, 988] (by exact rfl) (by decide +kernel)
set_option maxRecDepth 20000 in
theorem gL_law_X5_likely : GoodIn wsL_law (wsV RL 118 RX5 yX5_likely wsX5_likely) := goodIn_app (goodIn_of _ (by decide +kernel)) ggL_law_X5_likely
set_option maxRecDepth 20000 in
theorem ggL_law_X6_likely : GoodIn wsL_law wsX6_likely := goodIn_r _ [852, 809, 370, 371, 5, 372, 377, 378, 379, 380, 348, 793, 794, 795, 796, 797, 148, 149, 150, 151, 113, 830, 831, 832, 833, 118, 119, 112, 502, 205, 206, 207, 503, 504, 505, 506, 105, 928, 929, 930, 931, 932, 933, 934, 935, 936, 937, 938, 939, 940, 941, 942, 943, 944, 945, 946, 947, 948, 949, 950, 951] (by exact rfl) (by decide +kernel)
set_option maxRecDepth 20000 in
theorem gL_law_X6_likely : GoodIn wsL_law (wsV RL 122 RX6 yX6_likely wsX6_likely) := goodIn_app (goodIn_of _ (by decide +kernel)) ggL_law_X6_likely
set_option maxRecDepth 20000 in
theorem ggL_law_X5_judge : GoodIn wsL_law wsX5_judge := goodIn_r _ [856, 36, 857, 858, 859, 2, 860, 15, 720, 861, 209, 206, 210, 35, 406, 918, 919, 920, 921, 922, 923, 924, 925, 926, 927, 952, 953, 954, 955, 956, 957, 958, 959, 960, 961] (by decide +kernel) (by decide +kernel)
set_option maxRecDepth 20000 in
theorem gL_law_X5_judge : GoodIn wsL_law (wsV RL 123 RX5 yX5_judge wsX5_judge) := goodIn_app (goodIn_of _ (by decide +kernel)) ggL_law_X5_judge
set_option maxRecDepth 20000 in
theorem ggL_law_X6_judge : GoodIn wsL_law wsX6_judge := goodIn_r _ [865, 809, 125, 112, 109, 928, 929, 930, 931, 932, 933, 934, 935, 936, 937, 938, 939, 940, 941, 942, 943, 944, 945, 946, 947, 948, 949, 950, 951] (by decide +kernel) (by decide +kernel)
set_option maxRecDepth 20000 in
theorem gL_law_X6_judge : GoodIn wsL_law (wsV RL 126 RX6 yX6_judge wsX6_judge) := goodIn_app (goodIn_of _ (by decide +kernel)) ggL_law_X6_judge
set_option maxRecDepth 20000 in
theorem ggL_law_X5_seeds : GoodIn wsL_law wsX5_seeds := goodIn_r _ [869, 15, 544, 25, 445, 545, 546, 547, 2, 548, 549, 130, 131, 132, 133, 37, 870, 871, 872, 24, 873, 464, 71, 874, 70, 875, 876, 877, 878, 467, 468, 469, 470, 73, 72, 471, 472, 473, 474, 475, 74, 75, 76, 77, 78, 476, 477, 478, 479, 480, 209, 206, 210, 481, 482, 483, 14, 484, 42, 485, 312, 313, 314, 48, 486, 487, 488, 489, 43, 490, 491, 492, 493, 44, 45, 610, 611, 612, 613, 614, 591, 592, 593, 918, 919, 920, 921, 922, 923, 924, 925, 926, 927, 952, 953, 954, 955, 956, 957, 958, 959, 960, 961, 968, 969, 970, 971, 972, 973, 974, 975, 976] (by exact rfl) (by decide +kernel)
set_option maxRecDepth 20000 in
theorem gL_law_X5_seeds : GoodIn wsL_law (wsV RL 127 RX5 yX5_seeds wsX5_seeds) := goodIn_app (goodIn_of _ (by decide +kernel)) ggL_law_X5_seeds
set_option maxRecDepth 20000 in
theorem ggL_law_X6_seeds : GoodIn wsL_law wsX6_seeds := goodIn_r _ [882, 348, 115, 125, 110, 109, 883, 884, 885, 560, 561, 562, 5, 563, 564, 148, 149, 150, 151, 113, 381, 382, 383, 384, 105, 106, 107, 108, 120, 349, 619, 620, 621, 622, 578, 579, 580, 581, 582, 583, 584, 585, 507, 508, 509, 510, 565, 566, 567, 568, 598, 599, 600, 601, 520, 521, 522, 523, 503, 504, 505, 506, 385, 386, 387, 388, 928, 929, 930, 931, 932, 933, 934, 935, 936, 937, 938, 939, 940, 941, 942, 943, 944, 945, 946, 947, 948, 949, 950, 951] (by exact rfl) (by decide +kernel)
set_option maxRecDepth 20000 in
theorem gL_law_X6_seeds : GoodIn wsL_law (wsV RL 130 RX6 yX6_seeds wsX6_seeds) := goodIn_app (goodIn_of _ (by decide +kernel)) ggL_law_X6_seeds
set_option maxRecDepth 20000 in
theorem ggL_law_X5_image : GoodIn wsL_law wsX5_image := goodIn_r _ [889, 16, 15, 17, 720, 890, 282, 283, 14, 284, 42, 285, 286, 287, 288, 43, 44, 45, 46, 47, 48, 49, 50, 51, 918, 919, 920, 921, 922, 923, 924, 925, 926, 927, 952, 953, 954, 955, 956, 957, 958, 959, 960, 961] (by decide +kernel) (by decide +kernel)
set_option maxRecDepth 20000 in
theorem gL_law_X5_image : GoodIn wsL_law (wsV RL 131 RX5 yX5_image wsX5_image) := goodIn_app (goodIn_of _ (by decide +kernel)) ggL_law_X5_image
set_option maxRecDepth 20000 in
theorem ggL_law_X6_image : GoodIn wsL_law wsX6_image := goodIn_r _ [894, 895, 114, 125, 381, 382, 383, 5, 384, 109, 110, 105, 106, 107, 108, 348, 120, 349, 928, 929, 930, 931, 932, 933, 934, 935, 936, 937, 938, 939, 940, 941, 942, 943, 944, 945, 946, 947, 948, 949, 950, 951] (by decide +kernel) (by decide +kernel)
set_option maxRecDepth 20000 in
theorem gL_law_X6_image : GoodIn wsL_law (wsV RL 134 RX6 yX6_image wsX6_image) := goodIn_app (goodIn_of _ (by decide +kernel)) ggL_law_X6_image
set_option maxRecDepth 20000 in
theorem ggL_law_X5_on : GoodIn wsL_law wsX5_on := goodIn_r _ [899, 17, 15, 16, 720, 130, 131, 132, 2, 133, 37, 890, 282, 283, 14, 284, 42, 285, 286, 287, 288, 43, 44, 45, 46, 47, 48, 49, 50, 51, 918, 919, 920, 921, 922, 923, 924, 925, 926, 927, 952, 953, 954, 955, 956, 957, 958, 959, 960, 961] (by decide +kernel) (by decide +kernel)
set_option maxRecDepth 20000 in
theorem gL_law_X5_on : GoodIn wsL_law (wsV RL 135 RX5 yX5_on wsX5_on) := goodIn_app (goodIn_of _ (by decide +kernel)) ggL_law_X5_on
set_option maxRecDepth 20000 in
theorem ggL_law_X6_on_ : GoodIn wsL_law wsX6_on_ := goodIn_r _ [903, 895, 114, 125, 148, 149, 150, 5, 151, 113, 385, 386, 387, 388, 109, 110, 105, 106, 107, 108, 348, 120, 349, 928, 929, 930, 931, 932, 933, 934, 935, 936, 937, 938, 939, 940, 941, 942, 943, 944, 945, 946, 947, 948, 949, 950, 951] (by decide +kernel) (by decide +kernel)
set_option maxRecDepth 20000 in
theorem gL_law_X6_on_ : GoodIn wsL_law (wsV RL 138 RX6 yX6_on_ wsX6_on_) := goodIn_app (goodIn_of _ (by decide +kernel)) ggL_law_X6_on_
set_option maxRecDepth 20000 in
theorem ggL_law_X5_count : GoodIn wsL_law wsX5_count := goodIn_r _ [907, 15, 544, 720, 436, 445, 25, 908, 36, 21, 909, 37, 456, 457, 458, 2, 459, 460, 461, 462, 24, 463, 464, 71, 465, 70, 466, 286, 287, 288, 467, 468, 469, 470, 73, 72, 471, 472, 473, 474, 475, 74, 75, 76, 77, 78, 476, 477, 478, 479, 480, 209, 206, 210, 481, 482, 483, 14, 484, 42, 485, 312, 313, 314, 48, 486, 487, 488, 489, 43, 490, 491, 492, 493, 44, 45, 910, 911, 912, 913, 49, 47, 918, 919, 920, 921, 922, 923, 924, 925, 926, 927, 952, 953, 954, 955, 956, 957, 958, 959, 960, 961, 968, 969, 970, 971, 972, 973, 974, 975, 976, 962, 963, 964, 965, 966, 967] (by exact rfl) (by decide +kernel)
set_option maxRecDepth 20000 in
theorem gL_law_X5_count : GoodIn wsL_law (wsV RL 139 RX5 yX5_count wsX5_count) := goodIn_app (goodIn_of _ (by decide +kernel)) ggL_law_X5_count
set_option maxRecDepth 20000 in
theorem ggL_law_X6_count : GoodIn wsL_law wsX6_count := goodIn_r _ [917, 348, 125, 120, 349, 110, 809, 147, 113, 582, 583, 584, 5, 585, 109, 370, 371, 372, 928, 929, 930, 931, 932, 933, 934, 935, 936, 937, 938, 939, 940, 941, 942, 943, 944, 945, 946, 947, 948, 949, 950, 951] (by decide +kernel) (by decide +kernel)
set_option maxRecDepth 20000 in
theorem gL_law_X6_count : GoodIn wsL_law (wsV RL 142 RX6 yX6_count wsX6_count) := goodIn_app (goodIn_of _ (by decide +kernel)) ggL_law_X6_count
