set_option maxRecDepth 20000 in
theorem wl_21 : ∀ w ∈ wsL_law_r21, w ∈ lw_tbl := mem_r _ [561, 556, 557, 558, 559, 560, 562, 563, 564, 565, 566, 568, 16, 569, 978, 979, 980, 981, 982, 984, 43, 985, 994, 986] (by decide +kernel)
set_option maxRecDepth 20000 in
theorem wl_22 : ∀ w ∈ wsL_law_r22, w ∈ lw_tbl := mem_r _ [988, 44, 989, 990, 992, 45, 993, 570, 571, 572, 573, 187, 995, 996, 997, 998, 999, 1001, 46, 1002, 574, 575, 576, 577] (by decide +kernel)
set_option maxRecDepth 20000 in
theorem wl_23 : ∀ w ∈ wsL_law_r23, w ∈ lw_tbl := mem_r _ [578, 579, 580, 581, 582, 583, 584, 585, 1003, 1004, 1005, 1006, 586, 587, 588, 589, 110, 590, 592, 17, 593, 594, 595, 596] (by decide +kernel)
set_option maxRecDepth 20000 in
theorem wl_24 : ∀ w ∈ wsL_law_r24, w ∈ lw_tbl := mem_r _ [597, 598, 599, 600, 1007, 1008, 1009, 1010, 1011, 1013, 47, 1014, 1015, 1016, 1018, 48, 1019, 601, 602, 603, 604, 183, 1020, 1021] (by decide +kernel)
set_option maxRecDepth 20000 in
theorem wl_25 : ∀ w ∈ wsL_law_r25, w ∈ lw_tbl := mem_r _ [1022, 1023, 1024, 1026, 49, 1027, 1028, 1030, 50, 1031, 605, 606, 607, 608, 609, 610, 611, 612, 1032, 1033, 1034, 1035, 1036, 1038] (by decide +kernel)
set_option maxRecDepth 20000 in
theorem wl_26 : ∀ w ∈ wsL_law_r26, w ∈ lw_tbl := mem_r _ [51, 1039, 613, 614, 615, 616, 617, 619, 18, 620, 621, 622, 623, 624, 625, 1040, 1041, 1042, 1043, 1044, 1046, 52, 1047, 626] (by decide +kernel)
set_option maxRecDepth 20000 in
theorem wl_27 : ∀ w ∈ wsL_law_r27, w ∈ lw_tbl := mem_r _ [627, 628, 629, 630, 631, 632, 633, 107, 113, 634, 635, 636, 637, 638, 650, 639, 641, 19, 642, 643, 645, 20, 646, 648] (by decide +kernel)
set_option maxRecDepth 20000 in
theorem wl_28 : ∀ w ∈ wsL_law_r28, w ∈ lw_tbl := mem_r _ [647, 649, 651, 653, 21, 654, 117, 1048, 1049, 1050, 1051, 1052, 1054, 53, 1055, 1056, 1058, 54, 1059, 655, 656, 657, 658, 226] (by decide +kernel)
set_option maxRecDepth 20000 in
theorem wl_29 : ∀ w ∈ wsL_law_r29, w ∈ lw_tbl := mem_r _ [228, 659, 660, 661, 662, 663, 664, 1060, 1061, 1062, 1063, 1064, 1066, 55, 1067, 665, 666, 667, 668, 224, 669, 670, 671, 672] (by decide +kernel)
set_option maxRecDepth 20000 in
theorem wl_30 : ∀ w ∈ wsL_law_r30, w ∈ lw_tbl := mem_r _ [673, 675, 22, 676, 677, 679, 23, 680, 681, 683, 24, 684, 685, 687, 25, 688, 1068, 1069, 1070, 1071, 689, 690, 691, 692] (by decide +kernel)
set_option maxRecDepth 20000 in
theorem wl_31 : ∀ w ∈ wsL_law_r31, w ∈ lw_tbl := mem_r _ [114, 693, 695, 26, 696, 180, 1072, 1073, 1074, 1075, 697, 698, 699, 700, 701, 702, 703, 704, 1076, 1077, 1078, 1079, 705, 706] (by decide +kernel)
set_option maxRecDepth 20000 in
theorem wl_32 : ∀ w ∈ wsL_law_r32, w ∈ lw_tbl := mem_r _ [707, 708, 1080, 1081, 1082, 1083, 709, 710, 711, 712, 1084, 1085, 1086, 1087, 713, 714, 715, 716, 717, 719, 27, 720, 721, 722] (by decide +kernel)
set_option maxRecDepth 20000 in
theorem wl_33 : ∀ w ∈ wsL_law_r33, w ∈ lw_tbl := mem_r _ [723, 724, 725, 726, 727, 728, 729, 730, 731, 732, 734, 28, 735, 736, 738, 29, 739, 740, 742, 30, 743, 1088, 1089, 1090] (by decide +kernel)
set_option maxRecDepth 20000 in
theorem wl_34 : ∀ w ∈ wsL_law_r34, w ∈ lw_tbl := mem_r _ [1091, 1092, 1094, 56, 1095, 1096, 1097, 1098, 1099, 744, 745, 746, 747, 1100, 1101, 1102, 1103, 839, 748, 749, 750, 751, 752, 753] (by decide +kernel)
set_option maxRecDepth 20000 in
theorem wl_35 : ∀ w ∈ wsL_law_r35, w ∈ lw_tbl := mem_r _ [754, 755, 108, 756, 757, 758, 759, 760, 761, 762, 1104, 1105, 1106, 1107, 1108, 1110, 57, 1111, 763, 764, 765, 766, 767, 768] (by decide +kernel)
set_option maxRecDepth 20000 in
theorem wl_36 : ∀ w ∈ wsL_law_r36, w ∈ lw_tbl := mem_r _ [769, 770, 771, 772, 773, 774, 775, 776, 777, 1112, 1113, 1114, 1115, 778, 779, 780, 781, 782, 784, 31, 785, 786, 1116, 1117] (by decide +kernel)
set_option maxRecDepth 20000 in
theorem wl_37 : ∀ w ∈ wsL_law_r37, w ∈ lw_tbl := mem_r _ [1118, 1119, 787, 788, 789, 790, 791, 792, 793, 794, 104, 109, 795, 796, 797, 1120, 1121, 1122, 1123, 1124, 1125, 1126, 798, 799] (by decide +kernel)
set_option maxRecDepth 20000 in
theorem wl_38 : ∀ w ∈ wsL_law_r38, w ∈ lw_tbl := mem_r _ [800, 801, 802, 1127, 1128, 1129, 1130, 842, 803, 804, 805, 806, 1131, 1132, 1133, 1134, 807, 808, 809, 810, 185, 155, 811, 812] (by decide +kernel)
set_option maxRecDepth 20000 in
theorem wl_39 : ∀ w ∈ wsL_law_r39, w ∈ lw_tbl := mem_r _ [813, 814, 1135, 1136, 1137, 1138] (by decide +kernel)
set_option maxRecDepth 20000 in
theorem inX5 : ∀ w ∈ wsX50, w ∈ lw_tbl := by decide +kernel
set_option maxRecDepth 20000 in
theorem inX6 : ∀ w ∈ wsX60, w ∈ lw_tbl := by decide +kernel
set_option maxRecDepth 20000 in
theorem inX4 : ∀ w ∈ wsX40, w ∈ lw_tbl := by decide +kernel
set_option maxRecDepth 20000 in
theorem inX3 : ∀ w ∈ wsX30, w ∈ lw_tbl := by decide +kernel
set_option maxRecDepth 20000 in
theorem inX1 : ∀ w ∈ wsX10, w ∈ lw_tbl := by decide +kernel
set_option maxRecDepth 20000 in
theorem inX2 : ∀ w ∈ wsX20, w ∈ lw_tbl := by decide +kernel
set_option maxRecDepth 20000 in
theorem inX0 : ∀ w ∈ wsX00, w ∈ lw_tbl := by decide +kernel
theorem wsL_law_in : ∀ w ∈ wsL_law, w ∈ lw_tbl := by
  unfold wsL_law
  exact (List.forall_mem_append.mpr ⟨(List.forall_mem_append.mpr ⟨(List.forall_mem_append.mpr ⟨(List.forall_mem_append.mpr ⟨(List.forall_mem_append.mpr ⟨(List.forall_mem_append.mpr ⟨(List.forall_mem_append.mpr ⟨(List.forall_mem_append.mpr ⟨(List.forall_mem_append.mpr ⟨wl_1, (List.forall_mem_append.mpr ⟨wl_2, (List.forall_mem_append.mpr ⟨wl_3, (List.forall_mem_append.mpr ⟨wl_4, (List.forall_mem_append.mpr ⟨wl_5, (List.forall_mem_append.mpr ⟨wl_6, (List.forall_mem_append.mpr ⟨wl_7, (List.forall_mem_append.mpr ⟨wl_8, (List.forall_mem_append.mpr ⟨wl_9, (List.forall_mem_append.mpr ⟨wl_10, (List.forall_mem_append.mpr ⟨wl_11, (List.forall_mem_append.mpr ⟨wl_12, (List.forall_mem_append.mpr ⟨wl_13, (List.forall_mem_append.mpr ⟨wl_14, (List.forall_mem_append.mpr ⟨wl_15, (List.forall_mem_append.mpr ⟨wl_16, (List.forall_mem_append.mpr ⟨wl_17, (List.forall_mem_append.mpr ⟨wl_18, (List.forall_mem_append.mpr ⟨wl_19, (List.forall_mem_append.mpr ⟨wl_20, (List.forall_mem_append.mpr ⟨wl_21, (List.forall_mem_append.mpr ⟨wl_22, (List.forall_mem_append.mpr ⟨wl_23, (List.forall_mem_append.mpr ⟨wl_24, (List.forall_mem_append.mpr ⟨wl_25, (List.forall_mem_append.mpr ⟨wl_26, (List.forall_mem_append.mpr ⟨wl_27, (List.forall_mem_append.mpr ⟨wl_28, (List.forall_mem_append.mpr ⟨wl_29, (List.forall_mem_append.mpr ⟨wl_30, (List.forall_mem_append.mpr ⟨wl_31, (List.forall_mem_append.mpr ⟨wl_32, (List.forall_mem_append.mpr ⟨wl_33, (List.forall_mem_append.mpr ⟨wl_34, (List.forall_mem_append.mpr ⟨wl_35, (List.forall_mem_append.mpr ⟨wl_36, (List.forall_mem_append.mpr ⟨wl_37, (List.forall_mem_append.mpr ⟨wl_38, wl_39⟩)⟩)⟩)⟩)⟩)⟩)⟩)⟩)⟩)⟩)⟩)⟩)⟩)⟩)⟩)⟩)⟩)⟩)⟩)⟩)⟩)⟩)⟩)⟩)⟩)⟩)⟩)⟩)⟩)⟩)⟩)⟩)⟩)⟩)⟩)⟩)⟩)⟩), inX5⟩), inX6⟩), inX4⟩), inX3⟩), inX1⟩), inX2⟩), inX0⟩), fun _ h => absurd h List.not_mem_nil⟩)
theorem inlX0 : ∀ w ∈ wsX00, w ∈ wsL_law := fun _ h => List.mem_append_left _ (List.mem_append_right _ h)
theorem inlX1 : ∀ w ∈ wsX10, w ∈ wsL_law := fun _ h => List.mem_append_left _ (List.mem_append_left _ (List.mem_append_left _ (List.mem_append_right _ h)))
theorem inlX2 : ∀ w ∈ wsX20, w ∈ wsL_law := fun _ h => List.mem_append_left _ (List.mem_append_left _ (List.mem_append_right _ h))
theorem inlX3 : ∀ w ∈ wsX30, w ∈ wsL_law := fun _ h => List.mem_append_left _ (List.mem_append_left _ (List.mem_append_left _ (List.mem_append_left _ (List.mem_append_right _ h))))
theorem inlX4 : ∀ w ∈ wsX40, w ∈ wsL_law := fun _ h => List.mem_append_left _ (List.mem_append_left _ (List.mem_append_left _ (List.mem_append_left _ (List.mem_append_left _ (List.mem_append_right _ h)))))
theorem inlX5 : ∀ w ∈ wsX50, w ∈ wsL_law := fun _ h => List.mem_append_left _ (List.mem_append_left _ (List.mem_append_left _ (List.mem_append_left _ (List.mem_append_left _ (List.mem_append_left _ (List.mem_append_left _ (List.mem_append_right _ h)))))))
theorem inlX6 : ∀ w ∈ wsX60, w ∈ wsL_law := fun _ h => List.mem_append_left _ (List.mem_append_left _ (List.mem_append_left _ (List.mem_append_left _ (List.mem_append_left _ (List.mem_append_left _ (List.mem_append_right _ h))))))
