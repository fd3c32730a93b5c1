theorem wsL_law_in0 : ∀ w ∈ wsL_law0, w ∈ lw_tbl := fun w h => (goodIn_p wsL_law0 [79, 82, 87, 93, 162, 196, 962, 315, 318, 323, 327, 331, 337, 341, 344, 350, 353, 347, 356, 359, 365, 368, 371, 374, 379, 382, 385, 394, 397, 400, 404, 477, 497, 501, 505, 508, 512, 515, 518, 522, 526, 530, 534, 538, 542, 546, 549, 552, 556, 561, 566, 571, 1068, 1071, 1074, 1077, 1081, 1064, 233, 237, 241, 1085, 245, 249, 1089, 1093, 1097, 1101, 1105, 1109, 1113, 1116, 1120, 1124, 253, 257, 261, 1128, 1132, 265, 269, 1136, 273, 277, 1140, 578, 581, 584, 590, 594, 597, 601, 604, 608, 1144, 1148, 1152, 1155, 1158, 1162, 1166, 615, 619, 624, 1170, 632, 636, 657, 306, 663, 667, 300, 303, 672, 1174, 1178, 1182, 1185, 679, 684, 688, 297, 693, 1189, 700, 293, 1193, 1197, 1201, 708, 713, 717, 721, 725, 1205, 1209, 732, 289, 1213, 1217, 281, 285, 1221, 741, 746, 749, 1225, 1229, 1232, 759, 763, 1236, 770, 775, 779, 783, 1240, 790, 793, 797, 802, 807, 1244, 1247, 1250, 1254, 814, 818, 822, 828, 833, 836, 1258, 1262, 844, 848, 851, 854, 858, 862, 866, 870, 873, 877, 881, 1266, 1270, 1274, 1277, 888, 1281, 895, 899, 904, 1285, 912, 917, 1289, 924, 927, 932, 935, 938, 1293, 1297, 1301, 945, 948, 951, 954, 957, 1305] rfl (by decide +kernel) w h).1
theorem wsL_law_in : ∀ w ∈ wsL_law, w ∈ lw_tbl := fun w h => (List.mem_append.mp h).elim (fun h => (List.mem_append.mp h).elim (fun h => (List.mem_append.mp h).elim (fun h => wsL_law_in0 w h) (fun h => wsL_law_x0 w h)) (fun h => wsL_law_x1 w h)) (fun h => wsL_law_x2 w h)
theorem inX0 : ∀ w ∈ wsX00, w ∈ lw_tbl := fun w h => wsL_law_in w (inlX0 w h)
theorem inX1 : ∀ w ∈ wsX10, w ∈ lw_tbl := by decide +kernel
theorem inX2 : ∀ w ∈ wsX20, w ∈ lw_tbl := fun w h => wsL_law_in w (inlX2 w h)
theorem inX3 : ∀ w ∈ wsX30, w ∈ lw_tbl := fun w h => wsL_law_in w (inlX3 w h)
theorem inX4 : ∀ w ∈ wsX40, w ∈ lw_tbl := fun w h => wsL_law_in w (inlX4 w h)
theorem inX5 : ∀ w ∈ wsX50, w ∈ lw_tbl := fun w h => wsL_law_in w (inlX5 w h)
theorem inX6 : ∀ w ∈ wsX60, w ∈ lw_tbl := fun w h => wsL_law_in w (inlX6 w h)
theorem inJ11 : ∀ w ∈ wsJ110, w ∈ lw_tbl := by decide +kernel
theorem inJ6 : ∀ w ∈ wsJ60, w ∈ lw_tbl := by decide +kernel
theorem inJ9 : ∀ w ∈ wsJ90, w ∈ lw_tbl := by decide +kernel
theorem inJ0 : ∀ w ∈ wsJ00, w ∈ lw_tbl := by decide +kernel
theorem inJ1 : ∀ w ∈ wsJ10, w ∈ lw_tbl := by decide +kernel
theorem inJ2 : ∀ w ∈ wsJ20, w ∈ lw_tbl := by decide +kernel
theorem inJ3 : ∀ w ∈ wsJ30, w ∈ lw_tbl := by decide +kernel
