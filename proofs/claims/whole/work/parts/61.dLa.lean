set_option maxRecDepth 20000 in
theorem ggL_law_X5_init : GoodIn wsL_law wsX5_init := goodIn_r _ [9, 10, 11, 12, 13, 14, 15, 16, 17, 18, 19, 20, 21, 22, 23, 24, 25, 26, 27, 28, 29, 30, 31, 32, 33, 34, 35, 36, 37, 38, 39, 40, 41, 42, 43, 44, 45, 46, 47, 48, 49, 50, 51, 52, 53, 54, 55, 56, 57, 58, 59, 60, 61, 62, 63, 64, 65, 66, 67, 68, 69, 70, 71, 72, 73, 74, 75, 1010, 1011, 1012, 1013, 1014, 1015, 975, 976, 977, 1016, 1017, 1018, 1019, 1020, 1021, 1022, 1023, 1024, 1025, 1026, 1027, 1028, 1029, 1030, 1031, 1032, 1033, 1034, 1035, 1036, 1037, 1038, 1039, 1040, 1041, 1042] rfl (by decide +kernel)
set_option maxRecDepth 20000 in
theorem gL_law_X5_init : GoodIn wsL_law (wsX5_init) := ggL_law_X5_init
set_option maxRecDepth 20000 in
theorem ggL_law_X6_init : GoodIn wsL_law wsX6_init := goodIn_r _ [78, 79, 11, 12, 41, 80, 32, 81, 82, 83, 84, 85, 86, 87, 88, 89, 90, 91, 50, 92, 93, 94, 95, 96, 97, 98, 99, 100, 101, 102, 978, 979, 980, 981, 982, 983, 984, 985, 986, 987, 988, 989, 990, 991, 992, 993, 994, 995, 996, 997, 998, 999, 1000, 1001, 1002, 1003, 1004, 1005, 1006, 1007, 1008, 1009] rfl (by decide +kernel)
set_option maxRecDepth 20000 in
theorem gL_law_X6_init : GoodIn wsL_law (wsX6_init) := ggL_law_X6_init
set_option maxRecDepth 20000 in
theorem ggL_law_L_letter : GoodIn wsL_law wsL_letter := goodIn_ca (goodIn_ca (goodIn_r _ [106, 107, 108, 109, 110, 111, 2, 112, 113, 114, 115, 116, 16, 117, 118, 15, 119, 120, 121, 122, 123, 124, 125, 126, 127, 128, 129, 130, 131, 132, 133, 134, 135, 136, 137, 138, 139, 140, 141, 142, 143, 144, 145, 146, 147, 148, 149, 150, 151, 152, 153, 154, 155, 156, 157, 158, 159, 160, 161, 162, 163, 164, 165, 166, 167, 168, 169, 170, 171, 172, 173, 174, 175, 176, 177, 178, 179, 180, 181, 182, 183, 184, 185, 186, 187, 188, 189, 190, 191, 192, 193, 194, 195, 196, 197, 198, 199, 200, 201, 202, 203, 204, 205, 206, 207, 208, 209, 210, 211, 212, 34, 213, 214, 215, 216, 35, 36, 217, 218, 219, 220, 221, 222, 223, 224, 31, 33, 37, 225, 226, 227, 228, 229, 230, 30, 231, 52, 42, 53, 232, 233, 234, 235, 236, 237, 238, 239, 240, 241, 242, 243, 244, 245, 246, 247, 248, 249, 250, 251, 252, 253, 254, 255, 256, 257, 258, 259, 260, 261, 262, 263, 264, 265, 43, 44, 45, 46, 48, 47, 49, 266, 267, 268, 269, 270, 271, 272, 273, 274, 275, 276, 277, 278, 279, 280, 281, 282, 283, 284, 285, 286, 287, 288, 289, 290, 975, 976, 977, 1010, 1011, 1012, 1013, 1014, 1015, 1032, 1033, 1034, 1035, 1036, 1037, 1038, 1039, 1040, 1041, 1042] (by decide +kernel) (by decide +kernel)) (goodIn_sub (fun _ h => List.mem_append_left _ (List.mem_append_left _ (List.mem_append_right _ h))) (by decide +kernel))) (goodIn_sub (fun _ h => List.mem_append_left _ (List.mem_append_right _ h)) (by decide +kernel))
set_option maxRecDepth 20000 in
theorem gL_law_L_letter : GoodIn wsL_law (va_wsS RL 83 yL_letter wsL_letter) := goodIn_app (goodIn_of _ (by decide +kernel)) ggL_law_L_letter
set_option maxRecDepth 20000 in
theorem ggL_law_X6_letter : GoodIn wsL_law wsX6_letter := goodIn_r _ [294, 295, 80, 296, 297, 5, 298, 299, 300, 301, 302, 303, 304, 305, 306, 307, 308, 309, 978, 979, 980, 981, 982, 983, 984, 985, 986, 987, 988, 989, 990, 991, 992, 993, 994, 995, 996, 997, 998, 999, 1000, 1001, 1002, 1003, 1004, 1005, 1006, 1007, 1008, 1009] rfl (by decide +kernel)
set_option maxRecDepth 20000 in
theorem gL_law_X6_letter : GoodIn wsL_law (wsV RL 88 RX6 yX6_letter wsX6_letter) := goodIn_app (goodIn_of _ (by decide +kernel)) ggL_law_X6_letter
set_option maxRecDepth 20000 in
theorem ggL_law_X6_thrown : GoodIn wsL_law wsX6_thrown := goodIn_r _ [313, 309, 978, 979, 980, 981, 982, 983, 984, 985, 986, 987, 988, 989, 990, 991, 992, 993, 994, 995, 996, 997, 998, 999, 1000, 1001, 1002, 1003, 1004, 1005, 1006, 1007, 1008, 1009] rfl (by decide +kernel)
set_option maxRecDepth 20000 in
theorem gL_law_X6_thrown : GoodIn wsL_law (wsV RL 89 RX6 yX6_thrown wsX6_thrown) := goodIn_app (goodIn_of _ (by decide +kernel)) ggL_law_X6_thrown
set_option maxRecDepth 20000 in
theorem ggL_law_X5_blank : GoodIn wsL_law wsX5_blank := goodIn_r _ [317, 16, 318, 319, 320, 15, 321, 34, 35, 36, 37, 31, 322, 323, 324, 30, 325, 52, 53, 975, 976, 977, 1010, 1011, 1012, 1013, 1014, 1015, 1032, 1033, 1034, 1035, 1036, 1037, 1038, 1039, 1040, 1041, 1042] rfl (by decide +kernel)
set_option maxRecDepth 20000 in
theorem gL_law_X5_blank : GoodIn wsL_law (wsV RL 92 RX5 yX5_blank wsX5_blank) := goodIn_app (goodIn_of _ (by decide +kernel)) ggL_law_X5_blank
set_option maxRecDepth 20000 in
theorem ggL_law_X6_blank : GoodIn wsL_law wsX6_blank := goodIn_r _ [329, 309, 295, 978, 979, 980, 981, 982, 983, 984, 985, 986, 987, 988, 989, 990, 991, 992, 993, 994, 995, 996, 997, 998, 999, 1000, 1001, 1002, 1003, 1004, 1005, 1006, 1007, 1008, 1009] rfl (by decide +kernel)
set_option maxRecDepth 20000 in
theorem gL_law_X6_blank : GoodIn wsL_law (wsV RL 95 RX6 yX6_blank wsX6_blank) := goodIn_app (goodIn_of _ (by decide +kernel)) ggL_law_X6_blank
set_option maxRecDepth 20000 in
theorem ggL_law_X5_fault : GoodIn wsL_law wsX5_fault := goodIn_r _ [333, 16, 334, 335, 336, 15, 337, 35, 34, 975, 976, 977, 1010, 1011, 1012, 1013, 1014, 1015] rfl (by decide +kernel)
set_option maxRecDepth 20000 in
theorem gL_law_X5_fault : GoodIn wsL_law (wsV RL 96 RX5 yX5_fault wsX5_fault) := goodIn_app (goodIn_of _ (by decide +kernel)) ggL_law_X5_fault
set_option maxRecDepth 20000 in
theorem ggL_law_X6_fault : GoodIn wsL_law wsX6_fault := goodIn_r _ [341, 309, 342, 343, 344, 5, 345, 346, 347, 348, 295, 80, 349, 350, 351, 352, 89, 90, 91, 302, 303, 304, 353, 354, 355, 356, 296, 297, 298, 299, 300, 301, 357, 358, 359, 360, 361, 362, 363, 364, 81, 82, 83, 84, 85, 365, 366, 367, 368, 86, 87, 88, 369, 370, 371, 372, 373, 374, 375, 376, 377, 378, 379, 978, 979, 980, 981, 982, 983, 984, 985, 986, 987, 988, 989, 990, 991, 992, 993, 994, 995, 996, 997, 998, 999, 1000, 1001, 1002, 1003, 1004, 1005, 1006, 1007, 1008, 1009] rfl (by decide +kernel)
set_option maxRecDepth 20000 in
theorem gL_law_X6_fault : GoodIn wsL_law (wsV RL 99 RX6 yX6_fault wsX6_fault) := goodIn_app (goodIn_of _ (by decide +kernel)) ggL_law_X6_fault
set_option maxRecDepth 20000 in
theorem ggL_law_X5_sigma : GoodIn wsL_law wsX5_sigma := goodIn_r _ [383, 16, 384, 385, 386, 15, 387, 35, 36, 388, 389, 390, 30, 391, 47, 975, 976, 977, 1010, 1011, 1012, 1013, 1014, 1015, 1032, 1033, 1034, 1035, 1036, 1037, 1038, 1039, 1040, 1041, 1042] rfl (by decide +kernel)
set_option maxRecDepth 20000 in
theorem gL_law_X5_sigma : GoodIn wsL_law (wsV RL 100 RX5 yX5_sigma wsX5_sigma) := goodIn_app (goodIn_of _ (by decide +kernel)) ggL_law_X5_sigma
set_option maxRecDepth 20000 in
theorem ggL_law_X6_sigma : GoodIn wsL_law wsX6_sigma := goodIn_r _ [395, 309, 86, 346, 396, 397, 398, 5, 399, 295, 348, 342, 343, 344, 345, 347, 80, 349, 350, 351, 352, 89, 90, 91, 302, 303, 304, 353, 354, 355, 356, 296, 297, 298, 299, 300, 301, 357, 358, 359, 360, 361, 362, 363, 364, 81, 82, 83, 84, 85, 365, 366, 367, 368, 87, 88, 369, 370, 371, 372, 373, 374, 375, 376, 377, 378, 379, 978, 979, 980, 981, 982, 983, 984, 985, 986, 987, 988, 989, 990, 991, 992, 993, 994, 995, 996, 997, 998, 999, 1000, 1001, 1002, 1003, 1004, 1005, 1006, 1007, 1008, 1009] rfl (by decide +kernel)
set_option maxRecDepth 20000 in
theorem gL_law_X6_sigma : GoodIn wsL_law (wsV RL 103 RX6 yX6_sigma wsX6_sigma) := goodIn_app (goodIn_of _ (by decide +kernel)) ggL_law_X6_sigma
set_option maxRecDepth 20000 in
theorem ggL_law_X5_pi : GoodIn wsL_law wsX5_pi := goodIn_r _ [403, 16, 384, 385, 386, 15, 387, 35, 36, 404, 405, 406, 30, 407, 48, 975, 976, 977, 1010, 1011, 1012, 1013, 1014, 1015, 1032, 1033, 1034, 1035, 1036, 1037, 1038, 1039, 1040, 1041, 1042] rfl (by decide +kernel)
set_option maxRecDepth 20000 in
theorem gL_law_X5_pi : GoodIn wsL_law (wsV RL 104 RX5 yX5_pi wsX5_pi) := goodIn_app (goodIn_of _ (by decide +kernel)) ggL_law_X5_pi
set_option maxRecDepth 20000 in
theorem ggL_law_X6_pi : GoodIn wsL_law wsX6_pi := goodIn_r _ [411, 309, 87, 346, 396, 397, 398, 5, 399, 295, 348, 342, 343, 344, 345, 347, 80, 349, 350, 351, 352, 89, 90, 91, 302, 303, 304, 353, 354, 355, 356, 296, 297, 298, 299, 300, 301, 357, 358, 359, 360, 361, 362, 363, 364, 81, 82, 83, 84, 85, 365, 366, 367, 368, 86, 88, 369, 370, 371, 372, 373, 374, 375, 376, 377, 378, 379, 978, 979, 980, 981, 982, 983, 984, 985, 986, 987, 988, 989, 990, 991, 992, 993, 994, 995, 996, 997, 998, 999, 1000, 1001, 1002, 1003, 1004, 1005, 1006, 1007, 1008, 1009] rfl (by decide +kernel)
set_option maxRecDepth 20000 in
theorem gL_law_X6_pi : GoodIn wsL_law (wsV RL 107 RX6 yX6_pi wsX6_pi) := goodIn_app (goodIn_of _ (by decide +kernel)) ggL_law_X6_pi
set_option maxRecDepth 20000 in
theorem ggL_law_X5_free : GoodIn wsL_law wsX5_free := goodIn_r _ [415, 16, 384, 385, 386, 15, 387, 35, 36, 416, 417, 418, 30, 419, 49, 975, 976, 977, 1010, 1011, 1012, 1013, 1014, 1015, 1032, 1033, 1034, 1035, 1036, 1037, 1038, 1039, 1040, 1041, 1042] rfl (by decide +kernel)
set_option maxRecDepth 20000 in
theorem gL_law_X5_free : GoodIn wsL_law (wsV RL 108 RX5 yX5_free wsX5_free) := goodIn_app (goodIn_of _ (by decide +kernel)) ggL_law_X5_free
set_option maxRecDepth 20000 in
theorem ggL_law_X6_free : GoodIn wsL_law wsX6_free := goodIn_r _ [423, 309, 88, 346, 396, 397, 398, 5, 399, 295, 348, 342, 343, 344, 345, 347, 80, 349, 350, 351, 352, 89, 90, 91, 302, 303, 304, 353, 354, 355, 356, 296, 297, 298, 299, 300, 301, 357, 358, 359, 360, 361, 362, 363, 364, 81, 82, 83, 84, 85, 365, 366, 367, 368, 86, 87, 369, 370, 371, 372, 373, 374, 375, 376, 377, 378, 379, 978, 979, 980, 981, 982, 983, 984, 985, 986, 987, 988, 989, 990, 991, 992, 993, 994, 995, 996, 997, 998, 999, 1000, 1001, 1002, 1003, 1004, 1005, 1006, 1007, 1008, 1009] rfl (by decide +kernel)
set_option maxRecDepth 20000 in
theorem gL_law_X6_free : GoodIn wsL_law (wsV RL 111 RX6 yX6_free wsX6_free) := goodIn_app (goodIn_of _ (by decide +kernel)) ggL_law_X6_free
set_option maxRecDepth 20000 in
theorem ggL_law_L_isSo : GoodIn wsL_law wsL_isSo := goodIn_ca (goodIn_ca (goodIn_r _ [426, 107, 108, 427, 428, 429, 2, 430, 113, 114, 115, 116, 16, 431, 432, 433, 434, 435, 436, 384, 385, 386, 15, 387, 35, 36, 437, 438, 439, 30, 440, 52, 51, 441, 442, 443, 444, 43, 44, 42, 45, 445, 446, 447, 448, 449, 450, 451, 452, 453, 454, 455, 456, 457, 458, 46, 975, 976, 977, 1010, 1011, 1012, 1013, 1014, 1015, 1032, 1033, 1034, 1035, 1036, 1037, 1038, 1039, 1040, 1041, 1042] (by decide +kernel) (by decide +kernel)) (goodIn_sub (fun _ h => List.mem_append_left _ (List.mem_append_left _ (List.mem_append_right _ h))) (by decide +kernel))) (goodIn_sub (fun _ h => List.mem_append_left _ (List.mem_append_right _ h)) (by decide +kernel))
set_option maxRecDepth 20000 in
theorem gL_law_L_isSo : GoodIn wsL_law (va_wsS RL 112 yL_isSo wsL_isSo) := goodIn_app (goodIn_of _ (by decide +kernel)) ggL_law_L_isSo
set_option maxRecDepth 20000 in
theorem ggL_law_X6_isSo : GoodIn wsL_law wsX6_isSo := goodIn_r _ [462, 92, 346, 299, 300, 5, 301, 396, 397, 398, 399, 295, 348, 342, 343, 344, 345, 347, 80, 349, 350, 351, 352, 89, 90, 91, 302, 303, 304, 353, 354, 355, 356, 296, 297, 298, 357, 358, 359, 360, 361, 362, 363, 364, 81, 82, 83, 84, 85, 365, 366, 367, 368, 86, 87, 88, 369, 370, 371, 372, 373, 374, 375, 376, 377, 378, 379, 463, 464, 465, 466, 305, 306, 307, 308, 309, 467, 468, 469, 470, 471, 472, 473, 474, 475, 476, 477, 478, 479, 480, 481, 482, 483, 484, 978, 979, 980, 981, 982, 983, 984, 985, 986, 987, 988, 989, 990, 991, 992, 993, 994, 995, 996, 997, 998, 999, 1000, 1001, 1002, 1003, 1004, 1005, 1006, 1007, 1008, 1009] rfl (by decide +kernel)
set_option maxRecDepth 20000 in
theorem gL_law_X6_isSo : GoodIn wsL_law (wsV RL 115 RX6 yX6_isSo wsX6_isSo) := goodIn_app (goodIn_of _ (by decide +kernel)) ggL_law_X6_isSo
set_option maxRecDepth 20000 in
theorem ggL_law_L_principle : GoodIn wsL_law wsL_principle := goodIn_ca (goodIn_r _ [487, 108, 488, 489, 490, 2, 491, 115, 116, 16, 20, 384, 385, 386, 15, 387, 35, 36, 416, 417, 418, 30, 419, 49, 492, 493, 494, 19, 495, 63, 388, 389, 390, 391, 47, 404, 405, 406, 407, 48, 496, 497, 498, 499, 57, 58, 318, 319, 320, 321, 34, 37, 31, 322, 323, 324, 325, 52, 53, 975, 976, 977, 1010, 1011, 1012, 1013, 1014, 1015, 1032, 1033, 1034, 1035, 1036, 1037, 1038, 1039, 1040, 1041, 1042, 1016, 1017, 1018, 1019, 1020, 1021, 1022, 1023, 1024] (by decide +kernel) (by decide +kernel)) (goodIn_sub (fun _ h => List.mem_append_left _ (List.mem_append_right _ h)) (by decide +kernel))
set_option maxRecDepth 20000 in
theorem gL_law_L_principle : GoodIn wsL_law (va_wsS RL 116 yL_principle wsL_principle) := goodIn_app (goodIn_of _ (by decide +kernel)) ggL_law_L_principle
set_option maxRecDepth 20000 in
theorem ggL_law_X6_principle : GoodIn wsL_law wsX6_principle := goodIn_r _ [503, 88, 346, 504, 93, 86, 94, 87, 295, 396, 397, 398, 5, 399, 348, 342, 343, 344, 345, 347, 80, 349, 350, 351, 352, 89, 90, 91, 302, 303, 304, 353, 354, 355, 356, 296, 297, 298, 299, 300, 301, 357, 358, 359, 360, 361, 362, 363, 364, 81, 82, 83, 84, 85, 365, 366, 367, 368, 369, 370, 371, 372, 373, 374, 375, 376, 377, 378, 379, 305, 306, 307, 308, 309, 978, 979, 980, 981, 982, 983, 984, 985, 986, 987, 988, 989, 990, 991, 992, 993, 994, 995, 996, 997, 998, 999, 1000, 1001, 1002, 1003, 1004, 1005, 1006, 1007, 1008, 1009] rfl (by decide +kernel)
set_option maxRecDepth 20000 in
theorem gL_law_X6_principle : GoodIn wsL_law (wsV RL 119 RX6 yX6_principle wsX6_principle) := goodIn_app (goodIn_of _ (by decide +kernel)) ggL_law_X6_principle
set_option maxRecDepth 20000 in
theorem ggL_law_L_rule : GoodIn wsL_law wsL_rule := goodIn_ca (goodIn_ca (goodIn_ca (goodIn_r _ [507, 508, 107, 108, 509, 510, 511, 2, 512, 513, 514, 113, 114, 115, 116, 20, 515, 516, 517, 19, 518, 63, 435, 436, 519, 520, 521, 522, 523, 524, 525, 526, 527, 528, 529, 64, 530, 531, 532, 533, 65, 61, 534, 535, 536, 537, 538, 539, 540, 541, 542, 543, 544, 59, 60, 975, 976, 977, 1016, 1017, 1018, 1019, 1020, 1021, 1022, 1023, 1024] (by decide +kernel) (by decide +kernel)) (goodIn_sub (fun _ h => List.mem_append_right _ h) (by decide +kernel))) (goodIn_sub (fun _ h => List.mem_append_left _ (List.mem_append_left _ (List.mem_append_right _ h))) (by decide +kernel))) (goodIn_sub (fun _ h => List.mem_append_left _ (List.mem_append_right _ h)) (by decide +kernel))
set_option maxRecDepth 20000 in
theorem gL_law_L_rule : GoodIn wsL_law (va_wsS RL 120 yL_rule wsL_rule) := goodIn_app (goodIn_of _ (by decide +kernel)) ggL_law_L_rule
