set_option maxRecDepth 20000 in
theorem ggL_law_X6_rule : GoodIn wsL_law wsX6_rule := goodIn_r _ [548, 549, 550, 97, 95, 96, 551, 552, 553, 5, 554, 504, 299, 300, 301, 555, 556, 557, 558, 559, 560, 561, 305, 306, 307, 308, 309, 978, 979, 980, 981, 982, 983, 984, 985, 986, 987, 988, 989, 990, 991, 992, 993, 994, 995, 996, 997, 998, 999, 1000, 1001, 1002, 1003, 1004, 1005, 1006, 1007, 1008, 1009] rfl (by decide +kernel)
set_option maxRecDepth 20000 in
theorem gL_law_X6_rule : GoodIn wsL_law (wsV RL 123 RX6 yX6_rule wsX6_rule) := goodIn_app (goodIn_of _ (by decide +kernel)) ggL_law_X6_rule
set_option maxRecDepth 20000 in
theorem ggL_law_L_model : GoodIn wsL_law wsL_model := goodIn_ca (goodIn_ca (goodIn_r _ [564, 107, 108, 565, 566, 567, 2, 568, 113, 114, 115, 116, 20, 519, 520, 521, 19, 522, 63, 569, 570, 571, 572, 65, 573, 574, 575, 576, 577, 578, 579, 580, 64, 59, 60, 534, 535, 536, 537, 538, 539, 540, 524, 525, 581, 582, 583, 584, 61, 975, 976, 977, 1016, 1017, 1018, 1019, 1020, 1021, 1022, 1023, 1024] (by decide +kernel) (by decide +kernel)) (goodIn_sub (fun _ h => List.mem_append_left _ (List.mem_append_left _ (List.mem_append_right _ h))) (by decide +kernel))) (goodIn_sub (fun _ h => List.mem_append_left _ (List.mem_append_right _ h)) (by decide +kernel))
set_option maxRecDepth 20000 in
theorem gL_law_L_model : GoodIn wsL_law (va_wsS RL 124 yL_model wsL_model) := goodIn_app (goodIn_of _ (by decide +kernel)) ggL_law_L_model
set_option maxRecDepth 20000 in
theorem ggL_law_X6_model : GoodIn wsL_law wsX6_model := goodIn_r _ [588, 550, 549, 95, 96, 97, 555, 556, 557, 5, 558, 504, 299, 300, 301, 559, 560, 561, 305, 306, 307, 308, 309, 978, 979, 980, 981, 982, 983, 984, 985, 986, 987, 988, 989, 990, 991, 992, 993, 994, 995, 996, 997, 998, 999, 1000, 1001, 1002, 1003, 1004, 1005, 1006, 1007, 1008, 1009] rfl (by decide +kernel)
set_option maxRecDepth 20000 in
theorem gL_law_X6_model : GoodIn wsL_law (wsV RL 127 RX6 yX6_model wsX6_model) := goodIn_app (goodIn_of _ (by decide +kernel)) ggL_law_X6_model
set_option maxRecDepth 20000 in
theorem ggL_law_L_proves : GoodIn wsL_law wsL_proves := goodIn_ca (goodIn_r _ [591, 107, 592, 593, 594, 2, 595, 113, 114, 20, 519, 520, 521, 19, 522, 63, 596, 597, 598, 599, 60, 577, 578, 579, 580, 64, 59, 534, 535, 536, 537, 538, 539, 540, 524, 525, 975, 976, 977, 1016, 1017, 1018, 1019, 1020, 1021, 1022, 1023, 1024] (by decide +kernel) (by decide +kernel)) (goodIn_sub (fun _ h => List.mem_append_left _ (List.mem_append_left _ (List.mem_append_right _ h))) (by decide +kernel))
set_option maxRecDepth 20000 in
theorem gL_law_L_proves : GoodIn wsL_law (va_wsS RL 128 yL_proves wsL_proves) := goodIn_app (goodIn_of _ (by decide +kernel)) ggL_law_L_proves
set_option maxRecDepth 20000 in
theorem ggL_law_X6_proves : GoodIn wsL_law wsX6_proves := goodIn_r _ [603, 555, 556, 557, 5, 558, 504, 299, 300, 301, 305, 306, 307, 308, 309, 604, 605, 606, 607, 96, 608, 609, 610, 611, 549, 95, 559, 560, 561, 978, 979, 980, 981, 982, 983, 984, 985, 986, 987, 988, 989, 990, 991, 992, 993, 994, 995, 996, 997, 998, 999, 1000, 1001, 1002, 1003, 1004, 1005, 1006, 1007, 1008, 1009] rfl (by decide +kernel)
set_option maxRecDepth 20000 in
theorem gL_law_X6_proves : GoodIn wsL_law (wsV RL 130 RX6 yX6_proves wsX6_proves) := goodIn_app (goodIn_of _ (by decide +kernel)) ggL_law_X6_proves
set_option maxRecDepth 20000 in
theorem ggL_law_L_proof : GoodIn wsL_law wsL_proof := goodIn_ca (goodIn_ca (goodIn_r _ [614, 508, 107, 615, 616, 617, 2, 618, 513, 514, 113, 114, 20, 515, 516, 517, 19, 518, 63, 435, 436, 519, 520, 521, 522, 619, 620, 621, 622, 623, 624, 625, 626, 62, 60, 540, 524, 525, 577, 578, 579, 580, 64, 59, 534, 535, 536, 537, 538, 539, 627, 628, 629, 630, 631, 632, 633, 634, 975, 976, 977, 1016, 1017, 1018, 1019, 1020, 1021, 1022, 1023, 1024] (by decide +kernel) (by decide +kernel)) (goodIn_sub (fun _ h => List.mem_append_right _ h) (by decide +kernel))) (goodIn_sub (fun _ h => List.mem_append_left _ (List.mem_append_left _ (List.mem_append_right _ h))) (by decide +kernel))
set_option maxRecDepth 20000 in
theorem gL_law_L_proof : GoodIn wsL_law (va_wsS RL 131 yL_proof wsL_proof) := goodIn_app (goodIn_of _ (by decide +kernel)) ggL_law_L_proof
set_option maxRecDepth 20000 in
theorem ggL_law_X6_proof : GoodIn wsL_law wsX6_proof := goodIn_r _ [638, 98, 551, 552, 553, 5, 554, 504, 299, 300, 301, 555, 556, 557, 558, 305, 306, 307, 308, 309, 604, 605, 606, 607, 96, 608, 609, 610, 611, 549, 95, 559, 560, 561, 639, 640, 641, 642, 978, 979, 980, 981, 982, 983, 984, 985, 986, 987, 988, 989, 990, 991, 992, 993, 994, 995, 996, 997, 998, 999, 1000, 1001, 1002, 1003, 1004, 1005, 1006, 1007, 1008, 1009] rfl (by decide +kernel)
set_option maxRecDepth 20000 in
theorem gL_law_X6_proof : GoodIn wsL_law (wsV RL 134 RX6 yX6_proof wsX6_proof) := goodIn_app (goodIn_of _ (by decide +kernel)) ggL_law_X6_proof
set_option maxRecDepth 20000 in
theorem ggL_law_L_known : GoodIn wsL_law wsL_known := goodIn_ca (goodIn_ca (goodIn_r _ [645, 508, 107, 646, 647, 648, 2, 649, 513, 514, 113, 114, 20, 515, 516, 517, 19, 518, 63, 435, 436, 650, 651, 652, 653, 65, 61, 654, 597, 598, 599, 60, 577, 578, 579, 580, 64, 59, 534, 535, 536, 537, 538, 539, 540, 524, 525, 975, 976, 977, 1016, 1017, 1018, 1019, 1020, 1021, 1022, 1023, 1024] (by decide +kernel) (by decide +kernel)) (goodIn_sub (fun _ h => List.mem_append_right _ h) (by decide +kernel))) (goodIn_sub (fun _ h => List.mem_append_left _ (List.mem_append_left _ (List.mem_append_right _ h))) (by decide +kernel))
set_option maxRecDepth 20000 in
theorem gL_law_L_known : GoodIn wsL_law (va_wsS RL 135 yL_known wsL_known) := goodIn_app (goodIn_of _ (by decide +kernel)) ggL_law_L_known
set_option maxRecDepth 20000 in
theorem ggL_law_X6_known : GoodIn wsL_law wsX6_known := goodIn_r _ [658, 551, 552, 553, 5, 554, 504, 299, 300, 301, 305, 306, 307, 308, 309, 659, 660, 661, 662, 550, 97, 604, 605, 606, 607, 96, 608, 609, 610, 611, 549, 95, 559, 560, 561, 978, 979, 980, 981, 982, 983, 984, 985, 986, 987, 988, 989, 990, 991, 992, 993, 994, 995, 996, 997, 998, 999, 1000, 1001, 1002, 1003, 1004, 1005, 1006, 1007, 1008, 1009] rfl (by decide +kernel)
set_option maxRecDepth 20000 in
theorem gL_law_X6_known : GoodIn wsL_law (wsV RL 137 RX6 yX6_known wsX6_known) := goodIn_app (goodIn_of _ (by decide +kernel)) ggL_law_X6_known
set_option maxRecDepth 20000 in
theorem ggL_law_X5_open : GoodIn wsL_law wsX5_open := goodIn_r _ [666, 20, 667, 668, 669, 19, 670, 63, 671, 651, 652, 653, 65, 61, 654, 597, 598, 599, 60, 577, 578, 579, 580, 64, 59, 534, 535, 536, 537, 538, 539, 540, 524, 525, 975, 976, 977, 1016, 1017, 1018, 1019, 1020, 1021, 1022, 1023, 1024] rfl (by decide +kernel)
set_option maxRecDepth 20000 in
theorem gL_law_X5_open : GoodIn wsL_law (wsV RL 138 RX5 yX5_open wsX5_open) := goodIn_app (goodIn_of _ (by decide +kernel)) ggL_law_X5_open
set_option maxRecDepth 20000 in
theorem ggL_law_X6_open : GoodIn wsL_law wsX6_open := goodIn_r _ [675, 309, 504, 659, 660, 661, 5, 662, 550, 97, 604, 605, 606, 607, 96, 608, 609, 610, 611, 549, 95, 559, 560, 561, 978, 979, 980, 981, 982, 983, 984, 985, 986, 987, 988, 989, 990, 991, 992, 993, 994, 995, 996, 997, 998, 999, 1000, 1001, 1002, 1003, 1004, 1005, 1006, 1007, 1008, 1009] rfl (by decide +kernel)
set_option maxRecDepth 20000 in
theorem gL_law_X6_open : GoodIn wsL_law (wsV RL 141 RX6 yX6_open wsX6_open) := goodIn_app (goodIn_of _ (by decide +kernel)) ggL_law_X6_open
set_option maxRecDepth 20000 in
theorem ggL_law_L_least : GoodIn wsL_law wsL_least := goodIn_ca (goodIn_ca (goodIn_r _ [678, 508, 107, 679, 680, 681, 2, 682, 513, 514, 113, 114, 20, 515, 516, 517, 19, 518, 63, 435, 436, 519, 520, 521, 522, 683, 684, 685, 686, 654, 597, 598, 599, 60, 577, 578, 579, 580, 64, 59, 534, 535, 536, 537, 538, 539, 540, 524, 525, 687, 688, 689, 690, 691, 692, 693, 975, 976, 977, 1016, 1017, 1018, 1019, 1020, 1021, 1022, 1023, 1024] (by decide +kernel) (by decide +kernel)) (goodIn_sub (fun _ h => List.mem_append_right _ h) (by decide +kernel))) (goodIn_sub (fun _ h => List.mem_append_left _ (List.mem_append_left _ (List.mem_append_right _ h))) (by decide +kernel))
set_option maxRecDepth 20000 in
theorem gL_law_L_least : GoodIn wsL_law (va_wsS RL 142 yL_least wsL_least) := goodIn_app (goodIn_of _ (by decide +kernel)) ggL_law_L_least
set_option maxRecDepth 20000 in
theorem ggL_law_X6_least : GoodIn wsL_law wsX6_least := goodIn_r _ [697, 698, 699, 700, 5, 701, 551, 552, 553, 554, 504, 299, 300, 301, 555, 556, 557, 558, 305, 306, 307, 308, 309, 702, 703, 704, 604, 605, 606, 607, 96, 608, 609, 610, 611, 549, 95, 559, 560, 561, 978, 979, 980, 981, 982, 983, 984, 985, 986, 987, 988, 989, 990, 991, 992, 993, 994, 995, 996, 997, 998, 999, 1000, 1001, 1002, 1003, 1004, 1005, 1006, 1007, 1008, 1009] rfl (by decide +kernel)
set_option maxRecDepth 20000 in
theorem gL_law_X6_least : GoodIn wsL_law (wsV RL 144 RX6 yX6_least wsX6_least) := goodIn_app (goodIn_of _ (by decide +kernel)) ggL_law_X6_least
set_option maxRecDepth 20000 in
theorem ggL_law_L_leastAnew : GoodIn wsL_law wsL_leastAnew := goodIn_ca (goodIn_ca (goodIn_r _ [707, 508, 107, 708, 709, 710, 2, 711, 513, 514, 113, 114, 20, 515, 516, 517, 19, 518, 63, 435, 436, 519, 520, 521, 522, 712, 713, 714, 715, 687, 688, 689, 690, 691, 692, 693, 537, 538, 539, 654, 597, 598, 599, 60, 577, 578, 579, 580, 64, 59, 534, 535, 536, 540, 524, 525, 975, 976, 977, 1016, 1017, 1018, 1019, 1020, 1021, 1022, 1023, 1024] (by decide +kernel) (by decide +kernel)) (goodIn_sub (fun _ h => List.mem_append_right _ h) (by decide +kernel))) (goodIn_sub (fun _ h => List.mem_append_left _ (List.mem_append_left _ (List.mem_append_right _ h))) (by decide +kernel))
set_option maxRecDepth 20000 in
theorem gL_law_L_leastAnew : GoodIn wsL_law (va_wsS RL 145 yL_leastAnew wsL_leastAnew) := goodIn_app (goodIn_of _ (by decide +kernel)) ggL_law_L_leastAnew
set_option maxRecDepth 20000 in
theorem ggL_law_X6_leastAnew : GoodIn wsL_law wsX6_leastAnew := goodIn_r _ [719, 698, 699, 700, 5, 701, 551, 552, 553, 554, 504, 299, 300, 301, 555, 556, 557, 558, 305, 306, 307, 308, 309, 702, 703, 704, 604, 605, 606, 607, 96, 608, 609, 610, 611, 549, 95, 559, 560, 561, 978, 979, 980, 981, 982, 983, 984, 985, 986, 987, 988, 989, 990, 991, 992, 993, 994, 995, 996, 997, 998, 999, 1000, 1001, 1002, 1003, 1004, 1005, 1006, 1007, 1008, 1009] rfl (by decide +kernel)
set_option maxRecDepth 20000 in
theorem gL_law_X6_leastAnew : GoodIn wsL_law (wsV RL 147 RX6 yX6_leastAnew wsX6_leastAnew) := goodIn_app (goodIn_of _ (by decide +kernel)) ggL_law_X6_leastAnew
set_option maxRecDepth 20000 in
theorem ggL_law_L_ofPrinciple : GoodIn wsL_law wsL_ofPrinciple := goodIn_ca (goodIn_ca (goodIn_r _ [722, 508, 107, 723, 724, 725, 2, 726, 513, 514, 113, 114, 20, 515, 516, 517, 19, 518, 63, 435, 436, 434, 727, 728, 729, 730, 57, 58, 731, 732, 733, 734, 64, 60, 735, 736, 737, 738, 65, 61, 540, 524, 525, 975, 976, 977, 1016, 1017, 1018, 1019, 1020, 1021, 1022, 1023, 1024] (by decide +kernel) (by decide +kernel)) (goodIn_sub (fun _ h => List.mem_append_right _ h) (by decide +kernel))) (goodIn_sub (fun _ h => List.mem_append_left _ (List.mem_append_left _ (List.mem_append_right _ h))) (by decide +kernel))
set_option maxRecDepth 20000 in
theorem gL_law_L_ofPrinciple : GoodIn wsL_law (va_wsS RL 148 yL_ofPrinciple wsL_ofPrinciple) := goodIn_app (goodIn_of _ (by decide +kernel)) ggL_law_L_ofPrinciple
set_option maxRecDepth 20000 in
theorem ggL_law_X6_ofPrinciple : GoodIn wsL_law wsX6_ofPrinciple := goodIn_r _ [742, 549, 96, 550, 97, 93, 94, 551, 552, 553, 5, 554, 504, 299, 300, 301, 305, 306, 307, 308, 309, 978, 979, 980, 981, 982, 983, 984, 985, 986, 987, 988, 989, 990, 991, 992, 993, 994, 995, 996, 997, 998, 999, 1000, 1001, 1002, 1003, 1004, 1005, 1006, 1007, 1008, 1009] rfl (by decide +kernel)
set_option maxRecDepth 20000 in
theorem gL_law_X6_ofPrinciple : GoodIn wsL_law (wsV RL 150 RX6 yX6_ofPrinciple wsX6_ofPrinciple) := goodIn_app (goodIn_of _ (by decide +kernel)) ggL_law_X6_ofPrinciple
set_option maxRecDepth 20000 in
theorem ggL_law_L_problem : GoodIn wsL_law wsL_problem := goodIn_ca (goodIn_ca (goodIn_r _ [745, 107, 108, 746, 747, 748, 2, 749, 113, 114, 115, 116, 24, 750, 751, 23, 752, 432, 433, 753, 754, 755, 756, 757, 758, 759, 75, 760, 761, 762, 763, 69, 70, 71, 975, 976, 977, 1025, 1026, 1027, 1028, 1029, 1030, 1031] (by decide +kernel) (by decide +kernel)) (goodIn_sub (fun _ h => List.mem_append_left _ (List.mem_append_left _ (List.mem_append_right _ h))) (by decide +kernel))) (goodIn_sub (fun _ h => List.mem_append_left _ (List.mem_append_right _ h)) (by decide +kernel))
set_option maxRecDepth 20000 in
theorem gL_law_L_problem : GoodIn wsL_law (va_wsS RL 151 yL_problem wsL_problem) := goodIn_app (goodIn_of _ (by decide +kernel)) ggL_law_L_problem
set_option maxRecDepth 20000 in
theorem ggL_law_X6_problem : GoodIn wsL_law wsX6_problem := goodIn_r _ [767, 768, 299, 300, 5, 301, 769, 770, 771, 772, 773, 774, 305, 306, 307, 308, 309, 775, 776, 777, 778, 99, 100, 101, 978, 979, 980, 981, 982, 983, 984, 985, 986, 987, 988, 989, 990, 991, 992, 993, 994, 995, 996, 997, 998, 999, 1000, 1001, 1002, 1003, 1004, 1005, 1006, 1007, 1008, 1009] rfl (by decide +kernel)
set_option maxRecDepth 20000 in
theorem gL_law_X6_problem : GoodIn wsL_law (wsV RL 153 RX6 yX6_problem wsX6_problem) := goodIn_app (goodIn_of _ (by decide +kernel)) ggL_law_X6_problem
set_option maxRecDepth 20000 in
theorem ggL_law_L_product : GoodIn wsL_law wsL_product := goodIn_ca (goodIn_ca (goodIn_r _ [781, 508, 108, 782, 783, 784, 2, 785, 513, 514, 115, 116, 24, 786, 787, 788, 23, 789, 790, 791, 792, 793, 75, 435, 436, 756, 757, 758, 759, 794, 795, 796, 797, 69, 70, 798, 799, 800, 801, 71, 753, 754, 755, 802, 803, 804, 805, 761, 762, 763, 975, 976, 977, 1025, 1026, 1027, 1028, 1029, 1030, 1031] (by decide +kernel) (by decide +kernel)) (goodIn_sub (fun _ h => List.mem_append_right _ h) (by decide +kernel))) (goodIn_sub (fun _ h => List.mem_append_left _ (List.mem_append_right _ h)) (by decide +kernel))
set_option maxRecDepth 20000 in
theorem gL_law_L_product : GoodIn wsL_law (va_wsS RL 154 yL_product wsL_product) := goodIn_app (goodIn_of _ (by decide +kernel)) ggL_law_L_product
