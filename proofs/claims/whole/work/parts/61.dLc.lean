set_option maxRecDepth 20000 in
theorem ggL_law_X6_product : GoodIn wsL_law wsX6_product := goodIn_r _ [809, 768, 99, 100, 101, 810, 811, 812, 5, 813, 299, 300, 301, 305, 306, 307, 308, 309, 772, 773, 774, 775, 776, 777, 778, 978, 979, 980, 981, 982, 983, 984, 985, 986, 987, 988, 989, 990, 991, 992, 993, 994, 995, 996, 997, 998, 999, 1000, 1001, 1002, 1003, 1004, 1005, 1006, 1007, 1008, 1009] rfl (by decide +kernel)
set_option maxRecDepth 20000 in
theorem gL_law_X6_product : GoodIn wsL_law (wsV RL 156 RX6 yX6_product wsX6_product) := goodIn_app (goodIn_of _ (by decide +kernel)) ggL_law_X6_product
set_option maxRecDepth 20000 in
theorem ggL_law_L_reduces : GoodIn wsL_law wsL_reduces := goodIn_ca (goodIn_r _ [816, 508, 817, 818, 819, 2, 820, 513, 514, 24, 786, 787, 788, 23, 789, 790, 791, 792, 793, 75, 435, 436, 821, 822, 823, 824, 72, 70, 825, 826, 827, 828, 829, 830, 831, 832, 833, 834, 69, 71, 74, 753, 754, 755, 835, 836, 837, 838, 73, 839, 840, 841, 842, 843, 844, 845, 846, 847, 848, 849, 850, 851, 852, 853, 854, 855, 856, 857, 975, 976, 977, 1025, 1026, 1027, 1028, 1029, 1030, 1031] (by decide +kernel) (by decide +kernel)) (goodIn_sub (fun _ h => List.mem_append_right _ h) (by decide +kernel))
set_option maxRecDepth 20000 in
theorem gL_law_L_reduces : GoodIn wsL_law (va_wsS RL 157 yL_reduces wsL_reduces) := goodIn_app (goodIn_of _ (by decide +kernel)) ggL_law_L_reduces
set_option maxRecDepth 20000 in
theorem ggL_law_X6_reduces : GoodIn wsL_law wsX6_reduces := goodIn_r _ [861, 810, 811, 812, 5, 813, 768, 299, 300, 301, 305, 306, 307, 308, 309, 862, 863, 864, 865, 100, 99, 866, 867, 868, 869, 101, 772, 773, 774, 870, 871, 872, 978, 979, 980, 981, 982, 983, 984, 985, 986, 987, 988, 989, 990, 991, 992, 993, 994, 995, 996, 997, 998, 999, 1000, 1001, 1002, 1003, 1004, 1005, 1006, 1007, 1008, 1009] rfl (by decide +kernel)
set_option maxRecDepth 20000 in
theorem gL_law_X6_reduces : GoodIn wsL_law (wsV RL 159 RX6 yX6_reduces wsX6_reduces) := goodIn_app (goodIn_of _ (by decide +kernel)) ggL_law_X6_reduces
set_option maxRecDepth 20000 in
theorem ggL_law_L_reducesAnew : GoodIn wsL_law wsL_reducesAnew := goodIn_ca (goodIn_r _ [875, 508, 876, 877, 878, 2, 879, 513, 514, 24, 786, 787, 788, 23, 789, 790, 791, 792, 793, 75, 435, 436, 821, 822, 823, 824, 72, 70, 825, 826, 827, 828, 829, 830, 831, 832, 833, 834, 69, 71, 74, 753, 754, 755, 835, 836, 837, 838, 73, 839, 840, 841, 842, 843, 844, 845, 846, 847, 848, 849, 850, 851, 852, 853, 854, 855, 856, 857, 975, 976, 977, 1025, 1026, 1027, 1028, 1029, 1030, 1031] (by decide +kernel) (by decide +kernel)) (goodIn_sub (fun _ h => List.mem_append_right _ h) (by decide +kernel))
set_option maxRecDepth 20000 in
theorem gL_law_L_reducesAnew : GoodIn wsL_law (va_wsS RL 160 yL_reducesAnew wsL_reducesAnew) := goodIn_app (goodIn_of _ (by decide +kernel)) ggL_law_L_reducesAnew
set_option maxRecDepth 20000 in
theorem ggL_law_X6_reducesAnew : GoodIn wsL_law wsX6_reducesAnew := goodIn_r _ [883, 810, 811, 812, 5, 813, 768, 299, 300, 301, 305, 306, 307, 308, 309, 862, 863, 864, 865, 100, 99, 866, 867, 868, 869, 101, 772, 773, 774, 870, 871, 872, 978, 979, 980, 981, 982, 983, 984, 985, 986, 987, 988, 989, 990, 991, 992, 993, 994, 995, 996, 997, 998, 999, 1000, 1001, 1002, 1003, 1004, 1005, 1006, 1007, 1008, 1009] rfl (by decide +kernel)
set_option maxRecDepth 20000 in
theorem gL_law_X6_reducesAnew : GoodIn wsL_law (wsV RL 162 RX6 yX6_reducesAnew wsX6_reducesAnew) := goodIn_app (goodIn_of _ (by decide +kernel)) ggL_law_X6_reducesAnew
set_option maxRecDepth 20000 in
theorem ggL_law_L_forth : GoodIn wsL_law wsL_forth := goodIn_ca (goodIn_r _ [886, 508, 887, 888, 889, 2, 890, 513, 514, 24, 786, 787, 788, 23, 789, 790, 791, 792, 793, 75, 435, 436, 891, 892, 893, 894, 69, 895, 896, 897, 898, 899, 822, 823, 824, 72, 70, 825, 826, 827, 828, 829, 830, 831, 832, 833, 834, 71, 74, 753, 754, 755, 835, 836, 837, 838, 73, 839, 840, 841, 842, 843, 844, 845, 846, 847, 848, 849, 850, 851, 852, 853, 854, 855, 856, 857, 975, 976, 977, 1025, 1026, 1027, 1028, 1029, 1030, 1031] (by decide +kernel) (by decide +kernel)) (goodIn_sub (fun _ h => List.mem_append_right _ h) (by decide +kernel))
set_option maxRecDepth 20000 in
theorem gL_law_L_forth : GoodIn wsL_law (va_wsS RL 163 yL_forth wsL_forth) := goodIn_app (goodIn_of _ (by decide +kernel)) ggL_law_L_forth
set_option maxRecDepth 20000 in
theorem ggL_law_X6_forth : GoodIn wsL_law wsX6_forth := goodIn_r _ [903, 99, 810, 811, 812, 5, 813, 768, 299, 300, 301, 305, 306, 307, 308, 309, 862, 863, 864, 865, 100, 866, 867, 868, 869, 101, 772, 773, 774, 870, 871, 872, 978, 979, 980, 981, 982, 983, 984, 985, 986, 987, 988, 989, 990, 991, 992, 993, 994, 995, 996, 997, 998, 999, 1000, 1001, 1002, 1003, 1004, 1005, 1006, 1007, 1008, 1009] rfl (by decide +kernel)
set_option maxRecDepth 20000 in
theorem gL_law_X6_forth : GoodIn wsL_law (wsV RL 165 RX6 yX6_forth wsX6_forth) := goodIn_app (goodIn_of _ (by decide +kernel)) ggL_law_X6_forth
set_option maxRecDepth 20000 in
theorem ggL_law_L_ofProblem : GoodIn wsL_law wsL_ofProblem := goodIn_ca (goodIn_ca (goodIn_r _ [906, 508, 107, 907, 908, 909, 2, 910, 513, 514, 113, 114, 24, 911, 791, 792, 23, 793, 75, 435, 436, 434, 912, 913, 914, 915, 69, 70, 71, 975, 976, 977, 1025, 1026, 1027, 1028, 1029, 1030, 1031] (by decide +kernel) (by decide +kernel)) (goodIn_sub (fun _ h => List.mem_append_right _ h) (by decide +kernel))) (goodIn_sub (fun _ h => List.mem_append_left _ (List.mem_append_left _ (List.mem_append_right _ h))) (by decide +kernel))
set_option maxRecDepth 20000 in
theorem gL_law_L_ofProblem : GoodIn wsL_law (va_wsS RL 166 yL_ofProblem wsL_ofProblem) := goodIn_app (goodIn_of _ (by decide +kernel)) ggL_law_L_ofProblem
set_option maxRecDepth 20000 in
theorem ggL_law_X6_ofProblem : GoodIn wsL_law wsX6_ofProblem := goodIn_r _ [919, 99, 100, 101, 810, 811, 812, 5, 813, 768, 299, 300, 301, 305, 306, 307, 308, 309, 978, 979, 980, 981, 982, 983, 984, 985, 986, 987, 988, 989, 990, 991, 992, 993, 994, 995, 996, 997, 998, 999, 1000, 1001, 1002, 1003, 1004, 1005, 1006, 1007, 1008, 1009] rfl (by decide +kernel)
set_option maxRecDepth 20000 in
theorem gL_law_X6_ofProblem : GoodIn wsL_law (wsV RL 168 RX6 yX6_ofProblem wsX6_ofProblem) := goodIn_app (goodIn_of _ (by decide +kernel)) ggL_law_X6_ofProblem
set_option maxRecDepth 20000 in
theorem ggL_law_L_has : GoodIn wsL_law wsL_has := goodIn_ca (goodIn_r _ [922, 107, 923, 924, 925, 2, 926, 113, 114, 927, 928, 929, 930, 432, 433, 931, 932, 933, 934, 935, 936, 937, 938, 939] (by decide +kernel) (by decide +kernel)) (goodIn_sub (fun _ h => List.mem_append_left _ (List.mem_append_left _ (List.mem_append_right _ h))) (by decide +kernel))
set_option maxRecDepth 20000 in
theorem gL_law_L_has : GoodIn wsL_law (va_wsS RL 169 yL_has wsL_has) := goodIn_app (goodIn_of _ (by decide +kernel)) ggL_law_L_has
set_option maxRecDepth 20000 in
theorem ggL_law_X6_has : GoodIn wsL_law wsX6_has := goodIn_r _ [943, 944, 945, 946, 5, 947, 299, 300, 301, 305, 306, 307, 308, 309, 948, 949, 950, 951, 102, 978, 979, 980, 981, 982, 983, 984, 985, 986, 987, 988, 989, 990, 991, 992, 993, 994, 995, 996, 997, 998, 999, 1000, 1001, 1002, 1003, 1004, 1005, 1006, 1007, 1008, 1009] rfl (by decide +kernel)
set_option maxRecDepth 20000 in
theorem gL_law_X6_has : GoodIn wsL_law (wsV RL 171 RX6 yX6_has wsX6_has) := goodIn_app (goodIn_of _ (by decide +kernel)) ggL_law_X6_has
set_option maxRecDepth 20000 in
theorem ggL_law_L_hasAnew : GoodIn wsL_law wsL_hasAnew := goodIn_ca (goodIn_r _ [954, 107, 955, 956, 957, 2, 958, 113, 114, 927, 928, 929, 930, 432, 433, 959, 960, 961, 962, 963, 964, 965, 966, 967, 968, 969, 970] (by decide +kernel) (by decide +kernel)) (goodIn_sub (fun _ h => List.mem_append_left _ (List.mem_append_left _ (List.mem_append_right _ h))) (by decide +kernel))
set_option maxRecDepth 20000 in
theorem gL_law_L_hasAnew : GoodIn wsL_law (va_wsS RL 172 yL_hasAnew wsL_hasAnew) := goodIn_app (goodIn_of _ (by decide +kernel)) ggL_law_L_hasAnew
set_option maxRecDepth 20000 in
theorem ggL_law_X6_hasAnew : GoodIn wsL_law wsX6_hasAnew := goodIn_r _ [974, 944, 945, 946, 5, 947, 299, 300, 301, 305, 306, 307, 308, 309, 948, 949, 950, 951, 102, 978, 979, 980, 981, 982, 983, 984, 985, 986, 987, 988, 989, 990, 991, 992, 993, 994, 995, 996, 997, 998, 999, 1000, 1001, 1002, 1003, 1004, 1005, 1006, 1007, 1008, 1009] rfl (by decide +kernel)
set_option maxRecDepth 20000 in
theorem gL_law_X6_hasAnew : GoodIn wsL_law (wsV RL 174 RX6 yX6_hasAnew wsX6_hasAnew) := goodIn_app (goodIn_of _ (by decide +kernel)) ggL_law_X6_hasAnew
