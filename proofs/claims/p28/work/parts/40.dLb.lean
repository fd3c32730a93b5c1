theorem dL_act_32 : decode cL_act 32 = .ok (.goto 10, 3) := by decide +kernel
theorem dL_act_35 : decode cL_act 35 = .ok (.iload_n 1, 1) := by decide +kernel
theorem dL_act_36 : decode cL_act 36 = .ok (.iconst 4, 1) := by decide +kernel
theorem dL_act_37 : decode cL_act 37 = .ok (.ishr, 1) := by decide +kernel
theorem dL_act_38 : decode cL_act 38 = .ok (.iconst 5, 1) := by decide +kernel
theorem dL_act_39 : decode cL_act 39 = .ok (.invokestatic 81, 3) := by decide +kernel
theorem dL_act_42 : decode cL_act 42 = .ok (.istore_n 3, 1) := by decide +kernel
theorem dL_act_43 : decode cL_act 43 = .ok (.iload_n 2, 1) := by decide +kernel
theorem dL_act_44 : decode cL_act 44 = .ok (.ifCond .eq 17, 3) := by decide +kernel
theorem dL_act_47 : decode cL_act 47 = .ok (.iload_n 1, 1) := by decide +kernel
theorem dL_act_48 : decode cL_act 48 = .ok (.bipush 7, 2) := by decide +kernel
theorem dL_act_50 : decode cL_act 50 = .ok (.ishr, 1) := by decide +kernel
theorem dL_act_51 : decode cL_act 51 = .ok (.bipush 14, 2) := by decide +kernel
theorem dL_act_53 : decode cL_act 53 = .ok (.invokestatic 81, 3) := by decide +kernel
theorem dL_act_56 : decode cL_act 56 = .ok (.iconst 2, 1) := by decide +kernel
theorem dL_act_57 : decode cL_act 57 = .ok (.isub, 1) := by decide +kernel
theorem dL_act_58 : decode cL_act 58 = .ok (.goto 11, 3) := by decide +kernel
theorem dL_act_61 : decode cL_act 61 = .ok (.iload_n 1, 1) := by decide +kernel
theorem dL_act_62 : decode cL_act 62 = .ok (.bipush 7, 2) := by decide +kernel
theorem dL_act_64 : decode cL_act 64 = .ok (.ishr, 1) := by decide +kernel
theorem dL_act_65 : decode cL_act 65 = .ok (.iconst 5, 1) := by decide +kernel
theorem dL_act_66 : decode cL_act 66 = .ok (.invokestatic 81, 3) := by decide +kernel
theorem dL_act_69 : decode cL_act 69 = .ok (.istore 4, 2) := by decide +kernel
theorem dL_act_71 : decode cL_act 71 = .ok (.iload_n 2, 1) := by decide +kernel
theorem dL_act_72 : decode cL_act 72 = .ok (.ifCond .eq 9, 3) := by decide +kernel
theorem dL_act_75 : decode cL_act 75 = .ok (.iload_n 1, 1) := by decide +kernel
theorem dL_act_76 : decode cL_act 76 = .ok (.iconst 5, 1) := by decide +kernel
theorem dL_act_77 : decode cL_act 77 = .ok (.ishr, 1) := by decide +kernel
theorem dL_act_78 : decode cL_act 78 = .ok (.goto 11, 3) := by decide +kernel
theorem dL_act_81 : decode cL_act 81 = .ok (.iload_n 1, 1) := by decide +kernel
theorem dL_act_82 : decode cL_act 82 = .ok (.iconst 5, 1) := by decide +kernel
theorem dL_act_83 : decode cL_act 83 = .ok (.ishr, 1) := by decide +kernel
theorem dL_act_84 : decode cL_act 84 = .ok (.bipush 32, 2) := by decide +kernel
theorem dL_act_86 : decode cL_act 86 = .ok (.invokestatic 81, 3) := by decide +kernel
theorem dL_act_89 : decode cL_act 89 = .ok (.istore 5, 2) := by decide +kernel
theorem dL_act_91 : decode cL_act 91 = .ok (.iload_n 2, 1) := by decide +kernel
theorem dL_act_92 : decode cL_act 92 = .ok (.ifCond .eq 17, 3) := by decide +kernel
theorem dL_act_95 : decode cL_act 95 = .ok (.iload_n 1, 1) := by decide +kernel
theorem dL_act_96 : decode cL_act 96 = .ok (.bipush 9, 2) := by decide +kernel
theorem dL_act_98 : decode cL_act 98 = .ok (.ishr, 1) := by decide +kernel
theorem dL_act_99 : decode cL_act 99 = .ok (.bipush 9, 2) := by decide +kernel
theorem dL_act_101 : decode cL_act 101 = .ok (.invokestatic 81, 3) := by decide +kernel
theorem dL_act_104 : decode cL_act 104 = .ok (.iconst 1, 1) := by decide +kernel
theorem dL_act_105 : decode cL_act 105 = .ok (.isub, 1) := by decide +kernel
theorem dL_act_106 : decode cL_act 106 = .ok (.goto 13, 3) := by decide +kernel
theorem dL_act_109 : decode cL_act 109 = .ok (.iconst 1, 1) := by decide +kernel
theorem dL_act_110 : decode cL_act 110 = .ok (.iload_n 1, 1) := by decide +kernel
theorem dL_act_111 : decode cL_act 111 = .ok (.bipush 9, 2) := by decide +kernel
theorem dL_act_113 : decode cL_act 113 = .ok (.ishr, 1) := by decide +kernel
theorem dL_act_114 : decode cL_act 114 = .ok (.iconst 5, 1) := by decide +kernel
theorem dL_act_115 : decode cL_act 115 = .ok (.invokestatic 81, 3) := by decide +kernel
theorem dL_act_118 : decode cL_act 118 = .ok (.iadd, 1) := by decide +kernel
theorem dL_act_119 : decode cL_act 119 = .ok (.istore 6, 2) := by decide +kernel
theorem dL_act_121 : decode cL_act 121 = .ok (.iload_n 2, 1) := by decide +kernel
theorem dL_act_122 : decode cL_act 122 = .ok (.ifCond .eq 17, 3) := by decide +kernel
theorem dL_act_125 : decode cL_act 125 = .ok (.iload_n 1, 1) := by decide +kernel
theorem dL_act_126 : decode cL_act 126 = .ok (.bipush 11, 2) := by decide +kernel
theorem dL_act_128 : decode cL_act 128 = .ok (.ishr, 1) := by decide +kernel
theorem dL_act_129 : decode cL_act 129 = .ok (.bipush 9, 2) := by decide +kernel
theorem dL_act_131 : decode cL_act 131 = .ok (.invokestatic 81, 3) := by decide +kernel
theorem dL_act_134 : decode cL_act 134 = .ok (.iconst 2, 1) := by decide +kernel
theorem dL_act_135 : decode cL_act 135 = .ok (.isub, 1) := by decide +kernel
theorem dL_act_136 : decode cL_act 136 = .ok (.goto 11, 3) := by decide +kernel
theorem dL_act_139 : decode cL_act 139 = .ok (.iload_n 1, 1) := by decide +kernel
theorem dL_act_140 : decode cL_act 140 = .ok (.bipush 11, 2) := by decide +kernel
theorem dL_act_142 : decode cL_act 142 = .ok (.ishr, 1) := by decide +kernel
theorem dL_act_143 : decode cL_act 143 = .ok (.iconst 3, 1) := by decide +kernel
theorem dL_act_144 : decode cL_act 144 = .ok (.invokestatic 81, 3) := by decide +kernel
theorem dL_act_147 : decode cL_act 147 = .ok (.istore 7, 2) := by decide +kernel
theorem dL_act_149 : decode cL_act 149 = .ok (.iload_n 1, 1) := by decide +kernel
theorem dL_act_150 : decode cL_act 150 = .ok (.bipush 40, 2) := by decide +kernel
theorem dL_act_152 : decode cL_act 152 = .ok (.invokestatic 81, 3) := by decide +kernel
theorem dL_act_155 : decode cL_act 155 = .ok (.tableswitch 625 0 38 #[169, 169, 169, 169, 169, 169, 169, 169, 175, 180, 180, 180, 186, 216, 216, 275, 275, 275, 275, 280, 280, 280, 280, 319, 319, 326, 333, 358, 384, 427, 427, 427, 523, 523, 552, 560, 568, 578, 586], 169) := by decide +kernel
theorem dL_act_430 : decode cL_act 430 = .ok (.aload_n 0, 1) := by decide +kernel
theorem dL_act_431 : decode cL_act 431 = .ok (.invokestatic 119, 3) := by decide +kernel
theorem dL_act_434 : decode cL_act 434 = .ok (.ireturn, 1) := by decide +kernel
set_option maxRecDepth 20000 in
theorem ggL_areAlike_X5_fault : GoodIn wsL_areAlike wsX5_fault := goodIn_r _ [5, 6, 7, 8, 9, 10, 11, 12, 13, 203, 204, 205, 206, 207, 208, 209, 210, 211] (by decide +kernel) (by decide +kernel)
set_option maxRecDepth 20000 in
theorem gL_areAlike_X5_fault : GoodIn wsL_areAlike (wsV RL 103 RX5 yX5_fault wsX5_fault) := goodIn_app (goodIn_of _ (by decide +kernel)) ggL_areAlike_X5_fault
set_option maxRecDepth 20000 in
theorem ggL_areAlike_X5_sigma : GoodIn wsL_areAlike wsX5_sigma := goodIn_r _ [17, 6, 18, 19, 20, 10, 21, 12, 22, 23, 24, 25, 26, 27, 28, 203, 204, 205, 206, 207, 208, 209, 210, 211, 212, 213, 214, 215, 216, 217, 218, 219, 220, 221, 222] (by decide +kernel) (by decide +kernel)
set_option maxRecDepth 20000 in
theorem gL_areAlike_X5_sigma : GoodIn wsL_areAlike (wsV RL 106 RX5 yX5_sigma wsX5_sigma) := goodIn_app (goodIn_of _ (by decide +kernel)) ggL_areAlike_X5_sigma
set_option maxRecDepth 20000 in
theorem ggL_areAlike_X5_free : GoodIn wsL_areAlike wsX5_free := goodIn_r _ [32, 6, 18, 19, 20, 10, 21, 12, 22, 33, 34, 35, 26, 36, 37, 203, 204, 205, 206, 207, 208, 209, 210, 211, 212, 213, 214, 215, 216, 217, 218, 219, 220, 221, 222] (by decide +kernel) (by decide +kernel)
set_option maxRecDepth 20000 in
theorem gL_areAlike_X5_free : GoodIn wsL_areAlike (wsV RL 112 RX5 yX5_free wsX5_free) := goodIn_app (goodIn_of _ (by decide +kernel)) ggL_areAlike_X5_free
set_option maxRecDepth 20000 in
theorem ggL_areAlike_X5_open : GoodIn wsL_areAlike wsX5_open := goodIn_r _ [41, 42, 43, 44, 45, 46, 47, 48, 49, 50, 51, 52, 53, 54, 55, 56, 57, 58, 59, 60, 61, 62, 63, 64, 65, 66, 67, 68, 69, 70, 71, 72, 73, 74, 203, 204, 205, 223, 224, 225, 226, 227, 228, 229, 230, 231] (by decide +kernel) (by decide +kernel)
set_option maxRecDepth 20000 in
theorem gL_areAlike_X5_open : GoodIn wsL_areAlike (wsV RL 132 RX5 yX5_open wsX5_open) := goodIn_app (goodIn_of _ (by decide +kernel)) ggL_areAlike_X5_open
set_option maxRecDepth 20000 in
theorem ggL_areAlike_L_low : GoodIn wsL_areAlike wsL_low := goodIn_r _ [78, 79] (by decide +kernel) (by decide +kernel)
set_option maxRecDepth 20000 in
theorem gL_areAlike_L_low : GoodIn wsL_areAlike (va_wsS RL 81 yL_low wsL_low) := goodIn_app (goodIn_of _ (by decide +kernel)) ggL_areAlike_L_low
set_option maxRecDepth 20000 in
theorem ggL_areAlike_L_ofPrinciple : GoodIn wsL_areAlike wsL_ofPrinciple := goodIn_ca (goodIn_ca (goodIn_r _ [82, 83, 84, 85, 86, 87, 88, 4, 89, 90, 91, 92, 93, 42, 94, 95, 96, 46, 97, 48, 98, 99, 100, 101, 102, 103, 104, 105, 106, 107, 108, 109, 110, 64, 59, 111, 112, 113, 114, 53, 54, 72, 73, 74, 203, 204, 205, 223, 224, 225, 226, 227, 228, 229, 230, 231] (by decide +kernel) (by decide +kernel)) (goodIn_sub (fun _ h => List.mem_cons_of_mem _ (List.mem_append_left _ (List.mem_append_right _ h))) (by decide +kernel))) (goodIn_sub (fun _ h => List.mem_cons_of_mem _ (List.mem_append_right _ h)) (by decide +kernel))
set_option maxRecDepth 20000 in
theorem gL_areAlike_L_ofPrinciple : GoodIn wsL_areAlike (va_wsS RL 139 yL_ofPrinciple wsL_ofPrinciple) := goodIn_app (goodIn_of _ (by decide +kernel)) ggL_areAlike_L_ofPrinciple
set_option maxRecDepth 20000 in
theorem ggL_areAlike_L_ofProblem : GoodIn wsL_areAlike wsL_ofProblem := goodIn_ca (goodIn_ca (goodIn_r _ [117, 83, 84, 85, 118, 119, 120, 4, 121, 90, 91, 92, 93, 122, 123, 124, 125, 126, 127, 128, 98, 99, 100, 129, 130, 131, 132, 133, 134, 135, 203, 204, 205, 232, 233, 234, 235, 236, 237, 238] (by decide +kernel) (by decide +kernel)) (goodIn_sub (fun _ h => List.mem_cons_of_mem _ (List.mem_append_left _ (List.mem_append_right _ h))) (by decide +kernel))) (goodIn_sub (fun _ h => List.mem_cons_of_mem _ (List.mem_append_right _ h)) (by decide +kernel))
set_option maxRecDepth 20000 in
theorem gL_areAlike_L_ofProblem : GoodIn wsL_areAlike (va_wsS RL 149 yL_ofProblem wsL_ofProblem) := goodIn_app (goodIn_of _ (by decide +kernel)) ggL_areAlike_L_ofProblem
set_option maxRecDepth 20000 in
theorem ggL_areAlike_L_proves : GoodIn wsL_areAlike wsL_proves := goodIn_ca (goodIn_r _ [138, 84, 85, 139, 140, 141, 4, 142, 92, 93, 42, 143, 144, 145, 46, 146, 48, 147, 56, 57, 58, 59, 60, 61, 62, 63, 64, 65, 66, 67, 68, 69, 70, 71, 72, 73, 74, 203, 204, 205, 223, 224, 225, 226, 227, 228, 229, 230, 231] (by decide +kernel) (by decide +kernel)) (goodIn_sub (fun _ h => List.mem_cons_of_mem _ (List.mem_append_right _ h)) (by decide +kernel))
set_option maxRecDepth 20000 in
theorem gL_areAlike_L_proves : GoodIn wsL_areAlike (va_wsS RL 127 yL_proves wsL_proves) := goodIn_app (goodIn_of _ (by decide +kernel)) ggL_areAlike_L_proves
set_option maxRecDepth 20000 in
theorem ggL_areAlike_L_reduces : GoodIn wsL_areAlike wsL_reduces := goodIn_ca (goodIn_r _ [150, 83, 85, 151, 152, 153, 4, 154, 90, 91, 122, 155, 156, 157, 126, 158, 159, 124, 125, 127, 128, 98, 99, 160, 161, 162, 163, 164, 134, 165, 166, 167, 168, 169, 170, 171, 172, 173, 174, 133, 135, 175, 176, 177, 178, 179, 180, 181, 182, 183, 184, 185, 186, 187, 188, 189, 190, 191, 192, 193, 194, 195, 196, 197, 198, 199, 200, 201, 202, 203, 204, 205, 232, 233, 234, 235, 236, 237, 238] (by decide +kernel) (by decide +kernel)) (goodIn_sub (fun _ h => List.mem_cons_of_mem _ (List.mem_append_left _ (List.mem_append_right _ h))) (by decide +kernel))
set_option maxRecDepth 20000 in
theorem gL_areAlike_L_reduces : GoodIn wsL_areAlike (va_wsS RL 145 yL_reduces wsL_reduces) := goodIn_app (goodIn_of _ (by decide +kernel)) ggL_areAlike_L_reduces
theorem dL_areAlike_0 : decode cL_areAlike 0 = .ok (.aload_n 0, 1) := by decide +kernel
theorem dL_areAlike_1 : decode cL_areAlike 1 = .ok (.invokevirtual 103, 3) := by decide +kernel
theorem dL_areAlike_4 : decode cL_areAlike 4 = .ok (.aload_n 1, 1) := by decide +kernel
theorem dL_areAlike_5 : decode cL_areAlike 5 = .ok (.invokevirtual 103, 3) := by decide +kernel
theorem dL_areAlike_8 : decode cL_areAlike 8 = .ok (.if_icmp .ne 40, 3) := by decide +kernel
theorem dL_areAlike_11 : decode cL_areAlike 11 = .ok (.aload_n 0, 1) := by decide +kernel
