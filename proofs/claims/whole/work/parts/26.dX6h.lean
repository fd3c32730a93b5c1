theorem dX6_areAnswers_83 : decode cX6_areAnswers 83 = .ok (.iconst 0, 1) := by decide +kernel
theorem dX6_areAnswers_84 : decode cX6_areAnswers 84 = .ok (.istore 4, 2) := by decide +kernel
theorem dX6_areAnswers_86 : decode cX6_areAnswers 86 = .ok (.iinc 5 1, 3) := by decide +kernel
theorem dX6_areAnswers_89 : decode cX6_areAnswers 89 = .ok (.goto (-81), 3) := by decide +kernel
theorem dX6_areAnswers_92 : decode cX6_areAnswers 92 = .ok (.iload 4, 2) := by decide +kernel
theorem dX6_areAnswers_94 : decode cX6_areAnswers 94 = .ok (.ifCond .eq 11, 3) := by decide +kernel
theorem dX6_areAnswers_97 : decode cX6_areAnswers 97 = .ok (.iload_n 3, 1) := by decide +kernel
theorem dX6_areAnswers_98 : decode cX6_areAnswers 98 = .ok (.ifCond .ne 7, 3) := by decide +kernel
theorem dX6_areAnswers_101 : decode cX6_areAnswers 101 = .ok (.iconst 1, 1) := by decide +kernel
theorem dX6_areAnswers_102 : decode cX6_areAnswers 102 = .ok (.goto 4, 3) := by decide +kernel
theorem dX6_areAnswers_105 : decode cX6_areAnswers 105 = .ok (.iconst 0, 1) := by decide +kernel
theorem dX6_areAnswers_106 : decode cX6_areAnswers 106 = .ok (.ireturn, 1) := by decide +kernel
theorem dX6_addProblem_0 : decode cX6_addProblem 0 = .ok (.aload_n 0, 1) := by decide +kernel
theorem dX6_addProblem_1 : decode cX6_addProblem 1 = .ok (.getfield 69, 3) := by decide +kernel
theorem dX6_addProblem_4 : decode cX6_addProblem 4 = .ok (.aload_n 0, 1) := by decide +kernel
theorem dX6_addProblem_5 : decode cX6_addProblem 5 = .ok (.getfield 204, 3) := by decide +kernel
theorem dX6_addProblem_8 : decode cX6_addProblem 8 = .ok (.iload_n 1, 1) := by decide +kernel
theorem dX6_addProblem_9 : decode cX6_addProblem 9 = .ok (.iastore, 1) := by decide +kernel
theorem dX6_addProblem_10 : decode cX6_addProblem 10 = .ok (.aload_n 0, 1) := by decide +kernel
theorem dX6_addProblem_11 : decode cX6_addProblem 11 = .ok (.getfield 72, 3) := by decide +kernel
theorem dX6_addProblem_14 : decode cX6_addProblem 14 = .ok (.aload_n 0, 1) := by decide +kernel
theorem dX6_addProblem_15 : decode cX6_addProblem 15 = .ok (.getfield 204, 3) := by decide +kernel
theorem dX6_addProblem_18 : decode cX6_addProblem 18 = .ok (.iload_n 2, 1) := by decide +kernel
theorem dX6_addProblem_19 : decode cX6_addProblem 19 = .ok (.iastore, 1) := by decide +kernel
theorem dX6_addProblem_20 : decode cX6_addProblem 20 = .ok (.aload_n 0, 1) := by decide +kernel
theorem dX6_addProblem_21 : decode cX6_addProblem 21 = .ok (.getfield 75, 3) := by decide +kernel
theorem dX6_addProblem_24 : decode cX6_addProblem 24 = .ok (.aload_n 0, 1) := by decide +kernel
theorem dX6_addProblem_25 : decode cX6_addProblem 25 = .ok (.getfield 204, 3) := by decide +kernel
theorem dX6_addProblem_28 : decode cX6_addProblem 28 = .ok (.iload_n 3, 1) := by decide +kernel
theorem dX6_addProblem_29 : decode cX6_addProblem 29 = .ok (.iastore, 1) := by decide +kernel
theorem dX6_addProblem_30 : decode cX6_addProblem 30 = .ok (.aload_n 0, 1) := by decide +kernel
theorem dX6_addProblem_31 : decode cX6_addProblem 31 = .ok (.dup, 1) := by decide +kernel
theorem dX6_addProblem_32 : decode cX6_addProblem 32 = .ok (.getfield 204, 3) := by decide +kernel
theorem dX6_addProblem_35 : decode cX6_addProblem 35 = .ok (.iconst 1, 1) := by decide +kernel
theorem dX6_addProblem_36 : decode cX6_addProblem 36 = .ok (.iadd, 1) := by decide +kernel
theorem dX6_addProblem_37 : decode cX6_addProblem 37 = .ok (.putfield 204, 3) := by decide +kernel
theorem dX6_addProblem_40 : decode cX6_addProblem 40 = .ok (.aload_n 0, 1) := by decide +kernel
theorem dX6_addProblem_41 : decode cX6_addProblem 41 = .ok (.getfield 204, 3) := by decide +kernel
theorem dX6_addProblem_44 : decode cX6_addProblem 44 = .ok (.iconst 1, 1) := by decide +kernel
theorem dX6_addProblem_45 : decode cX6_addProblem 45 = .ok (.isub, 1) := by decide +kernel
theorem dX6_addProblem_46 : decode cX6_addProblem 46 = .ok (.ireturn, 1) := by decide +kernel
set_option maxRecDepth 20000 in
theorem ggX6_problem_X6_in : GoodIn wsX6_problem wsX6_in := goodIn_r _ [5] rfl (by decide +kernel)
set_option maxRecDepth 20000 in
theorem gX6_problem_X6_in : GoodIn wsX6_problem (va_wsS RX6 85 yX6_in wsX6_in) := goodIn_app (goodIn_of _ (by decide +kernel)) ggX6_problem_X6_in
set_option maxRecDepth 20000 in
theorem ggX6_problem_X6_areAnswers : GoodIn wsX6_problem wsX6_areAnswers := goodIn_r _ [8, 9, 10, 4, 11] rfl (by decide +kernel)
set_option maxRecDepth 20000 in
theorem gX6_problem_X6_areAnswers : GoodIn wsX6_problem (va_wsS RX6 210 yX6_areAnswers wsX6_areAnswers) := goodIn_app (goodIn_of _ (by decide +kernel)) ggX6_problem_X6_areAnswers
set_option maxRecDepth 20000 in
theorem ggX6_problem_X6_goesWell : GoodIn wsX6_problem wsX6_goesWell := goodIn_r _ [15, 16, 24, 25, 26, 27, 28, 29, 30, 31, 32, 33, 34, 35, 36, 37, 38, 39, 40, 41, 42, 43, 44, 45, 46, 47, 48, 49, 50, 51, 52, 53, 54, 55] rfl (by decide +kernel)
set_option maxRecDepth 20000 in
theorem gX6_problem_X6_goesWell : GoodIn wsX6_problem (wsV RX6 99 RX6 yX6_goesWell wsX6_goesWell) := goodIn_app (goodIn_of _ (by decide +kernel)) ggX6_problem_X6_goesWell
set_option maxRecDepth 20000 in
theorem ggX6_problem_X6_addProblem : GoodIn wsX6_problem wsX6_addProblem := goodIn_r _ [20, 21, 1, 22, 23, 24, 25, 26, 27, 28, 29, 30, 31, 32, 33, 34, 35, 36, 37, 38, 39, 40, 41, 42, 43, 44, 45, 46, 47, 48, 49, 50, 51, 52, 53, 54, 55] rfl (by decide +kernel)
set_option maxRecDepth 20000 in
theorem gX6_problem_X6_addProblem : GoodIn wsX6_problem (wsV RX6 213 RX6 yX6_addProblem wsX6_addProblem) := goodIn_app (goodIn_of _ (by decide +kernel)) ggX6_problem_X6_addProblem
theorem dX6_problem_0 : decode cX6_problem 0 = .ok (.iload_n 1, 1) := by decide +kernel
theorem dX6_problem_1 : decode cX6_problem 1 = .ok (.iconst 1, 1) := by decide +kernel
theorem dX6_problem_2 : decode cX6_problem 2 = .ok (.iconst 4, 1) := by decide +kernel
theorem dX6_problem_3 : decode cX6_problem 3 = .ok (.invokestatic 85, 3) := by decide +kernel
theorem dX6_problem_6 : decode cX6_problem 6 = .ok (.ifCond .eq 25, 3) := by decide +kernel
theorem dX6_problem_9 : decode cX6_problem 9 = .ok (.iload_n 2, 1) := by decide +kernel
theorem dX6_problem_10 : decode cX6_problem 10 = .ok (.iconst 1, 1) := by decide +kernel
theorem dX6_problem_11 : decode cX6_problem 11 = .ok (.iconst 4, 1) := by decide +kernel
theorem dX6_problem_12 : decode cX6_problem 12 = .ok (.invokestatic 85, 3) := by decide +kernel
theorem dX6_problem_15 : decode cX6_problem 15 = .ok (.ifCond .eq 16, 3) := by decide +kernel
theorem dX6_problem_18 : decode cX6_problem 18 = .ok (.iload_n 3, 1) := by decide +kernel
theorem dX6_problem_19 : decode cX6_problem 19 = .ok (.iload_n 1, 1) := by decide +kernel
theorem dX6_problem_20 : decode cX6_problem 20 = .ok (.iload_n 2, 1) := by decide +kernel
theorem dX6_problem_21 : decode cX6_problem 21 = .ok (.invokestatic 210, 3) := by decide +kernel
theorem dX6_problem_24 : decode cX6_problem 24 = .ok (.ifCond .eq 7, 3) := by decide +kernel
theorem dX6_problem_27 : decode cX6_problem 27 = .ok (.iconst 1, 1) := by decide +kernel
theorem dX6_problem_28 : decode cX6_problem 28 = .ok (.goto 4, 3) := by decide +kernel
theorem dX6_problem_31 : decode cX6_problem 31 = .ok (.iconst 0, 1) := by decide +kernel
theorem dX6_problem_32 : decode cX6_problem 32 = .ok (.istore 4, 2) := by decide +kernel
theorem dX6_problem_34 : decode cX6_problem 34 = .ok (.aload_n 0, 1) := by decide +kernel
theorem dX6_problem_35 : decode cX6_problem 35 = .ok (.iload 4, 2) := by decide +kernel
theorem dX6_problem_37 : decode cX6_problem 37 = .ok (.ifCond .ne 7, 3) := by decide +kernel
theorem dX6_problem_40 : decode cX6_problem 40 = .ok (.iconst 1, 1) := by decide +kernel
theorem dX6_problem_41 : decode cX6_problem 41 = .ok (.goto 17, 3) := by decide +kernel
theorem dX6_problem_44 : decode cX6_problem 44 = .ok (.aload_n 0, 1) := by decide +kernel
theorem dX6_problem_45 : decode cX6_problem 45 = .ok (.getfield 204, 3) := by decide +kernel
theorem dX6_problem_48 : decode cX6_problem 48 = .ok (.bipush 6, 2) := by decide +kernel
theorem dX6_problem_50 : decode cX6_problem 50 = .ok (.if_icmp .ne 7, 3) := by decide +kernel
theorem dX6_problem_53 : decode cX6_problem 53 = .ok (.iconst 2, 1) := by decide +kernel
theorem dX6_problem_54 : decode cX6_problem 54 = .ok (.goto 4, 3) := by decide +kernel
theorem dX6_problem_57 : decode cX6_problem 57 = .ok (.iconst 0, 1) := by decide +kernel
theorem dX6_problem_58 : decode cX6_problem 58 = .ok (.invokevirtual 99, 3) := by decide +kernel
theorem dX6_problem_61 : decode cX6_problem 61 = .ok (.ifCond .eq 13, 3) := by decide +kernel
theorem dX6_problem_64 : decode cX6_problem 64 = .ok (.aload_n 0, 1) := by decide +kernel
theorem dX6_problem_65 : decode cX6_problem 65 = .ok (.iload_n 1, 1) := by decide +kernel
theorem dX6_problem_66 : decode cX6_problem 66 = .ok (.iload_n 2, 1) := by decide +kernel
theorem dX6_problem_67 : decode cX6_problem 67 = .ok (.iload_n 3, 1) := by decide +kernel
theorem dX6_problem_68 : decode cX6_problem 68 = .ok (.invokevirtual 213, 3) := by decide +kernel
theorem dX6_problem_71 : decode cX6_problem 71 = .ok (.goto 4, 3) := by decide +kernel
theorem dX6_problem_74 : decode cX6_problem 74 = .ok (.iconst 0, 1) := by decide +kernel
theorem dX6_problem_75 : decode cX6_problem 75 = .ok (.ireturn, 1) := by decide +kernel
set_option maxRecDepth 20000 in
theorem ggX6_product_X6_isProblem : GoodIn wsX6_product wsX6_isProblem := goodIn_r _ [9, 1, 10, 11, 8, 12, 25, 26, 27, 28, 29, 30, 31, 32, 33, 34, 35, 36, 37, 38, 39, 40, 41, 42, 43, 44, 45, 46, 47, 48, 49, 50, 51, 52, 53, 54, 55, 56] rfl (by decide +kernel)
set_option maxRecDepth 20000 in
theorem gX6_product_X6_isProblem : GoodIn wsX6_product (wsV RX6 217 RX6 yX6_isProblem wsX6_isProblem) := goodIn_app (goodIn_of _ (by decide +kernel)) ggX6_product_X6_isProblem
set_option maxRecDepth 20000 in
theorem ggX6_product_X6_goesWell : GoodIn wsX6_product wsX6_goesWell := goodIn_r _ [16, 17, 25, 26, 27, 28, 29, 30, 31, 32, 33, 34, 35, 36, 37, 38, 39, 40, 41, 42, 43, 44, 45, 46, 47, 48, 49, 50, 51, 52, 53, 54, 55, 56] rfl (by decide +kernel)
set_option maxRecDepth 20000 in
theorem gX6_product_X6_goesWell : GoodIn wsX6_product (wsV RX6 99 RX6 yX6_goesWell wsX6_goesWell) := goodIn_app (goodIn_of _ (by decide +kernel)) ggX6_product_X6_goesWell
set_option maxRecDepth 20000 in
theorem ggX6_product_X6_isSolved : GoodIn wsX6_product wsX6_isSolved := goodIn_r _ [20] rfl (by decide +kernel)
set_option maxRecDepth 20000 in
theorem gX6_product_X6_isSolved : GoodIn wsX6_product (va_wsS RX6 207 yX6_isSolved wsX6_isSolved) := goodIn_app (goodIn_of _ (by decide +kernel)) ggX6_product_X6_isSolved
set_option maxRecDepth 20000 in
theorem ggX6_product_X6_addProblem : GoodIn wsX6_product wsX6_addProblem := goodIn_r _ [24, 2, 1, 3, 4, 25, 26, 27, 28, 29, 30, 31, 32, 33, 34, 35, 36, 37, 38, 39, 40, 41, 42, 43, 44, 45, 46, 47, 48, 49, 50, 51, 52, 53, 54, 55, 56] rfl (by decide +kernel)
set_option maxRecDepth 20000 in
theorem gX6_product_X6_addProblem : GoodIn wsX6_product (wsV RX6 213 RX6 yX6_addProblem wsX6_addProblem) := goodIn_app (goodIn_of _ (by decide +kernel)) ggX6_product_X6_addProblem
theorem dX6_product_0 : decode cX6_product 0 = .ok (.aload_n 0, 1) := by decide +kernel
theorem dX6_product_1 : decode cX6_product 1 = .ok (.iload_n 1, 1) := by decide +kernel
theorem dX6_product_2 : decode cX6_product 2 = .ok (.invokevirtual 217, 3) := by decide +kernel
theorem dX6_product_5 : decode cX6_product 5 = .ok (.ifCond .eq 15, 3) := by decide +kernel
theorem dX6_product_8 : decode cX6_product 8 = .ok (.aload_n 0, 1) := by decide +kernel
theorem dX6_product_9 : decode cX6_product 9 = .ok (.iload_n 2, 1) := by decide +kernel
theorem dX6_product_10 : decode cX6_product 10 = .ok (.invokevirtual 217, 3) := by decide +kernel
theorem dX6_product_13 : decode cX6_product 13 = .ok (.ifCond .eq 7, 3) := by decide +kernel
theorem dX6_product_16 : decode cX6_product 16 = .ok (.iconst 1, 1) := by decide +kernel
theorem dX6_product_17 : decode cX6_product 17 = .ok (.goto 4, 3) := by decide +kernel
theorem dX6_product_20 : decode cX6_product 20 = .ok (.iconst 0, 1) := by decide +kernel
theorem dX6_product_21 : decode cX6_product 21 = .ok (.istore_n 3, 1) := by decide +kernel
theorem dX6_product_22 : decode cX6_product 22 = .ok (.iload_n 3, 1) := by decide +kernel
theorem dX6_product_23 : decode cX6_product 23 = .ok (.ifCond .eq 50, 3) := by decide +kernel
theorem dX6_product_26 : decode cX6_product 26 = .ok (.aload_n 0, 1) := by decide +kernel
theorem dX6_product_27 : decode cX6_product 27 = .ok (.getfield 204, 3) := by decide +kernel
theorem dX6_product_30 : decode cX6_product 30 = .ok (.bipush 6, 2) := by decide +kernel
theorem dX6_product_32 : decode cX6_product 32 = .ok (.if_icmp .ge 41, 3) := by decide +kernel
theorem dX6_product_35 : decode cX6_product 35 = .ok (.aload_n 0, 1) := by decide +kernel
theorem dX6_product_36 : decode cX6_product 36 = .ok (.getfield 69, 3) := by decide +kernel
theorem dX6_product_39 : decode cX6_product 39 = .ok (.iload_n 1, 1) := by decide +kernel
theorem dX6_product_40 : decode cX6_product 40 = .ok (.iaload, 1) := by decide +kernel
theorem dX6_product_41 : decode cX6_product 41 = .ok (.aload_n 0, 1) := by decide +kernel
theorem dX6_product_42 : decode cX6_product 42 = .ok (.getfield 69, 3) := by decide +kernel
theorem dX6_product_45 : decode cX6_product 45 = .ok (.iload_n 2, 1) := by decide +kernel
theorem dX6_product_46 : decode cX6_product 46 = .ok (.iaload, 1) := by decide +kernel
theorem dX6_product_47 : decode cX6_product 47 = .ok (.imul, 1) := by decide +kernel
theorem dX6_product_48 : decode cX6_product 48 = .ok (.iconst 4, 1) := by decide +kernel
theorem dX6_product_49 : decode cX6_product 49 = .ok (.if_icmp .gt 24, 3) := by decide +kernel
theorem dX6_product_52 : decode cX6_product 52 = .ok (.aload_n 0, 1) := by decide +kernel
theorem dX6_product_53 : decode cX6_product 53 = .ok (.getfield 72, 3) := by decide +kernel
theorem dX6_product_56 : decode cX6_product 56 = .ok (.iload_n 1, 1) := by decide +kernel
theorem dX6_product_57 : decode cX6_product 57 = .ok (.iaload, 1) := by decide +kernel
theorem dX6_product_58 : decode cX6_product 58 = .ok (.aload_n 0, 1) := by decide +kernel
theorem dX6_product_59 : decode cX6_product 59 = .ok (.getfield 72, 3) := by decide +kernel
theorem dX6_product_62 : decode cX6_product 62 = .ok (.iload_n 2, 1) := by decide +kernel
theorem dX6_product_63 : decode cX6_product 63 = .ok (.iaload, 1) := by decide +kernel
theorem dX6_product_64 : decode cX6_product 64 = .ok (.imul, 1) := by decide +kernel
theorem dX6_product_65 : decode cX6_product 65 = .ok (.iconst 4, 1) := by decide +kernel
theorem dX6_product_66 : decode cX6_product 66 = .ok (.if_icmp .gt 7, 3) := by decide +kernel
theorem dX6_product_69 : decode cX6_product 69 = .ok (.iconst 1, 1) := by decide +kernel
theorem dX6_product_70 : decode cX6_product 70 = .ok (.goto 4, 3) := by decide +kernel
theorem dX6_product_73 : decode cX6_product 73 = .ok (.iconst 0, 1) := by decide +kernel
theorem dX6_product_74 : decode cX6_product 74 = .ok (.istore 4, 2) := by decide +kernel
theorem dX6_product_76 : decode cX6_product 76 = .ok (.aload_n 0, 1) := by decide +kernel
theorem dX6_product_77 : decode cX6_product 77 = .ok (.iload_n 3, 1) := by decide +kernel
theorem dX6_product_78 : decode cX6_product 78 = .ok (.ifCond .ne 7, 3) := by decide +kernel
theorem dX6_product_81 : decode cX6_product 81 = .ok (.iconst 1, 1) := by decide +kernel
theorem dX6_product_82 : decode cX6_product 82 = .ok (.goto 13, 3) := by decide +kernel
theorem dX6_product_85 : decode cX6_product 85 = .ok (.iload 4, 2) := by decide +kernel
theorem dX6_product_87 : decode cX6_product 87 = .ok (.ifCond .eq 7, 3) := by decide +kernel
theorem dX6_product_90 : decode cX6_product 90 = .ok (.iconst 0, 1) := by decide +kernel
theorem dX6_product_91 : decode cX6_product 91 = .ok (.goto 4, 3) := by decide +kernel
theorem dX6_product_94 : decode cX6_product 94 = .ok (.iconst 2, 1) := by decide +kernel
theorem dX6_product_95 : decode cX6_product 95 = .ok (.invokevirtual 99, 3) := by decide +kernel
theorem dX6_product_98 : decode cX6_product 98 = .ok (.ifCond .ne 5, 3) := by decide +kernel
theorem dX6_product_101 : decode cX6_product 101 = .ok (.iconst 0, 1) := by decide +kernel
theorem dX6_product_102 : decode cX6_product 102 = .ok (.ireturn, 1) := by decide +kernel
theorem dX6_product_103 : decode cX6_product 103 = .ok (.aload_n 0, 1) := by decide +kernel
theorem dX6_product_104 : decode cX6_product 104 = .ok (.getfield 69, 3) := by decide +kernel
theorem dX6_product_107 : decode cX6_product 107 = .ok (.iload_n 1, 1) := by decide +kernel
theorem dX6_product_108 : decode cX6_product 108 = .ok (.iaload, 1) := by decide +kernel
theorem dX6_product_109 : decode cX6_product 109 = .ok (.aload_n 0, 1) := by decide +kernel
theorem dX6_product_110 : decode cX6_product 110 = .ok (.getfield 69, 3) := by decide +kernel
theorem dX6_product_113 : decode cX6_product 113 = .ok (.iload_n 2, 1) := by decide +kernel
theorem dX6_product_114 : decode cX6_product 114 = .ok (.iaload, 1) := by decide +kernel
theorem dX6_product_115 : decode cX6_product 115 = .ok (.imul, 1) := by decide +kernel
theorem dX6_product_116 : decode cX6_product 116 = .ok (.istore 5, 2) := by decide +kernel
theorem dX6_product_118 : decode cX6_product 118 = .ok (.aload_n 0, 1) := by decide +kernel
theorem dX6_product_119 : decode cX6_product 119 = .ok (.getfield 72, 3) := by decide +kernel
theorem dX6_product_122 : decode cX6_product 122 = .ok (.iload_n 1, 1) := by decide +kernel
theorem dX6_product_123 : decode cX6_product 123 = .ok (.iaload, 1) := by decide +kernel
theorem dX6_product_124 : decode cX6_product 124 = .ok (.aload_n 0, 1) := by decide +kernel
theorem dX6_product_125 : decode cX6_product 125 = .ok (.getfield 72, 3) := by decide +kernel
theorem dX6_product_128 : decode cX6_product 128 = .ok (.iload_n 2, 1) := by decide +kernel
theorem dX6_product_129 : decode cX6_product 129 = .ok (.iaload, 1) := by decide +kernel
theorem dX6_product_130 : decode cX6_product 130 = .ok (.imul, 1) := by decide +kernel
theorem dX6_product_131 : decode cX6_product 131 = .ok (.istore 6, 2) := by decide +kernel
theorem dX6_product_133 : decode cX6_product 133 = .ok (.iconst 0, 1) := by decide +kernel
theorem dX6_product_134 : decode cX6_product 134 = .ok (.istore 7, 2) := by decide +kernel
theorem dX6_product_136 : decode cX6_product 136 = .ok (.iconst 0, 1) := by decide +kernel
theorem dX6_product_137 : decode cX6_product 137 = .ok (.istore 8, 2) := by decide +kernel
theorem dX6_product_139 : decode cX6_product 139 = .ok (.iload 8, 2) := by decide +kernel
theorem dX6_product_141 : decode cX6_product 141 = .ok (.iload 5, 2) := by decide +kernel
theorem dX6_product_143 : decode cX6_product 143 = .ok (.if_icmp .ge 111, 3) := by decide +kernel
theorem dX6_product_146 : decode cX6_product 146 = .ok (.iconst 0, 1) := by decide +kernel
theorem dX6_product_147 : decode cX6_product 147 = .ok (.istore 9, 2) := by decide +kernel
theorem dX6_product_149 : decode cX6_product 149 = .ok (.iload 9, 2) := by decide +kernel
theorem dX6_product_151 : decode cX6_product 151 = .ok (.iload 6, 2) := by decide +kernel
theorem dX6_product_153 : decode cX6_product 153 = .ok (.if_icmp .ge 95, 3) := by decide +kernel
theorem dX6_product_156 : decode cX6_product 156 = .ok (.aload_n 0, 1) := by decide +kernel
theorem dX6_product_157 : decode cX6_product 157 = .ok (.getfield 75, 3) := by decide +kernel
theorem dX6_product_160 : decode cX6_product 160 = .ok (.iload_n 1, 1) := by decide +kernel
theorem dX6_product_161 : decode cX6_product 161 = .ok (.iaload, 1) := by decide +kernel
theorem dX6_product_162 : decode cX6_product 162 = .ok (.iload 8, 2) := by decide +kernel
theorem dX6_product_164 : decode cX6_product 164 = .ok (.aload_n 0, 1) := by decide +kernel
theorem dX6_product_165 : decode cX6_product 165 = .ok (.getfield 69, 3) := by decide +kernel
theorem dX6_product_168 : decode cX6_product 168 = .ok (.iload_n 2, 1) := by decide +kernel
theorem dX6_product_169 : decode cX6_product 169 = .ok (.iaload, 1) := by decide +kernel
theorem dX6_product_170 : decode cX6_product 170 = .ok (.idiv, 1) := by decide +kernel
theorem dX6_product_171 : decode cX6_product 171 = .ok (.iload 9, 2) := by decide +kernel
theorem dX6_product_173 : decode cX6_product 173 = .ok (.aload_n 0, 1) := by decide +kernel
theorem dX6_product_174 : decode cX6_product 174 = .ok (.getfield 72, 3) := by decide +kernel
theorem dX6_product_177 : decode cX6_product 177 = .ok (.iload_n 2, 1) := by decide +kernel
theorem dX6_product_178 : decode cX6_product 178 = .ok (.iaload, 1) := by decide +kernel
theorem dX6_product_179 : decode cX6_product 179 = .ok (.idiv, 1) := by decide +kernel
theorem dX6_product_180 : decode cX6_product 180 = .ok (.invokestatic 207, 3) := by decide +kernel
theorem dX6_product_183 : decode cX6_product 183 = .ok (.istore 10, 2) := by decide +kernel
theorem dX6_product_185 : decode cX6_product 185 = .ok (.aload_n 0, 1) := by decide +kernel
theorem dX6_product_186 : decode cX6_product 186 = .ok (.getfield 75, 3) := by decide +kernel
theorem dX6_product_189 : decode cX6_product 189 = .ok (.iload_n 2, 1) := by decide +kernel
theorem dX6_product_190 : decode cX6_product 190 = .ok (.iaload, 1) := by decide +kernel
theorem dX6_product_191 : decode cX6_product 191 = .ok (.iload 8, 2) := by decide +kernel
theorem dX6_product_193 : decode cX6_product 193 = .ok (.aload_n 0, 1) := by decide +kernel
theorem dX6_product_194 : decode cX6_product 194 = .ok (.getfield 69, 3) := by decide +kernel
theorem dX6_product_197 : decode cX6_product 197 = .ok (.iload_n 2, 1) := by decide +kernel
theorem dX6_product_198 : decode cX6_product 198 = .ok (.iaload, 1) := by decide +kernel
theorem dX6_product_199 : decode cX6_product 199 = .ok (.irem, 1) := by decide +kernel
theorem dX6_product_200 : decode cX6_product 200 = .ok (.iload 9, 2) := by decide +kernel
theorem dX6_product_202 : decode cX6_product 202 = .ok (.aload_n 0, 1) := by decide +kernel
theorem dX6_product_203 : decode cX6_product 203 = .ok (.getfield 72, 3) := by decide +kernel
theorem dX6_product_206 : decode cX6_product 206 = .ok (.iload_n 2, 1) := by decide +kernel
theorem dX6_product_207 : decode cX6_product 207 = .ok (.iaload, 1) := by decide +kernel
theorem dX6_product_208 : decode cX6_product 208 = .ok (.irem, 1) := by decide +kernel
theorem dX6_product_209 : decode cX6_product 209 = .ok (.invokestatic 207, 3) := by decide +kernel
theorem dX6_product_212 : decode cX6_product 212 = .ok (.istore 11, 2) := by decide +kernel
theorem dX6_product_214 : decode cX6_product 214 = .ok (.iload 7, 2) := by decide +kernel
theorem dX6_product_216 : decode cX6_product 216 = .ok (.iload 10, 2) := by decide +kernel
theorem dX6_product_218 : decode cX6_product 218 = .ok (.ifCond .eq 20, 3) := by decide +kernel
theorem dX6_product_221 : decode cX6_product 221 = .ok (.iload 11, 2) := by decide +kernel
theorem dX6_product_223 : decode cX6_product 223 = .ok (.ifCond .eq 15, 3) := by decide +kernel
theorem dX6_product_226 : decode cX6_product 226 = .ok (.iconst 1, 1) := by decide +kernel
theorem dX6_product_227 : decode cX6_product 227 = .ok (.iconst 4, 1) := by decide +kernel
theorem dX6_product_228 : decode cX6_product 228 = .ok (.iload 8, 2) := by decide +kernel
theorem dX6_product_230 : decode cX6_product 230 = .ok (.imul, 1) := by decide +kernel
theorem dX6_product_231 : decode cX6_product 231 = .ok (.iload 9, 2) := by decide +kernel
theorem dX6_product_233 : decode cX6_product 233 = .ok (.iadd, 1) := by decide +kernel
theorem dX6_product_234 : decode cX6_product 234 = .ok (.ishl, 1) := by decide +kernel
theorem dX6_product_235 : decode cX6_product 235 = .ok (.goto 4, 3) := by decide +kernel
theorem dX6_product_238 : decode cX6_product 238 = .ok (.iconst 0, 1) := by decide +kernel
theorem dX6_product_239 : decode cX6_product 239 = .ok (.ior, 1) := by decide +kernel
theorem dX6_product_240 : decode cX6_product 240 = .ok (.istore 7, 2) := by decide +kernel
theorem dX6_product_242 : decode cX6_product 242 = .ok (.iinc 9 1, 3) := by decide +kernel
theorem dX6_product_245 : decode cX6_product 245 = .ok (.goto (-96), 3) := by decide +kernel
theorem dX6_product_248 : decode cX6_product 248 = .ok (.iinc 8 1, 3) := by decide +kernel
theorem dX6_product_251 : decode cX6_product 251 = .ok (.goto (-112), 3) := by decide +kernel
theorem dX6_product_254 : decode cX6_product 254 = .ok (.aload_n 0, 1) := by decide +kernel
theorem dX6_product_255 : decode cX6_product 255 = .ok (.iload 5, 2) := by decide +kernel
theorem dX6_product_257 : decode cX6_product 257 = .ok (.iload 6, 2) := by decide +kernel
theorem dX6_product_259 : decode cX6_product 259 = .ok (.iload 7, 2) := by decide +kernel
theorem dX6_product_261 : decode cX6_product 261 = .ok (.invokevirtual 213, 3) := by decide +kernel
theorem dX6_product_264 : decode cX6_product 264 = .ok (.ireturn, 1) := by decide +kernel
theorem dX6_given_0 : decode cX6_given 0 = .ok (.iload_n 0, 1) := by decide +kernel
theorem dX6_given_1 : decode cX6_given 1 = .ok (.istore_n 3, 1) := by decide +kernel
theorem dX6_given_2 : decode cX6_given 2 = .ok (.iconst 0, 1) := by decide +kernel
theorem dX6_given_3 : decode cX6_given 3 = .ok (.istore 4, 2) := by decide +kernel
theorem dX6_given_5 : decode cX6_given 5 = .ok (.iload 4, 2) := by decide +kernel
theorem dX6_given_7 : decode cX6_given 7 = .ok (.iload_n 2, 1) := by decide +kernel
theorem dX6_given_8 : decode cX6_given 8 = .ok (.if_icmp .ge 13, 3) := by decide +kernel
theorem dX6_given_11 : decode cX6_given 11 = .ok (.iload_n 3, 1) := by decide +kernel
theorem dX6_given_12 : decode cX6_given 12 = .ok (.iload_n 1, 1) := by decide +kernel
theorem dX6_given_13 : decode cX6_given 13 = .ok (.idiv, 1) := by decide +kernel
theorem dX6_given_14 : decode cX6_given 14 = .ok (.istore_n 3, 1) := by decide +kernel
theorem dX6_given_15 : decode cX6_given 15 = .ok (.iinc 4 1, 3) := by decide +kernel
theorem dX6_given_18 : decode cX6_given 18 = .ok (.goto (-13), 3) := by decide +kernel
theorem dX6_given_21 : decode cX6_given 21 = .ok (.iload_n 3, 1) := by decide +kernel
theorem dX6_given_22 : decode cX6_given 22 = .ok (.iload_n 1, 1) := by decide +kernel
theorem dX6_given_23 : decode cX6_given 23 = .ok (.irem, 1) := by decide +kernel
theorem dX6_given_24 : decode cX6_given 24 = .ok (.ireturn, 1) := by decide +kernel
set_option maxRecDepth 20000 in
theorem ggX6_served_X6_isSolved : GoodIn wsX6_served wsX6_isSolved := goodIn_r _ [7] rfl (by decide +kernel)
set_option maxRecDepth 20000 in
theorem gX6_served_X6_isSolved : GoodIn wsX6_served (va_wsS RX6 207 yX6_isSolved wsX6_isSolved) := goodIn_app (goodIn_of _ (by decide +kernel)) ggX6_served_X6_isSolved
set_option maxRecDepth 20000 in
theorem ggX6_served_X6_given : GoodIn wsX6_served wsX6_given := goodIn_r _ [10] rfl (by decide +kernel)
set_option maxRecDepth 20000 in
theorem gX6_served_X6_given : GoodIn wsX6_served (va_wsS RX6 220 yX6_given wsX6_given) := goodIn_app (goodIn_of _ (by decide +kernel)) ggX6_served_X6_given
theorem dX6_served_0 : decode cX6_served 0 = .ok (.iconst (-1), 1) := by decide +kernel
theorem dX6_served_1 : decode cX6_served 1 = .ok (.istore 5, 2) := by decide +kernel
theorem dX6_served_3 : decode cX6_served 3 = .ok (.aload_n 0, 1) := by decide +kernel
theorem dX6_served_4 : decode cX6_served 4 = .ok (.getfield 69, 3) := by decide +kernel
theorem dX6_served_7 : decode cX6_served 7 = .ok (.iload_n 2, 1) := by decide +kernel
theorem dX6_served_8 : decode cX6_served 8 = .ok (.iaload, 1) := by decide +kernel
theorem dX6_served_9 : decode cX6_served 9 = .ok (.iconst 1, 1) := by decide +kernel
theorem dX6_served_10 : decode cX6_served 10 = .ok (.isub, 1) := by decide +kernel
theorem dX6_served_11 : decode cX6_served 11 = .ok (.istore 6, 2) := by decide +kernel
theorem dX6_served_13 : decode cX6_served 13 = .ok (.iload 6, 2) := by decide +kernel
theorem dX6_served_15 : decode cX6_served 15 = .ok (.ifCond .lt 100, 3) := by decide +kernel
theorem dX6_served_18 : decode cX6_served 18 = .ok (.iconst 1, 1) := by decide +kernel
theorem dX6_served_19 : decode cX6_served 19 = .ok (.istore 7, 2) := by decide +kernel
theorem dX6_served_21 : decode cX6_served 21 = .ok (.iconst 0, 1) := by decide +kernel
theorem dX6_served_22 : decode cX6_served 22 = .ok (.istore 8, 2) := by decide +kernel
theorem dX6_served_24 : decode cX6_served 24 = .ok (.iload 8, 2) := by decide +kernel
theorem dX6_served_26 : decode cX6_served 26 = .ok (.aload_n 0, 1) := by decide +kernel
theorem dX6_served_27 : decode cX6_served 27 = .ok (.getfield 72, 3) := by decide +kernel
theorem dX6_served_30 : decode cX6_served 30 = .ok (.iload_n 2, 1) := by decide +kernel
theorem dX6_served_31 : decode cX6_served 31 = .ok (.iaload, 1) := by decide +kernel
theorem dX6_served_32 : decode cX6_served 32 = .ok (.if_icmp .ge 63, 3) := by decide +kernel
theorem dX6_served_35 : decode cX6_served 35 = .ok (.iload 7, 2) := by decide +kernel
theorem dX6_served_37 : decode cX6_served 37 = .ok (.ifCond .eq 49, 3) := by decide +kernel
theorem dX6_served_40 : decode cX6_served 40 = .ok (.aload_n 0, 1) := by decide +kernel
theorem dX6_served_41 : decode cX6_served 41 = .ok (.getfield 75, 3) := by decide +kernel
theorem dX6_served_44 : decode cX6_served 44 = .ok (.iload_n 2, 1) := by decide +kernel
theorem dX6_served_45 : decode cX6_served 45 = .ok (.iaload, 1) := by decide +kernel
theorem dX6_served_46 : decode cX6_served 46 = .ok (.iload 6, 2) := by decide +kernel
theorem dX6_served_48 : decode cX6_served 48 = .ok (.iload 8, 2) := by decide +kernel
theorem dX6_served_50 : decode cX6_served 50 = .ok (.invokestatic 207, 3) := by decide +kernel
theorem dX6_served_53 : decode cX6_served 53 = .ok (.ifCond .eq 29, 3) := by decide +kernel
theorem dX6_served_56 : decode cX6_served 56 = .ok (.aload_n 0, 1) := by decide +kernel
theorem dX6_served_57 : decode cX6_served 57 = .ok (.getfield 75, 3) := by decide +kernel
theorem dX6_served_60 : decode cX6_served 60 = .ok (.iload_n 1, 1) := by decide +kernel
theorem dX6_served_61 : decode cX6_served 61 = .ok (.iaload, 1) := by decide +kernel
theorem dX6_served_62 : decode cX6_served 62 = .ok (.iload 4, 2) := by decide +kernel
theorem dX6_served_64 : decode cX6_served 64 = .ok (.iload_n 3, 1) := by decide +kernel
theorem dX6_served_65 : decode cX6_served 65 = .ok (.aload_n 0, 1) := by decide +kernel
theorem dX6_served_66 : decode cX6_served 66 = .ok (.getfield 72, 3) := by decide +kernel
theorem dX6_served_69 : decode cX6_served 69 = .ok (.iload_n 1, 1) := by decide +kernel
theorem dX6_served_70 : decode cX6_served 70 = .ok (.iaload, 1) := by decide +kernel
theorem dX6_served_71 : decode cX6_served 71 = .ok (.iload 8, 2) := by decide +kernel
theorem dX6_served_73 : decode cX6_served 73 = .ok (.invokestatic 220, 3) := by decide +kernel
theorem dX6_served_76 : decode cX6_served 76 = .ok (.invokestatic 207, 3) := by decide +kernel
theorem dX6_served_79 : decode cX6_served 79 = .ok (.ifCond .eq 7, 3) := by decide +kernel
theorem dX6_served_82 : decode cX6_served 82 = .ok (.iconst 1, 1) := by decide +kernel
theorem dX6_served_83 : decode cX6_served 83 = .ok (.goto 4, 3) := by decide +kernel
theorem dX6_served_86 : decode cX6_served 86 = .ok (.iconst 0, 1) := by decide +kernel
theorem dX6_served_87 : decode cX6_served 87 = .ok (.istore 7, 2) := by decide +kernel
theorem dX6_served_89 : decode cX6_served 89 = .ok (.iinc 8 1, 3) := by decide +kernel
theorem dX6_served_92 : decode cX6_served 92 = .ok (.goto (-68), 3) := by decide +kernel
theorem dX6_served_95 : decode cX6_served 95 = .ok (.iload 7, 2) := by decide +kernel
theorem dX6_served_97 : decode cX6_served 97 = .ok (.ifCond .eq 8, 3) := by decide +kernel
theorem dX6_served_100 : decode cX6_served 100 = .ok (.iload 6, 2) := by decide +kernel
theorem dX6_served_102 : decode cX6_served 102 = .ok (.goto 5, 3) := by decide +kernel
theorem dX6_served_105 : decode cX6_served 105 = .ok (.iload 5, 2) := by decide +kernel
theorem dX6_served_107 : decode cX6_served 107 = .ok (.istore 5, 2) := by decide +kernel
theorem dX6_served_109 : decode cX6_served 109 = .ok (.iinc 6 (-1), 3) := by decide +kernel
theorem dX6_served_112 : decode cX6_served 112 = .ok (.goto (-99), 3) := by decide +kernel
