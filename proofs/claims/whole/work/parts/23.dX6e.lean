theorem dX6_isSo_37 : decode cX6_isSo 37 = .ok (.invokestatic 85, 3) := by decide +kernel
theorem dX6_isSo_40 : decode cX6_isSo 40 = .ok (.ifCond .eq 7, 3) := by decide +kernel
theorem dX6_isSo_43 : decode cX6_isSo 43 = .ok (.iconst 1, 1) := by decide +kernel
theorem dX6_isSo_44 : decode cX6_isSo 44 = .ok (.goto 4, 3) := by decide +kernel
theorem dX6_isSo_47 : decode cX6_isSo 47 = .ok (.iconst 0, 1) := by decide +kernel
theorem dX6_isSo_48 : decode cX6_isSo 48 = .ok (.istore 5, 2) := by decide +kernel
theorem dX6_isSo_50 : decode cX6_isSo 50 = .ok (.aload_n 0, 1) := by decide +kernel
theorem dX6_isSo_51 : decode cX6_isSo 51 = .ok (.iload 5, 2) := by decide +kernel
theorem dX6_isSo_53 : decode cX6_isSo 53 = .ok (.ifCond .ne 7, 3) := by decide +kernel
theorem dX6_isSo_56 : decode cX6_isSo 56 = .ok (.iconst 1, 1) := by decide +kernel
theorem dX6_isSo_57 : decode cX6_isSo 57 = .ok (.goto 24, 3) := by decide +kernel
theorem dX6_isSo_60 : decode cX6_isSo 60 = .ok (.aload_n 0, 1) := by decide +kernel
theorem dX6_isSo_61 : decode cX6_isSo 61 = .ok (.invokevirtual 145, 3) := by decide +kernel
theorem dX6_isSo_64 : decode cX6_isSo 64 = .ok (.ifCond .eq 16, 3) := by decide +kernel
theorem dX6_isSo_67 : decode cX6_isSo 67 = .ok (.aload_n 0, 1) := by decide +kernel
theorem dX6_isSo_68 : decode cX6_isSo 68 = .ok (.invokevirtual 162, 3) := by decide +kernel
theorem dX6_isSo_71 : decode cX6_isSo 71 = .ok (.bipush 6, 2) := by decide +kernel
theorem dX6_isSo_73 : decode cX6_isSo 73 = .ok (.if_icmp .gt 7, 3) := by decide +kernel
theorem dX6_isSo_76 : decode cX6_isSo 76 = .ok (.iconst 0, 1) := by decide +kernel
theorem dX6_isSo_77 : decode cX6_isSo 77 = .ok (.goto 4, 3) := by decide +kernel
theorem dX6_isSo_80 : decode cX6_isSo 80 = .ok (.iconst 2, 1) := by decide +kernel
theorem dX6_isSo_81 : decode cX6_isSo 81 = .ok (.invokevirtual 99, 3) := by decide +kernel
theorem dX6_isSo_84 : decode cX6_isSo 84 = .ok (.ifCond .ne 5, 3) := by decide +kernel
theorem dX6_isSo_87 : decode cX6_isSo 87 = .ok (.iconst 0, 1) := by decide +kernel
theorem dX6_isSo_88 : decode cX6_isSo 88 = .ok (.ireturn, 1) := by decide +kernel
theorem dX6_isSo_89 : decode cX6_isSo 89 = .ok (.aload_n 0, 1) := by decide +kernel
theorem dX6_isSo_90 : decode cX6_isSo 90 = .ok (.iload_n 1, 1) := by decide +kernel
theorem dX6_isSo_91 : decode cX6_isSo 91 = .ok (.invokevirtual 165, 3) := by decide +kernel
theorem dX6_isSo_94 : decode cX6_isSo 94 = .ok (.aload_n 0, 1) := by decide +kernel
theorem dX6_isSo_95 : decode cX6_isSo 95 = .ok (.getfield 47, 3) := by decide +kernel
theorem dX6_isSo_98 : decode cX6_isSo 98 = .ok (.bipush 125, 2) := by decide +kernel
theorem dX6_isSo_100 : decode cX6_isSo 100 = .ok (.aload_n 0, 1) := by decide +kernel
theorem dX6_isSo_101 : decode cX6_isSo 101 = .ok (.getfield 103, 3) := by decide +kernel
theorem dX6_isSo_104 : decode cX6_isSo 104 = .ok (.iconst 1, 1) := by decide +kernel
theorem dX6_isSo_105 : decode cX6_isSo 105 = .ok (.isub, 1) := by decide +kernel
theorem dX6_isSo_106 : decode cX6_isSo 106 = .ok (.imul, 1) := by decide +kernel
theorem dX6_isSo_107 : decode cX6_isSo 107 = .ok (.iload_n 2, 1) := by decide +kernel
theorem dX6_isSo_108 : decode cX6_isSo 108 = .ok (.iadd, 1) := by decide +kernel
theorem dX6_isSo_109 : decode cX6_isSo 109 = .ok (.iconst 5, 1) := by decide +kernel
theorem dX6_isSo_110 : decode cX6_isSo 110 = .ok (.iload_n 3, 1) := by decide +kernel
theorem dX6_isSo_111 : decode cX6_isSo 111 = .ok (.imul, 1) := by decide +kernel
theorem dX6_isSo_112 : decode cX6_isSo 112 = .ok (.iadd, 1) := by decide +kernel
theorem dX6_isSo_113 : decode cX6_isSo 113 = .ok (.bipush 25, 2) := by decide +kernel
theorem dX6_isSo_115 : decode cX6_isSo 115 = .ok (.iload 4, 2) := by decide +kernel
theorem dX6_isSo_117 : decode cX6_isSo 117 = .ok (.imul, 1) := by decide +kernel
theorem dX6_isSo_118 : decode cX6_isSo 118 = .ok (.iadd, 1) := by decide +kernel
theorem dX6_isSo_119 : decode cX6_isSo 119 = .ok (.baload, 1) := by decide +kernel
theorem dX6_isSo_120 : decode cX6_isSo 120 = .ok (.ireturn, 1) := by decide +kernel
set_option maxRecDepth 20000 in
theorem ggX6_principle_X6_isFormula : GoodIn wsX6_principle wsX6_isFormula := goodIn_r _ [13, 8, 14, 15, 16, 17, 12, 18, 2, 19, 20, 21, 22, 23, 24, 25, 26, 27, 28, 29, 30, 31, 32, 33, 34, 35, 36, 37, 38, 39, 40, 41, 42, 43, 44, 45, 46, 47, 48, 49, 50, 51, 52, 53, 54, 55, 56, 57, 5, 7, 1, 58, 59, 60, 61, 62, 63, 64, 65, 66, 67, 68, 74, 75, 76, 77, 78, 79, 80, 81, 82, 83, 84, 85, 86, 87, 88, 89, 90, 91, 92, 93, 94, 95, 96, 97, 98, 99, 100, 101, 102, 103, 104, 105] rfl (by decide +kernel)
set_option maxRecDepth 20000 in
theorem gX6_principle_X6_isFormula : GoodIn wsX6_principle (wsV RX6 145 RX6 yX6_isFormula wsX6_isFormula) := goodIn_app (goodIn_of _ (by decide +kernel)) ggX6_principle_X6_isFormula
set_option maxRecDepth 20000 in
theorem ggX6_principle_X6_goesWell : GoodIn wsX6_principle wsX6_goesWell := goodIn_r _ [72, 73, 74, 75, 76, 77, 78, 79, 80, 81, 82, 83, 84, 85, 86, 87, 88, 89, 90, 91, 92, 93, 94, 95, 96, 97, 98, 99, 100, 101, 102, 103, 104, 105] rfl (by decide +kernel)
set_option maxRecDepth 20000 in
theorem gX6_principle_X6_goesWell : GoodIn wsX6_principle (wsV RX6 99 RX6 yX6_goesWell wsX6_goesWell) := goodIn_app (goodIn_of _ (by decide +kernel)) ggX6_principle_X6_goesWell
theorem dX6_principle_0 : decode cX6_principle 0 = .ok (.aload_n 0, 1) := by decide +kernel
theorem dX6_principle_1 : decode cX6_principle 1 = .ok (.invokevirtual 145, 3) := by decide +kernel
theorem dX6_principle_4 : decode cX6_principle 4 = .ok (.istore_n 1, 1) := by decide +kernel
theorem dX6_principle_5 : decode cX6_principle 5 = .ok (.aload_n 0, 1) := by decide +kernel
theorem dX6_principle_6 : decode cX6_principle 6 = .ok (.iload_n 1, 1) := by decide +kernel
theorem dX6_principle_7 : decode cX6_principle 7 = .ok (.ifCond .eq 30, 3) := by decide +kernel
theorem dX6_principle_10 : decode cX6_principle 10 = .ok (.aload_n 0, 1) := by decide +kernel
theorem dX6_principle_11 : decode cX6_principle 11 = .ok (.getfield 35, 3) := by decide +kernel
theorem dX6_principle_14 : decode cX6_principle 14 = .ok (.aload_n 0, 1) := by decide +kernel
theorem dX6_principle_15 : decode cX6_principle 15 = .ok (.getfield 103, 3) := by decide +kernel
theorem dX6_principle_18 : decode cX6_principle 18 = .ok (.iconst 1, 1) := by decide +kernel
theorem dX6_principle_19 : decode cX6_principle 19 = .ok (.isub, 1) := by decide +kernel
theorem dX6_principle_20 : decode cX6_principle 20 = .ok (.iaload, 1) := by decide +kernel
theorem dX6_principle_21 : decode cX6_principle 21 = .ok (.ifCond .ne 16, 3) := by decide +kernel
theorem dX6_principle_24 : decode cX6_principle 24 = .ok (.aload_n 0, 1) := by decide +kernel
theorem dX6_principle_25 : decode cX6_principle 25 = .ok (.getfield 168, 3) := by decide +kernel
theorem dX6_principle_28 : decode cX6_principle 28 = .ok (.bipush 10, 2) := by decide +kernel
theorem dX6_principle_30 : decode cX6_principle 30 = .ok (.if_icmp .ge 7, 3) := by decide +kernel
theorem dX6_principle_33 : decode cX6_principle 33 = .ok (.iconst 0, 1) := by decide +kernel
theorem dX6_principle_34 : decode cX6_principle 34 = .ok (.goto 4, 3) := by decide +kernel
theorem dX6_principle_37 : decode cX6_principle 37 = .ok (.iconst 1, 1) := by decide +kernel
theorem dX6_principle_38 : decode cX6_principle 38 = .ok (.invokevirtual 99, 3) := by decide +kernel
theorem dX6_principle_41 : decode cX6_principle 41 = .ok (.ifCond .ne 5, 3) := by decide +kernel
theorem dX6_principle_44 : decode cX6_principle 44 = .ok (.iconst 0, 1) := by decide +kernel
theorem dX6_principle_45 : decode cX6_principle 45 = .ok (.ireturn, 1) := by decide +kernel
theorem dX6_principle_46 : decode cX6_principle 46 = .ok (.aload_n 0, 1) := by decide +kernel
theorem dX6_principle_47 : decode cX6_principle 47 = .ok (.getfield 51, 3) := by decide +kernel
theorem dX6_principle_50 : decode cX6_principle 50 = .ok (.aload_n 0, 1) := by decide +kernel
theorem dX6_principle_51 : decode cX6_principle 51 = .ok (.getfield 168, 3) := by decide +kernel
theorem dX6_principle_54 : decode cX6_principle 54 = .ok (.aload_n 0, 1) := by decide +kernel
theorem dX6_principle_55 : decode cX6_principle 55 = .ok (.getfield 29, 3) := by decide +kernel
theorem dX6_principle_58 : decode cX6_principle 58 = .ok (.aload_n 0, 1) := by decide +kernel
theorem dX6_principle_59 : decode cX6_principle 59 = .ok (.getfield 103, 3) := by decide +kernel
theorem dX6_principle_62 : decode cX6_principle 62 = .ok (.iconst 1, 1) := by decide +kernel
theorem dX6_principle_63 : decode cX6_principle 63 = .ok (.isub, 1) := by decide +kernel
theorem dX6_principle_64 : decode cX6_principle 64 = .ok (.iaload, 1) := by decide +kernel
theorem dX6_principle_65 : decode cX6_principle 65 = .ok (.iastore, 1) := by decide +kernel
theorem dX6_principle_66 : decode cX6_principle 66 = .ok (.aload_n 0, 1) := by decide +kernel
theorem dX6_principle_67 : decode cX6_principle 67 = .ok (.getfield 54, 3) := by decide +kernel
theorem dX6_principle_70 : decode cX6_principle 70 = .ok (.aload_n 0, 1) := by decide +kernel
theorem dX6_principle_71 : decode cX6_principle 71 = .ok (.getfield 168, 3) := by decide +kernel
theorem dX6_principle_74 : decode cX6_principle 74 = .ok (.aload_n 0, 1) := by decide +kernel
theorem dX6_principle_75 : decode cX6_principle 75 = .ok (.getfield 32, 3) := by decide +kernel
theorem dX6_principle_78 : decode cX6_principle 78 = .ok (.aload_n 0, 1) := by decide +kernel
theorem dX6_principle_79 : decode cX6_principle 79 = .ok (.getfield 103, 3) := by decide +kernel
theorem dX6_principle_82 : decode cX6_principle 82 = .ok (.iconst 1, 1) := by decide +kernel
theorem dX6_principle_83 : decode cX6_principle 83 = .ok (.isub, 1) := by decide +kernel
theorem dX6_principle_84 : decode cX6_principle 84 = .ok (.iaload, 1) := by decide +kernel
theorem dX6_principle_85 : decode cX6_principle 85 = .ok (.iastore, 1) := by decide +kernel
theorem dX6_principle_86 : decode cX6_principle 86 = .ok (.aload_n 0, 1) := by decide +kernel
theorem dX6_principle_87 : decode cX6_principle 87 = .ok (.iconst 0, 1) := by decide +kernel
theorem dX6_principle_88 : decode cX6_principle 88 = .ok (.putfield 96, 3) := by decide +kernel
theorem dX6_principle_91 : decode cX6_principle 91 = .ok (.aload_n 0, 1) := by decide +kernel
theorem dX6_principle_92 : decode cX6_principle 92 = .ok (.dup, 1) := by decide +kernel
theorem dX6_principle_93 : decode cX6_principle 93 = .ok (.getfield 168, 3) := by decide +kernel
theorem dX6_principle_96 : decode cX6_principle 96 = .ok (.iconst 1, 1) := by decide +kernel
theorem dX6_principle_97 : decode cX6_principle 97 = .ok (.iadd, 1) := by decide +kernel
theorem dX6_principle_98 : decode cX6_principle 98 = .ok (.putfield 168, 3) := by decide +kernel
theorem dX6_principle_101 : decode cX6_principle 101 = .ok (.aload_n 0, 1) := by decide +kernel
theorem dX6_principle_102 : decode cX6_principle 102 = .ok (.getfield 168, 3) := by decide +kernel
theorem dX6_principle_105 : decode cX6_principle 105 = .ok (.iconst 1, 1) := by decide +kernel
theorem dX6_principle_106 : decode cX6_principle 106 = .ok (.isub, 1) := by decide +kernel
theorem dX6_principle_107 : decode cX6_principle 107 = .ok (.ireturn, 1) := by decide +kernel
set_option maxRecDepth 20000 in
theorem ggX6_isPrinciple_X6_in : GoodIn wsX6_isPrinciple wsX6_in := goodIn_r _ [5] rfl (by decide +kernel)
set_option maxRecDepth 20000 in
theorem gX6_isPrinciple_X6_in : GoodIn wsX6_isPrinciple (va_wsS RX6 85 yX6_in wsX6_in) := goodIn_app (goodIn_of _ (by decide +kernel)) ggX6_isPrinciple_X6_in
theorem dX6_isPrinciple_0 : decode cX6_isPrinciple 0 = .ok (.iload_n 1, 1) := by decide +kernel
theorem dX6_isPrinciple_1 : decode cX6_isPrinciple 1 = .ok (.iconst 0, 1) := by decide +kernel
theorem dX6_isPrinciple_2 : decode cX6_isPrinciple 2 = .ok (.aload_n 0, 1) := by decide +kernel
theorem dX6_isPrinciple_3 : decode cX6_isPrinciple 3 = .ok (.getfield 168, 3) := by decide +kernel
theorem dX6_isPrinciple_6 : decode cX6_isPrinciple 6 = .ok (.iconst 1, 1) := by decide +kernel
theorem dX6_isPrinciple_7 : decode cX6_isPrinciple 7 = .ok (.isub, 1) := by decide +kernel
theorem dX6_isPrinciple_8 : decode cX6_isPrinciple 8 = .ok (.invokestatic 85, 3) := by decide +kernel
theorem dX6_isPrinciple_11 : decode cX6_isPrinciple 11 = .ok (.ireturn, 1) := by decide +kernel
set_option maxRecDepth 20000 in
theorem ggX6_isSet_X6_in : GoodIn wsX6_isSet wsX6_in := goodIn_r _ [5] rfl (by decide +kernel)
set_option maxRecDepth 20000 in
theorem gX6_isSet_X6_in : GoodIn wsX6_isSet (va_wsS RX6 85 yX6_in wsX6_in) := goodIn_app (goodIn_of _ (by decide +kernel)) ggX6_isSet_X6_in
theorem dX6_isSet_0 : decode cX6_isSet 0 = .ok (.iload_n 1, 1) := by decide +kernel
theorem dX6_isSet_1 : decode cX6_isSet 1 = .ok (.iconst 0, 1) := by decide +kernel
theorem dX6_isSet_2 : decode cX6_isSet 2 = .ok (.iconst 1, 1) := by decide +kernel
theorem dX6_isSet_3 : decode cX6_isSet 3 = .ok (.aload_n 0, 1) := by decide +kernel
theorem dX6_isSet_4 : decode cX6_isSet 4 = .ok (.getfield 168, 3) := by decide +kernel
theorem dX6_isSet_7 : decode cX6_isSet 7 = .ok (.ishl, 1) := by decide +kernel
theorem dX6_isSet_8 : decode cX6_isSet 8 = .ok (.iconst 1, 1) := by decide +kernel
theorem dX6_isSet_9 : decode cX6_isSet 9 = .ok (.isub, 1) := by decide +kernel
theorem dX6_isSet_10 : decode cX6_isSet 10 = .ok (.invokestatic 85, 3) := by decide +kernel
theorem dX6_isSet_13 : decode cX6_isSet 13 = .ok (.ireturn, 1) := by decide +kernel
theorem dX6_breaks_0 : decode cX6_breaks 0 = .ok (.iload_n 1, 1) := by decide +kernel
theorem dX6_breaks_1 : decode cX6_breaks 1 = .ok (.iload_n 0, 1) := by decide +kernel
theorem dX6_breaks_2 : decode cX6_breaks 2 = .ok (.iconst (-1), 1) := by decide +kernel
theorem dX6_breaks_3 : decode cX6_breaks 3 = .ok (.ixor, 1) := by decide +kernel
theorem dX6_breaks_4 : decode cX6_breaks 4 = .ok (.iand, 1) := by decide +kernel
theorem dX6_breaks_5 : decode cX6_breaks 5 = .ok (.ifCond .ne 15, 3) := by decide +kernel
theorem dX6_breaks_8 : decode cX6_breaks 8 = .ok (.iload_n 0, 1) := by decide +kernel
theorem dX6_breaks_9 : decode cX6_breaks 9 = .ok (.iload_n 2, 1) := by decide +kernel
theorem dX6_breaks_10 : decode cX6_breaks 10 = .ok (.ishr, 1) := by decide +kernel
theorem dX6_breaks_11 : decode cX6_breaks 11 = .ok (.iconst 1, 1) := by decide +kernel
theorem dX6_breaks_12 : decode cX6_breaks 12 = .ok (.iand, 1) := by decide +kernel
theorem dX6_breaks_13 : decode cX6_breaks 13 = .ok (.ifCond .ne 7, 3) := by decide +kernel
theorem dX6_breaks_16 : decode cX6_breaks 16 = .ok (.iconst 1, 1) := by decide +kernel
theorem dX6_breaks_17 : decode cX6_breaks 17 = .ok (.goto 4, 3) := by decide +kernel
theorem dX6_breaks_20 : decode cX6_breaks 20 = .ok (.iconst 0, 1) := by decide +kernel
theorem dX6_breaks_21 : decode cX6_breaks 21 = .ok (.ireturn, 1) := by decide +kernel
set_option maxRecDepth 20000 in
theorem ggX6_rule_X6_isPrinciple : GoodIn wsX6_rule wsX6_isPrinciple := goodIn_r _ [10, 11, 12, 13, 9, 14, 27, 28, 29, 30, 31, 32, 33, 34, 35, 36, 37, 38, 39, 40, 41, 42, 43, 44, 45, 46, 47, 48, 49, 50, 51, 52, 53, 54, 55, 56, 57, 58] rfl (by decide +kernel)
set_option maxRecDepth 20000 in
theorem gX6_rule_X6_isPrinciple : GoodIn wsX6_rule (wsV RX6 171 RX6 yX6_isPrinciple wsX6_isPrinciple) := goodIn_app (goodIn_of _ (by decide +kernel)) ggX6_rule_X6_isPrinciple
set_option maxRecDepth 20000 in
theorem ggX6_rule_X6_isSet : GoodIn wsX6_rule wsX6_isSet := goodIn_r _ [18, 11, 12, 13, 9, 14, 27, 28, 29, 30, 31, 32, 33, 34, 35, 36, 37, 38, 39, 40, 41, 42, 43, 44, 45, 46, 47, 48, 49, 50, 51, 52, 53, 54, 55, 56, 57, 58] rfl (by decide +kernel)
set_option maxRecDepth 20000 in
theorem gX6_rule_X6_isSet : GoodIn wsX6_rule (wsV RX6 174 RX6 yX6_isSet wsX6_isSet) := goodIn_app (goodIn_of _ (by decide +kernel)) ggX6_rule_X6_isSet
set_option maxRecDepth 20000 in
theorem ggX6_rule_X6_breaks : GoodIn wsX6_rule wsX6_breaks := goodIn_r _ [21] rfl (by decide +kernel)
set_option maxRecDepth 20000 in
theorem gX6_rule_X6_breaks : GoodIn wsX6_rule (va_wsS RX6 183 yX6_breaks wsX6_breaks) := goodIn_app (goodIn_of _ (by decide +kernel)) ggX6_rule_X6_breaks
set_option maxRecDepth 20000 in
theorem ggX6_rule_X6_goesWell : GoodIn wsX6_rule wsX6_goesWell := goodIn_r _ [25, 26, 27, 28, 29, 30, 31, 32, 33, 34, 35, 36, 37, 38, 39, 40, 41, 42, 43, 44, 45, 46, 47, 48, 49, 50, 51, 52, 53, 54, 55, 56, 57, 58] rfl (by decide +kernel)
set_option maxRecDepth 20000 in
theorem gX6_rule_X6_goesWell : GoodIn wsX6_rule (wsV RX6 99 RX6 yX6_goesWell wsX6_goesWell) := goodIn_app (goodIn_of _ (by decide +kernel)) ggX6_rule_X6_goesWell
theorem dX6_rule_0 : decode cX6_rule 0 = .ok (.aload_n 0, 1) := by decide +kernel
theorem dX6_rule_1 : decode cX6_rule 1 = .ok (.iload_n 2, 1) := by decide +kernel
theorem dX6_rule_2 : decode cX6_rule 2 = .ok (.invokevirtual 171, 3) := by decide +kernel
theorem dX6_rule_5 : decode cX6_rule 5 = .ok (.istore_n 3, 1) := by decide +kernel
theorem dX6_rule_6 : decode cX6_rule 6 = .ok (.iload_n 3, 1) := by decide +kernel
theorem dX6_rule_7 : decode cX6_rule 7 = .ok (.ifCond .eq 23, 3) := by decide +kernel
theorem dX6_rule_10 : decode cX6_rule 10 = .ok (.aload_n 0, 1) := by decide +kernel
theorem dX6_rule_11 : decode cX6_rule 11 = .ok (.iload_n 1, 1) := by decide +kernel
theorem dX6_rule_12 : decode cX6_rule 12 = .ok (.invokevirtual 174, 3) := by decide +kernel
theorem dX6_rule_15 : decode cX6_rule 15 = .ok (.ifCond .eq 15, 3) := by decide +kernel
theorem dX6_rule_18 : decode cX6_rule 18 = .ok (.iload_n 1, 1) := by decide +kernel
theorem dX6_rule_19 : decode cX6_rule 19 = .ok (.iload_n 2, 1) := by decide +kernel
theorem dX6_rule_20 : decode cX6_rule 20 = .ok (.ishr, 1) := by decide +kernel
theorem dX6_rule_21 : decode cX6_rule 21 = .ok (.iconst 1, 1) := by decide +kernel
theorem dX6_rule_22 : decode cX6_rule 22 = .ok (.iand, 1) := by decide +kernel
theorem dX6_rule_23 : decode cX6_rule 23 = .ok (.ifCond .ne 7, 3) := by decide +kernel
theorem dX6_rule_26 : decode cX6_rule 26 = .ok (.iconst 1, 1) := by decide +kernel
theorem dX6_rule_27 : decode cX6_rule 27 = .ok (.goto 4, 3) := by decide +kernel
theorem dX6_rule_30 : decode cX6_rule 30 = .ok (.iconst 0, 1) := by decide +kernel
theorem dX6_rule_31 : decode cX6_rule 31 = .ok (.istore 4, 2) := by decide +kernel
theorem dX6_rule_33 : decode cX6_rule 33 = .ok (.aload_n 0, 1) := by decide +kernel
theorem dX6_rule_34 : decode cX6_rule 34 = .ok (.getfield 177, 3) := by decide +kernel
theorem dX6_rule_37 : decode cX6_rule 37 = .ok (.bipush 30, 2) := by decide +kernel
theorem dX6_rule_39 : decode cX6_rule 39 = .ok (.if_icmp .ge 7, 3) := by decide +kernel
theorem dX6_rule_42 : decode cX6_rule 42 = .ok (.iconst 1, 1) := by decide +kernel
theorem dX6_rule_43 : decode cX6_rule 43 = .ok (.goto 4, 3) := by decide +kernel
theorem dX6_rule_46 : decode cX6_rule 46 = .ok (.iconst 0, 1) := by decide +kernel
theorem dX6_rule_47 : decode cX6_rule 47 = .ok (.istore 5, 2) := by decide +kernel
theorem dX6_rule_49 : decode cX6_rule 49 = .ok (.iconst 0, 1) := by decide +kernel
theorem dX6_rule_50 : decode cX6_rule 50 = .ok (.istore 6, 2) := by decide +kernel
theorem dX6_rule_52 : decode cX6_rule 52 = .ok (.iload 6, 2) := by decide +kernel
theorem dX6_rule_54 : decode cX6_rule 54 = .ok (.aload_n 0, 1) := by decide +kernel
theorem dX6_rule_55 : decode cX6_rule 55 = .ok (.getfield 180, 3) := by decide +kernel
theorem dX6_rule_58 : decode cX6_rule 58 = .ok (.if_icmp .ge 41, 3) := by decide +kernel
theorem dX6_rule_61 : decode cX6_rule 61 = .ok (.iload 4, 2) := by decide +kernel
theorem dX6_rule_63 : decode cX6_rule 63 = .ok (.ifCond .eq 36, 3) := by decide +kernel
theorem dX6_rule_66 : decode cX6_rule 66 = .ok (.iload 5, 2) := by decide +kernel
theorem dX6_rule_68 : decode cX6_rule 68 = .ok (.ifCond .eq 22, 3) := by decide +kernel
theorem dX6_rule_71 : decode cX6_rule 71 = .ok (.aload_n 0, 1) := by decide +kernel
theorem dX6_rule_72 : decode cX6_rule 72 = .ok (.getfield 63, 3) := by decide +kernel
theorem dX6_rule_75 : decode cX6_rule 75 = .ok (.iload 6, 2) := by decide +kernel
theorem dX6_rule_77 : decode cX6_rule 77 = .ok (.iaload, 1) := by decide +kernel
theorem dX6_rule_78 : decode cX6_rule 78 = .ok (.iload_n 1, 1) := by decide +kernel
theorem dX6_rule_79 : decode cX6_rule 79 = .ok (.iload_n 2, 1) := by decide +kernel
theorem dX6_rule_80 : decode cX6_rule 80 = .ok (.invokestatic 183, 3) := by decide +kernel
theorem dX6_rule_83 : decode cX6_rule 83 = .ok (.ifCond .ne 7, 3) := by decide +kernel
theorem dX6_rule_86 : decode cX6_rule 86 = .ok (.iconst 1, 1) := by decide +kernel
theorem dX6_rule_87 : decode cX6_rule 87 = .ok (.goto 4, 3) := by decide +kernel
theorem dX6_rule_90 : decode cX6_rule 90 = .ok (.iconst 0, 1) := by decide +kernel
theorem dX6_rule_91 : decode cX6_rule 91 = .ok (.istore 5, 2) := by decide +kernel
theorem dX6_rule_93 : decode cX6_rule 93 = .ok (.iinc 6 1, 3) := by decide +kernel
theorem dX6_rule_96 : decode cX6_rule 96 = .ok (.goto (-44), 3) := by decide +kernel
theorem dX6_rule_99 : decode cX6_rule 99 = .ok (.aload_n 0, 1) := by decide +kernel
theorem dX6_rule_100 : decode cX6_rule 100 = .ok (.iload_n 3, 1) := by decide +kernel
theorem dX6_rule_101 : decode cX6_rule 101 = .ok (.ifCond .ne 7, 3) := by decide +kernel
theorem dX6_rule_104 : decode cX6_rule 104 = .ok (.iconst 1, 1) := by decide +kernel
theorem dX6_rule_105 : decode cX6_rule 105 = .ok (.goto 22, 3) := by decide +kernel
theorem dX6_rule_108 : decode cX6_rule 108 = .ok (.iload 4, 2) := by decide +kernel
theorem dX6_rule_110 : decode cX6_rule 110 = .ok (.ifCond .ne 7, 3) := by decide +kernel
theorem dX6_rule_113 : decode cX6_rule 113 = .ok (.iconst 2, 1) := by decide +kernel
theorem dX6_rule_114 : decode cX6_rule 114 = .ok (.goto 13, 3) := by decide +kernel
theorem dX6_rule_117 : decode cX6_rule 117 = .ok (.iload 5, 2) := by decide +kernel
theorem dX6_rule_119 : decode cX6_rule 119 = .ok (.ifCond .eq 7, 3) := by decide +kernel
theorem dX6_rule_122 : decode cX6_rule 122 = .ok (.iconst 0, 1) := by decide +kernel
theorem dX6_rule_123 : decode cX6_rule 123 = .ok (.goto 4, 3) := by decide +kernel
theorem dX6_rule_126 : decode cX6_rule 126 = .ok (.iconst 3, 1) := by decide +kernel
theorem dX6_rule_127 : decode cX6_rule 127 = .ok (.invokevirtual 99, 3) := by decide +kernel
theorem dX6_rule_130 : decode cX6_rule 130 = .ok (.ifCond .ne 5, 3) := by decide +kernel
theorem dX6_rule_133 : decode cX6_rule 133 = .ok (.iconst 0, 1) := by decide +kernel
theorem dX6_rule_134 : decode cX6_rule 134 = .ok (.ireturn, 1) := by decide +kernel
theorem dX6_rule_135 : decode cX6_rule 135 = .ok (.aload_n 0, 1) := by decide +kernel
theorem dX6_rule_136 : decode cX6_rule 136 = .ok (.getfield 57, 3) := by decide +kernel
theorem dX6_rule_139 : decode cX6_rule 139 = .ok (.aload_n 0, 1) := by decide +kernel
theorem dX6_rule_140 : decode cX6_rule 140 = .ok (.getfield 177, 3) := by decide +kernel
theorem dX6_rule_143 : decode cX6_rule 143 = .ok (.iload_n 1, 1) := by decide +kernel
theorem dX6_rule_144 : decode cX6_rule 144 = .ok (.iastore, 1) := by decide +kernel
theorem dX6_rule_145 : decode cX6_rule 145 = .ok (.aload_n 0, 1) := by decide +kernel
theorem dX6_rule_146 : decode cX6_rule 146 = .ok (.getfield 60, 3) := by decide +kernel
theorem dX6_rule_149 : decode cX6_rule 149 = .ok (.aload_n 0, 1) := by decide +kernel
theorem dX6_rule_150 : decode cX6_rule 150 = .ok (.getfield 177, 3) := by decide +kernel
theorem dX6_rule_153 : decode cX6_rule 153 = .ok (.iload_n 2, 1) := by decide +kernel
theorem dX6_rule_154 : decode cX6_rule 154 = .ok (.iastore, 1) := by decide +kernel
theorem dX6_rule_155 : decode cX6_rule 155 = .ok (.aload_n 0, 1) := by decide +kernel
theorem dX6_rule_156 : decode cX6_rule 156 = .ok (.dup, 1) := by decide +kernel
theorem dX6_rule_157 : decode cX6_rule 157 = .ok (.getfield 177, 3) := by decide +kernel
theorem dX6_rule_160 : decode cX6_rule 160 = .ok (.iconst 1, 1) := by decide +kernel
theorem dX6_rule_161 : decode cX6_rule 161 = .ok (.iadd, 1) := by decide +kernel
theorem dX6_rule_162 : decode cX6_rule 162 = .ok (.putfield 177, 3) := by decide +kernel
theorem dX6_rule_165 : decode cX6_rule 165 = .ok (.aload_n 0, 1) := by decide +kernel
theorem dX6_rule_166 : decode cX6_rule 166 = .ok (.getfield 177, 3) := by decide +kernel
theorem dX6_rule_169 : decode cX6_rule 169 = .ok (.iconst 1, 1) := by decide +kernel
theorem dX6_rule_170 : decode cX6_rule 170 = .ok (.isub, 1) := by decide +kernel
theorem dX6_rule_171 : decode cX6_rule 171 = .ok (.ireturn, 1) := by decide +kernel
set_option maxRecDepth 20000 in
theorem ggX6_model_X6_isSet : GoodIn wsX6_model wsX6_isSet := goodIn_r _ [10, 11, 12, 13, 9, 14, 23, 24, 25, 26, 27, 28, 29, 30, 31, 32, 33, 34, 35, 36, 37, 38, 39, 40, 41, 42, 43, 44, 45, 46, 47, 48, 49, 50, 51, 52, 53, 54] rfl (by decide +kernel)
set_option maxRecDepth 20000 in
theorem gX6_model_X6_isSet : GoodIn wsX6_model (wsV RX6 174 RX6 yX6_isSet wsX6_isSet) := goodIn_app (goodIn_of _ (by decide +kernel)) ggX6_model_X6_isSet
set_option maxRecDepth 20000 in
theorem ggX6_model_X6_breaks : GoodIn wsX6_model wsX6_breaks := goodIn_r _ [17] rfl (by decide +kernel)
set_option maxRecDepth 20000 in
theorem gX6_model_X6_breaks : GoodIn wsX6_model (va_wsS RX6 183 yX6_breaks wsX6_breaks) := goodIn_app (goodIn_of _ (by decide +kernel)) ggX6_model_X6_breaks
set_option maxRecDepth 20000 in
theorem ggX6_model_X6_goesWell : GoodIn wsX6_model wsX6_goesWell := goodIn_r _ [21, 22, 23, 24, 25, 26, 27, 28, 29, 30, 31, 32, 33, 34, 35, 36, 37, 38, 39, 40, 41, 42, 43, 44, 45, 46, 47, 48, 49, 50, 51, 52, 53, 54] rfl (by decide +kernel)
set_option maxRecDepth 20000 in
theorem gX6_model_X6_goesWell : GoodIn wsX6_model (wsV RX6 99 RX6 yX6_goesWell wsX6_goesWell) := goodIn_app (goodIn_of _ (by decide +kernel)) ggX6_model_X6_goesWell
theorem dX6_model_0 : decode cX6_model 0 = .ok (.aload_n 0, 1) := by decide +kernel
theorem dX6_model_1 : decode cX6_model 1 = .ok (.iload_n 1, 1) := by decide +kernel
theorem dX6_model_2 : decode cX6_model 2 = .ok (.invokevirtual 174, 3) := by decide +kernel
theorem dX6_model_5 : decode cX6_model 5 = .ok (.istore_n 2, 1) := by decide +kernel
theorem dX6_model_6 : decode cX6_model 6 = .ok (.aload_n 0, 1) := by decide +kernel
theorem dX6_model_7 : decode cX6_model 7 = .ok (.getfield 180, 3) := by decide +kernel
theorem dX6_model_10 : decode cX6_model 10 = .ok (.bipush 10, 2) := by decide +kernel
theorem dX6_model_12 : decode cX6_model 12 = .ok (.if_icmp .ge 7, 3) := by decide +kernel
theorem dX6_model_15 : decode cX6_model 15 = .ok (.iconst 1, 1) := by decide +kernel
theorem dX6_model_16 : decode cX6_model 16 = .ok (.goto 4, 3) := by decide +kernel
theorem dX6_model_19 : decode cX6_model 19 = .ok (.iconst 0, 1) := by decide +kernel
theorem dX6_model_20 : decode cX6_model 20 = .ok (.istore_n 3, 1) := by decide +kernel
theorem dX6_model_21 : decode cX6_model 21 = .ok (.iconst 0, 1) := by decide +kernel
theorem dX6_model_22 : decode cX6_model 22 = .ok (.istore 4, 2) := by decide +kernel
theorem dX6_model_24 : decode cX6_model 24 = .ok (.iload 4, 2) := by decide +kernel
theorem dX6_model_26 : decode cX6_model 26 = .ok (.aload_n 0, 1) := by decide +kernel
theorem dX6_model_27 : decode cX6_model 27 = .ok (.getfield 177, 3) := by decide +kernel
theorem dX6_model_30 : decode cX6_model 30 = .ok (.if_icmp .ge 44, 3) := by decide +kernel
theorem dX6_model_33 : decode cX6_model 33 = .ok (.iload_n 2, 1) := by decide +kernel
theorem dX6_model_34 : decode cX6_model 34 = .ok (.ifCond .eq 40, 3) := by decide +kernel
theorem dX6_model_37 : decode cX6_model 37 = .ok (.iload_n 3, 1) := by decide +kernel
theorem dX6_model_38 : decode cX6_model 38 = .ok (.ifCond .eq 28, 3) := by decide +kernel
theorem dX6_model_41 : decode cX6_model 41 = .ok (.iload_n 1, 1) := by decide +kernel
theorem dX6_model_42 : decode cX6_model 42 = .ok (.aload_n 0, 1) := by decide +kernel
theorem dX6_model_43 : decode cX6_model 43 = .ok (.getfield 57, 3) := by decide +kernel
theorem dX6_model_46 : decode cX6_model 46 = .ok (.iload 4, 2) := by decide +kernel
theorem dX6_model_48 : decode cX6_model 48 = .ok (.iaload, 1) := by decide +kernel
theorem dX6_model_49 : decode cX6_model 49 = .ok (.aload_n 0, 1) := by decide +kernel
theorem dX6_model_50 : decode cX6_model 50 = .ok (.getfield 60, 3) := by decide +kernel
theorem dX6_model_53 : decode cX6_model 53 = .ok (.iload 4, 2) := by decide +kernel
theorem dX6_model_55 : decode cX6_model 55 = .ok (.iaload, 1) := by decide +kernel
theorem dX6_model_56 : decode cX6_model 56 = .ok (.invokestatic 183, 3) := by decide +kernel
theorem dX6_model_59 : decode cX6_model 59 = .ok (.ifCond .ne 7, 3) := by decide +kernel
theorem dX6_model_62 : decode cX6_model 62 = .ok (.iconst 1, 1) := by decide +kernel
theorem dX6_model_63 : decode cX6_model 63 = .ok (.goto 4, 3) := by decide +kernel
theorem dX6_model_66 : decode cX6_model 66 = .ok (.iconst 0, 1) := by decide +kernel
theorem dX6_model_67 : decode cX6_model 67 = .ok (.istore_n 3, 1) := by decide +kernel
theorem dX6_model_68 : decode cX6_model 68 = .ok (.iinc 4 1, 3) := by decide +kernel
theorem dX6_model_71 : decode cX6_model 71 = .ok (.goto (-47), 3) := by decide +kernel
theorem dX6_model_74 : decode cX6_model 74 = .ok (.aload_n 0, 1) := by decide +kernel
theorem dX6_model_75 : decode cX6_model 75 = .ok (.iload_n 2, 1) := by decide +kernel
theorem dX6_model_76 : decode cX6_model 76 = .ok (.ifCond .ne 7, 3) := by decide +kernel
theorem dX6_model_79 : decode cX6_model 79 = .ok (.iconst 1, 1) := by decide +kernel
theorem dX6_model_80 : decode cX6_model 80 = .ok (.goto 12, 3) := by decide +kernel
theorem dX6_model_83 : decode cX6_model 83 = .ok (.iload_n 3, 1) := by decide +kernel
theorem dX6_model_84 : decode cX6_model 84 = .ok (.ifCond .eq 7, 3) := by decide +kernel
theorem dX6_model_87 : decode cX6_model 87 = .ok (.iconst 0, 1) := by decide +kernel
theorem dX6_model_88 : decode cX6_model 88 = .ok (.goto 4, 3) := by decide +kernel
theorem dX6_model_91 : decode cX6_model 91 = .ok (.iconst 2, 1) := by decide +kernel
theorem dX6_model_92 : decode cX6_model 92 = .ok (.invokevirtual 99, 3) := by decide +kernel
theorem dX6_model_95 : decode cX6_model 95 = .ok (.ifCond .ne 5, 3) := by decide +kernel
theorem dX6_model_98 : decode cX6_model 98 = .ok (.iconst 0, 1) := by decide +kernel
theorem dX6_model_99 : decode cX6_model 99 = .ok (.ireturn, 1) := by decide +kernel
theorem dX6_model_100 : decode cX6_model 100 = .ok (.aload_n 0, 1) := by decide +kernel
theorem dX6_model_101 : decode cX6_model 101 = .ok (.getfield 63, 3) := by decide +kernel
theorem dX6_model_104 : decode cX6_model 104 = .ok (.aload_n 0, 1) := by decide +kernel
theorem dX6_model_105 : decode cX6_model 105 = .ok (.getfield 180, 3) := by decide +kernel
theorem dX6_model_108 : decode cX6_model 108 = .ok (.iload_n 1, 1) := by decide +kernel
theorem dX6_model_109 : decode cX6_model 109 = .ok (.iastore, 1) := by decide +kernel
theorem dX6_model_110 : decode cX6_model 110 = .ok (.aload_n 0, 1) := by decide +kernel
theorem dX6_model_111 : decode cX6_model 111 = .ok (.dup, 1) := by decide +kernel
theorem dX6_model_112 : decode cX6_model 112 = .ok (.getfield 180, 3) := by decide +kernel
theorem dX6_model_115 : decode cX6_model 115 = .ok (.iconst 1, 1) := by decide +kernel
theorem dX6_model_116 : decode cX6_model 116 = .ok (.iadd, 1) := by decide +kernel
theorem dX6_model_117 : decode cX6_model 117 = .ok (.putfield 180, 3) := by decide +kernel
theorem dX6_model_120 : decode cX6_model 120 = .ok (.aload_n 0, 1) := by decide +kernel
theorem dX6_model_121 : decode cX6_model 121 = .ok (.getfield 180, 3) := by decide +kernel
theorem dX6_model_124 : decode cX6_model 124 = .ok (.iconst 1, 1) := by decide +kernel
theorem dX6_model_125 : decode cX6_model 125 = .ok (.isub, 1) := by decide +kernel
theorem dX6_model_126 : decode cX6_model 126 = .ok (.ireturn, 1) := by decide +kernel
