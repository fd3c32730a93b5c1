theorem dX6_isSet_4 : decode cX6_isSet 4 = .ok (.getfield 168, 3) := by decide +kernel
theorem dX6_isSet_7 : decode cX6_isSet 7 = .ok (.ishl, 1) := by decide +kernel
theorem dX6_isSet_8 : decode cX6_isSet 8 = .ok (.iconst 1, 1) := by decide +kernel
theorem dX6_isSet_9 : decode cX6_isSet 9 = .ok (.isub, 1) := by decide +kernel
theorem dX6_isSet_10 : decode cX6_isSet 10 = .ok (.invokestatic 85, 3) := by decide +kernel
theorem dX6_isSet_13 : decode cX6_isSet 13 = .ok (.ireturn, 1) := by decide +kernel
theorem dX6_breaks_0 : decode cX6_breaks 0 = .ok (.iload_n 1, 1) := by decide +kernel
theorem dX6_breaks_1 : decode cX6_breaks 1 = .ok (.iload_n 0, 1) := by decide +kernel
theorem dX6_breaks_2 : decode cX6_breaks 2 = .ok (.iconst (-1), 1) := by decide +kernel
theorem dX6_breaks_3 : decode cX6_breaks 3 = .ok (.ixor, 1) := by decide +kernel
theorem dX6_breaks_4 : decode cX6_breaks 4 = .ok (.iand, 1) := by decide +kernel
theorem dX6_breaks_5 : decode cX6_breaks 5 = .ok (.ifCond .ne 15, 3) := by decide +kernel
theorem dX6_breaks_8 : decode cX6_breaks 8 = .ok (.iload_n 0, 1) := by decide +kernel
theorem dX6_breaks_9 : decode cX6_breaks 9 = .ok (.iload_n 2, 1) := by decide +kernel
theorem dX6_breaks_10 : decode cX6_breaks 10 = .ok (.ishr, 1) := by decide +kernel
theorem dX6_breaks_11 : decode cX6_breaks 11 = .ok (.iconst 1, 1) := by decide +kernel
theorem dX6_breaks_12 : decode cX6_breaks 12 = .ok (.iand, 1) := by decide +kernel
theorem dX6_breaks_13 : decode cX6_breaks 13 = .ok (.ifCond .ne 7, 3) := by decide +kernel
theorem dX6_breaks_16 : decode cX6_breaks 16 = .ok (.iconst 1, 1) := by decide +kernel
theorem dX6_breaks_17 : decode cX6_breaks 17 = .ok (.goto 4, 3) := by decide +kernel
theorem dX6_breaks_20 : decode cX6_breaks 20 = .ok (.iconst 0, 1) := by decide +kernel
theorem dX6_breaks_21 : decode cX6_breaks 21 = .ok (.ireturn, 1) := by decide +kernel
set_option maxRecDepth 20000 in
theorem ggX6_rule_X6_isPrinciple : GoodIn wsX6_rule wsX6_isPrinciple := goodIn_r _ [10, 11, 12, 13, 9, 14, 27, 28, 29, 30, 31, 32, 33, 34, 35, 36, 37, 38, 39, 40, 41, 42, 43, 44, 45, 46, 47, 48, 49, 50, 51, 52, 53, 54, 55, 56, 57, 58] (by decide +kernel) (by decide +kernel)
set_option maxRecDepth 20000 in
theorem gX6_rule_X6_isPrinciple : GoodIn wsX6_rule (wsV RX6 171 RX6 yX6_isPrinciple wsX6_isPrinciple) := goodIn_app (goodIn_of _ (by decide +kernel)) ggX6_rule_X6_isPrinciple
set_option maxRecDepth 20000 in
theorem ggX6_rule_X6_isSet : GoodIn wsX6_rule wsX6_isSet := goodIn_r _ [18, 11, 12, 13, 9, 14, 27, 28, 29, 30, 31, 32, 33, 34, 35, 36, 37, 38, 39, 40, 41, 42, 43, 44, 45, 46, 47, 48, 49, 50, 51, 52, 53, 54, 55, 56, 57, 58] (by decide +kernel) (by decide +kernel)
set_option maxRecDepth 20000 in
theorem gX6_rule_X6_isSet : GoodIn wsX6_rule (wsV RX6 174 RX6 yX6_isSet wsX6_isSet) := goodIn_app (goodIn_of _ (by decide +kernel)) ggX6_rule_X6_isSet
set_option maxRecDepth 20000 in
theorem ggX6_rule_X6_breaks : GoodIn wsX6_rule wsX6_breaks := goodIn_r _ [21] (by decide +kernel) (by decide +kernel)
set_option maxRecDepth 20000 in
theorem gX6_rule_X6_breaks : GoodIn wsX6_rule (va_wsS RX6 183 yX6_breaks wsX6_breaks) := goodIn_app (goodIn_of _ (by decide +kernel)) ggX6_rule_X6_breaks
set_option maxRecDepth 20000 in
theorem ggX6_rule_X6_goesWell : GoodIn wsX6_rule wsX6_goesWell := goodIn_r _ [25, 26, 27, 28, 29, 30, 31, 32, 33, 34, 35, 36, 37, 38, 39, 40, 41, 42, 43, 44, 45, 46, 47, 48, 49, 50, 51, 52, 53, 54, 55, 56, 57, 58] (by decide +kernel) (by decide +kernel)
set_option maxRecDepth 20000 in
theorem gX6_rule_X6_goesWell : GoodIn wsX6_rule (wsV RX6 99 RX6 yX6_goesWell wsX6_goesWell) := goodIn_app (goodIn_of _ (by decide +kernel)) ggX6_rule_X6_goesWell
theorem dX6_rule_0 : decode cX6_rule 0 = .ok (.aload_n 0, 1) := by decide +kernel
theorem dX6_rule_1 : decode cX6_rule 1 = .ok (.iload_n 2, 1) := by decide +kernel
theorem dX6_rule_2 : decode cX6_rule 2 = .ok (.invokevirtual 171, 3) := by decide +kernel
theorem dX6_rule_5 : decode cX6_rule 5 = .ok (.istore_n 3, 1) := by decide +kernel
theorem dX6_rule_6 : decode cX6_rule 6 = .ok (.iload_n 3, 1) := by decide +kernel
theorem dX6_rule_7 : decode cX6_rule 7 = .ok (.ifCond .eq 23, 3) := by decide +kernel
theorem dX6_rule_10 : decode cX6_rule 10 = .ok (.aload_n 0, 1) := by decide +kernel
theorem dX6_rule_11 : decode cX6_rule 11 = .ok (.iload_n 1, 1) := by decide +kernel
theorem dX6_rule_12 : decode cX6_rule 12 = .ok (.invokevirtual 174, 3) := by decide +kernel
theorem dX6_rule_15 : decode cX6_rule 15 = .ok (.ifCond .eq 15, 3) := by decide +kernel
theorem dX6_rule_18 : decode cX6_rule 18 = .ok (.iload_n 1, 1) := by decide +kernel
theorem dX6_rule_19 : decode cX6_rule 19 = .ok (.iload_n 2, 1) := by decide +kernel
theorem dX6_rule_20 : decode cX6_rule 20 = .ok (.ishr, 1) := by decide +kernel
theorem dX6_rule_21 : decode cX6_rule 21 = .ok (.iconst 1, 1) := by decide +kernel
theorem dX6_rule_22 : decode cX6_rule 22 = .ok (.iand, 1) := by decide +kernel
theorem dX6_rule_23 : decode cX6_rule 23 = .ok (.ifCond .ne 7, 3) := by decide +kernel
theorem dX6_rule_26 : decode cX6_rule 26 = .ok (.iconst 1, 1) := by decide +kernel
theorem dX6_rule_27 : decode cX6_rule 27 = .ok (.goto 4, 3) := by decide +kernel
theorem dX6_rule_30 : decode cX6_rule 30 = .ok (.iconst 0, 1) := by decide +kernel
theorem dX6_rule_31 : decode cX6_rule 31 = .ok (.istore 4, 2) := by decide +kernel
theorem dX6_rule_33 : decode cX6_rule 33 = .ok (.aload_n 0, 1) := by decide +kernel
theorem dX6_rule_34 : decode cX6_rule 34 = .ok (.getfield 177, 3) := by decide +kernel
theorem dX6_rule_37 : decode cX6_rule 37 = .ok (.bipush 30, 2) := by decide +kernel
theorem dX6_rule_39 : decode cX6_rule 39 = .ok (.if_icmp .ge 7, 3) := by decide +kernel
theorem dX6_rule_42 : decode cX6_rule 42 = .ok (.iconst 1, 1) := by decide +kernel
theorem dX6_rule_43 : decode cX6_rule 43 = .ok (.goto 4, 3) := by decide +kernel
theorem dX6_rule_46 : decode cX6_rule 46 = .ok (.iconst 0, 1) := by decide +kernel
theorem dX6_rule_47 : decode cX6_rule 47 = .ok (.istore 5, 2) := by decide +kernel
theorem dX6_rule_49 : decode cX6_rule 49 = .ok (.iconst 0, 1) := by decide +kernel
theorem dX6_rule_50 : decode cX6_rule 50 = .ok (.istore 6, 2) := by decide +kernel
theorem dX6_rule_52 : decode cX6_rule 52 = .ok (.iload 6, 2) := by decide +kernel
theorem dX6_rule_54 : decode cX6_rule 54 = .ok (.aload_n 0, 1) := by decide +kernel
theorem dX6_rule_55 : decode cX6_rule 55 = .ok (.getfield 180, 3) := by decide +kernel
theorem dX6_rule_58 : decode cX6_rule 58 = .ok (.if_icmp .ge 41, 3) := by decide +kernel
theorem dX6_rule_61 : decode cX6_rule 61 = .ok (.iload 4, 2) := by decide +kernel
theorem dX6_rule_63 : decode cX6_rule 63 = .ok (.ifCond .eq 36, 3) := by decide +kernel
theorem dX6_rule_66 : decode cX6_rule 66 = .ok (.iload 5, 2) := by decide +kernel
theorem dX6_rule_68 : decode cX6_rule 68 = .ok (.ifCond .eq 22, 3) := by decide +kernel
theorem dX6_rule_71 : decode cX6_rule 71 = .ok (.aload_n 0, 1) := by decide +kernel
theorem dX6_rule_72 : decode cX6_rule 72 = .ok (.getfield 63, 3) := by decide +kernel
theorem dX6_rule_75 : decode cX6_rule 75 = .ok (.iload 6, 2) := by decide +kernel
theorem dX6_rule_77 : decode cX6_rule 77 = .ok (.iaload, 1) := by decide +kernel
theorem dX6_rule_78 : decode cX6_rule 78 = .ok (.iload_n 1, 1) := by decide +kernel
theorem dX6_rule_79 : decode cX6_rule 79 = .ok (.iload_n 2, 1) := by decide +kernel
theorem dX6_rule_80 : decode cX6_rule 80 = .ok (.invokestatic 183, 3) := by decide +kernel
theorem dX6_rule_83 : decode cX6_rule 83 = .ok (.ifCond .ne 7, 3) := by decide +kernel
theorem dX6_rule_86 : decode cX6_rule 86 = .ok (.iconst 1, 1) := by decide +kernel
theorem dX6_rule_87 : decode cX6_rule 87 = .ok (.goto 4, 3) := by decide +kernel
theorem dX6_rule_90 : decode cX6_rule 90 = .ok (.iconst 0, 1) := by decide +kernel
theorem dX6_rule_91 : decode cX6_rule 91 = .ok (.istore 5, 2) := by decide +kernel
theorem dX6_rule_93 : decode cX6_rule 93 = .ok (.iinc 6 1, 3) := by decide +kernel
theorem dX6_rule_96 : decode cX6_rule 96 = .ok (.goto (-44), 3) := by decide +kernel
theorem dX6_rule_99 : decode cX6_rule 99 = .ok (.aload_n 0, 1) := by decide +kernel
theorem dX6_rule_100 : decode cX6_rule 100 = .ok (.iload_n 3, 1) := by decide +kernel
theorem dX6_rule_101 : decode cX6_rule 101 = .ok (.ifCond .ne 7, 3) := by decide +kernel
theorem dX6_rule_104 : decode cX6_rule 104 = .ok (.iconst 1, 1) := by decide +kernel
theorem dX6_rule_105 : decode cX6_rule 105 = .ok (.goto 22, 3) := by decide +kernel
theorem dX6_rule_108 : decode cX6_rule 108 = .ok (.iload 4, 2) := by decide +kernel
theorem dX6_rule_110 : decode cX6_rule 110 = .ok (.ifCond .ne 7, 3) := by decide +kernel
theorem dX6_rule_113 : decode cX6_rule 113 = .ok (.iconst 2, 1) := by decide +kernel
theorem dX6_rule_114 : decode cX6_rule 114 = .ok (.goto 13, 3) := by decide +kernel
theorem dX6_rule_117 : decode cX6_rule 117 = .ok (.iload 5, 2) := by decide +kernel
theorem dX6_rule_119 : decode cX6_rule 119 = .ok (.ifCond .eq 7, 3) := by decide +kernel
theorem dX6_rule_122 : decode cX6_rule 122 = .ok (.iconst 0, 1) := by decide +kernel
theorem dX6_rule_123 : decode cX6_rule 123 = .ok (.goto 4, 3) := by decide +kernel
theorem dX6_rule_126 : decode cX6_rule 126 = .ok (.iconst 3, 1) := by decide +kernel
theorem dX6_rule_127 : decode cX6_rule 127 = .ok (.invokevirtual 99, 3) := by decide +kernel
theorem dX6_rule_130 : decode cX6_rule 130 = .ok (.ifCond .ne 5, 3) := by decide +kernel
theorem dX6_rule_133 : decode cX6_rule 133 = .ok (.iconst 0, 1) := by decide +kernel
theorem dX6_rule_134 : decode cX6_rule 134 = .ok (.ireturn, 1) := by decide +kernel
theorem dX6_rule_135 : decode cX6_rule 135 = .ok (.aload_n 0, 1) := by decide +kernel
theorem dX6_rule_136 : decode cX6_rule 136 = .ok (.getfield 57, 3) := by decide +kernel
theorem dX6_rule_139 : decode cX6_rule 139 = .ok (.aload_n 0, 1) := by decide +kernel
theorem dX6_rule_140 : decode cX6_rule 140 = .ok (.getfield 177, 3) := by decide +kernel
theorem dX6_rule_143 : decode cX6_rule 143 = .ok (.iload_n 1, 1) := by decide +kernel
theorem dX6_rule_144 : decode cX6_rule 144 = .ok (.iastore, 1) := by decide +kernel
theorem dX6_rule_145 : decode cX6_rule 145 = .ok (.aload_n 0, 1) := by decide +kernel
theorem dX6_rule_146 : decode cX6_rule 146 = .ok (.getfield 60, 3) := by decide +kernel
theorem dX6_rule_149 : decode cX6_rule 149 = .ok (.aload_n 0, 1) := by decide +kernel
theorem dX6_rule_150 : decode cX6_rule 150 = .ok (.getfield 177, 3) := by decide +kernel
theorem dX6_rule_153 : decode cX6_rule 153 = .ok (.iload_n 2, 1) := by decide +kernel
theorem dX6_rule_154 : decode cX6_rule 154 = .ok (.iastore, 1) := by decide +kernel
theorem dX6_rule_155 : decode cX6_rule 155 = .ok (.aload_n 0, 1) := by decide +kernel
theorem dX6_rule_156 : decode cX6_rule 156 = .ok (.dup, 1) := by decide +kernel
theorem dX6_rule_157 : decode cX6_rule 157 = .ok (.getfield 177, 3) := by decide +kernel
theorem dX6_rule_160 : decode cX6_rule 160 = .ok (.iconst 1, 1) := by decide +kernel
theorem dX6_rule_161 : decode cX6_rule 161 = .ok (.iadd, 1) := by decide +kernel
theorem dX6_rule_162 : decode cX6_rule 162 = .ok (.putfield 177, 3) := by decide +kernel
theorem dX6_rule_165 : decode cX6_rule 165 = .ok (.aload_n 0, 1) := by decide +kernel
theorem dX6_rule_166 : decode cX6_rule 166 = .ok (.getfield 177, 3) := by decide +kernel
theorem dX6_rule_169 : decode cX6_rule 169 = .ok (.iconst 1, 1) := by decide +kernel
theorem dX6_rule_170 : decode cX6_rule 170 = .ok (.isub, 1) := by decide +kernel
theorem dX6_rule_171 : decode cX6_rule 171 = .ok (.ireturn, 1) := by decide +kernel
set_option maxRecDepth 20000 in
theorem ggX6_model_X6_isSet : GoodIn wsX6_model wsX6_isSet := goodIn_r _ [10, 11, 12, 13, 9, 14, 23, 24, 25, 26, 27, 28, 29, 30, 31, 32, 33, 34, 35, 36, 37, 38, 39, 40, 41, 42, 43, 44, 45, 46, 47, 48, 49, 50, 51, 52, 53, 54] (by decide +kernel) (by decide +kernel)
set_option maxRecDepth 20000 in
theorem gX6_model_X6_isSet : GoodIn wsX6_model (wsV RX6 174 RX6 yX6_isSet wsX6_isSet) := goodIn_app (goodIn_of _ (by decide +kernel)) ggX6_model_X6_isSet
set_option maxRecDepth 20000 in
theorem ggX6_model_X6_breaks : GoodIn wsX6_model wsX6_breaks := goodIn_r _ [17] (by decide +kernel) (by decide +kernel)
set_option maxRecDepth 20000 in
theorem gX6_model_X6_breaks : GoodIn wsX6_model (va_wsS RX6 183 yX6_breaks wsX6_breaks) := goodIn_app (goodIn_of _ (by decide +kernel)) ggX6_model_X6_breaks
set_option maxRecDepth 20000 in
theorem ggX6_model_X6_goesWell : GoodIn wsX6_model wsX6_goesWell := goodIn_r _ [21, 22, 23, 24, 25, 26, 27, 28, 29, 30, 31, 32, 33, 34, 35, 36, 37, 38, 39, 40, 41, 42, 43, 44, 45, 46, 47, 48, 49, 50, 51, 52, 53, 54] (by decide +kernel) (by decide +kernel)
set_option maxRecDepth 20000 in
theorem gX6_model_X6_goesWell : GoodIn wsX6_model (wsV RX6 99 RX6 yX6_goesWell wsX6_goesWell) := goodIn_app (goodIn_of _ (by decide +kernel)) ggX6_model_X6_goesWell
theorem dX6_model_0 : decode cX6_model 0 = .ok (.aload_n 0, 1) := by decide +kernel
theorem dX6_model_1 : decode cX6_model 1 = .ok (.iload_n 1, 1) := by decide +kernel
theorem dX6_model_2 : decode cX6_model 2 = .ok (.invokevirtual 174, 3) := by decide +kernel
theorem dX6_model_5 : decode cX6_model 5 = .ok (.istore_n 2, 1) := by decide +kernel
theorem dX6_model_6 : decode cX6_model 6 = .ok (.aload_n 0, 1) := by decide +kernel
theorem dX6_model_7 : decode cX6_model 7 = .ok (.getfield 180, 3) := by decide +kernel
theorem dX6_model_10 : decode cX6_model 10 = .ok (.bipush 10, 2) := by decide +kernel
theorem dX6_model_12 : decode cX6_model 12 = .ok (.if_icmp .ge 7, 3) := by decide +kernel
theorem dX6_model_15 : decode cX6_model 15 = .ok (.iconst 1, 1) := by decide +kernel
theorem dX6_model_16 : decode cX6_model 16 = .ok (.goto 4, 3) := by decide +kernel
theorem dX6_model_19 : decode cX6_model 19 = .ok (.iconst 0, 1) := by decide +kernel
theorem dX6_model_20 : decode cX6_model 20 = .ok (.istore_n 3, 1) := by decide +kernel
theorem dX6_model_21 : decode cX6_model 21 = .ok (.iconst 0, 1) := by decide +kernel
theorem dX6_model_22 : decode cX6_model 22 = .ok (.istore 4, 2) := by decide +kernel
theorem dX6_model_24 : decode cX6_model 24 = .ok (.iload 4, 2) := by decide +kernel
theorem dX6_model_26 : decode cX6_model 26 = .ok (.aload_n 0, 1) := by decide +kernel
theorem dX6_model_27 : decode cX6_model 27 = .ok (.getfield 177, 3) := by decide +kernel
theorem dX6_model_30 : decode cX6_model 30 = .ok (.if_icmp .ge 44, 3) := by decide +kernel
theorem dX6_model_33 : decode cX6_model 33 = .ok (.iload_n 2, 1) := by decide +kernel
theorem dX6_model_34 : decode cX6_model 34 = .ok (.ifCond .eq 40, 3) := by decide +kernel
theorem dX6_model_37 : decode cX6_model 37 = .ok (.iload_n 3, 1) := by decide +kernel
theorem dX6_model_38 : decode cX6_model 38 = .ok (.ifCond .eq 28, 3) := by decide +kernel
theorem dX6_model_41 : decode cX6_model 41 = .ok (.iload_n 1, 1) := by decide +kernel
theorem dX6_model_42 : decode cX6_model 42 = .ok (.aload_n 0, 1) := by decide +kernel
theorem dX6_model_43 : decode cX6_model 43 = .ok (.getfield 57, 3) := by decide +kernel
theorem dX6_model_46 : decode cX6_model 46 = .ok (.iload 4, 2) := by decide +kernel
theorem dX6_model_48 : decode cX6_model 48 = .ok (.iaload, 1) := by decide +kernel
theorem dX6_model_49 : decode cX6_model 49 = .ok (.aload_n 0, 1) := by decide +kernel
theorem dX6_model_50 : decode cX6_model 50 = .ok (.getfield 60, 3) := by decide +kernel
theorem dX6_model_53 : decode cX6_model 53 = .ok (.iload 4, 2) := by decide +kernel
theorem dX6_model_55 : decode cX6_model 55 = .ok (.iaload, 1) := by decide +kernel
theorem dX6_model_56 : decode cX6_model 56 = .ok (.invokestatic 183, 3) := by decide +kernel
theorem dX6_model_59 : decode cX6_model 59 = .ok (.ifCond .ne 7, 3) := by decide +kernel
theorem dX6_model_62 : decode cX6_model 62 = .ok (.iconst 1, 1) := by decide +kernel
theorem dX6_model_63 : decode cX6_model 63 = .ok (.goto 4, 3) := by decide +kernel
theorem dX6_model_66 : decode cX6_model 66 = .ok (.iconst 0, 1) := by decide +kernel
theorem dX6_model_67 : decode cX6_model 67 = .ok (.istore_n 3, 1) := by decide +kernel
theorem dX6_model_68 : decode cX6_model 68 = .ok (.iinc 4 1, 3) := by decide +kernel
theorem dX6_model_71 : decode cX6_model 71 = .ok (.goto (-47), 3) := by decide +kernel
theorem dX6_model_74 : decode cX6_model 74 = .ok (.aload_n 0, 1) := by decide +kernel
theorem dX6_model_75 : decode cX6_model 75 = .ok (.iload_n 2, 1) := by decide +kernel
theorem dX6_model_76 : decode cX6_model 76 = .ok (.ifCond .ne 7, 3) := by decide +kernel
theorem dX6_model_79 : decode cX6_model 79 = .ok (.iconst 1, 1) := by decide +kernel
theorem dX6_model_80 : decode cX6_model 80 = .ok (.goto 12, 3) := by decide +kernel
theorem dX6_model_83 : decode cX6_model 83 = .ok (.iload_n 3, 1) := by decide +kernel
theorem dX6_model_84 : decode cX6_model 84 = .ok (.ifCond .eq 7, 3) := by decide +kernel
theorem dX6_model_87 : decode cX6_model 87 = .ok (.iconst 0, 1) := by decide +kernel
theorem dX6_model_88 : decode cX6_model 88 = .ok (.goto 4, 3) := by decide +kernel
theorem dX6_model_91 : decode cX6_model 91 = .ok (.iconst 2, 1) := by decide +kernel
theorem dX6_model_92 : decode cX6_model 92 = .ok (.invokevirtual 99, 3) := by decide +kernel
theorem dX6_model_95 : decode cX6_model 95 = .ok (.ifCond .ne 5, 3) := by decide +kernel
theorem dX6_model_98 : decode cX6_model 98 = .ok (.iconst 0, 1) := by decide +kernel
theorem dX6_model_99 : decode cX6_model 99 = .ok (.ireturn, 1) := by decide +kernel
theorem dX6_model_100 : decode cX6_model 100 = .ok (.aload_n 0, 1) := by decide +kernel
theorem dX6_model_101 : decode cX6_model 101 = .ok (.getfield 63, 3) := by decide +kernel
theorem dX6_model_104 : decode cX6_model 104 = .ok (.aload_n 0, 1) := by decide +kernel
theorem dX6_model_105 : decode cX6_model 105 = .ok (.getfield 180, 3) := by decide +kernel
theorem dX6_model_108 : decode cX6_model 108 = .ok (.iload_n 1, 1) := by decide +kernel
theorem dX6_model_109 : decode cX6_model 109 = .ok (.iastore, 1) := by decide +kernel
theorem dX6_model_110 : decode cX6_model 110 = .ok (.aload_n 0, 1) := by decide +kernel
theorem dX6_model_111 : decode cX6_model 111 = .ok (.dup, 1) := by decide +kernel
theorem dX6_model_112 : decode cX6_model 112 = .ok (.getfield 180, 3) := by decide +kernel
theorem dX6_model_115 : decode cX6_model 115 = .ok (.iconst 1, 1) := by decide +kernel
theorem dX6_model_116 : decode cX6_model 116 = .ok (.iadd, 1) := by decide +kernel
theorem dX6_model_117 : decode cX6_model 117 = .ok (.putfield 180, 3) := by decide +kernel
theorem dX6_model_120 : decode cX6_model 120 = .ok (.aload_n 0, 1) := by decide +kernel
theorem dX6_model_121 : decode cX6_model 121 = .ok (.getfield 180, 3) := by decide +kernel
theorem dX6_model_124 : decode cX6_model 124 = .ok (.iconst 1, 1) := by decide +kernel
theorem dX6_model_125 : decode cX6_model 125 = .ok (.isub, 1) := by decide +kernel
theorem dX6_model_126 : decode cX6_model 126 = .ok (.ireturn, 1) := by decide +kernel
set_option maxRecDepth 20000 in
theorem ggX6_nextRule_X6_breaks : GoodIn wsX6_nextRule wsX6_breaks := goodIn_r _ [7] (by decide +kernel) (by decide +kernel)
set_option maxRecDepth 20000 in
theorem gX6_nextRule_X6_breaks : GoodIn wsX6_nextRule (va_wsS RX6 183 yX6_breaks wsX6_breaks) := goodIn_app (goodIn_of _ (by decide +kernel)) ggX6_nextRule_X6_breaks
theorem dX6_nextRule_0 : decode cX6_nextRule 0 = .ok (.iconst (-1), 1) := by decide +kernel
theorem dX6_nextRule_1 : decode cX6_nextRule 1 = .ok (.istore_n 2, 1) := by decide +kernel
theorem dX6_nextRule_2 : decode cX6_nextRule 2 = .ok (.aload_n 0, 1) := by decide +kernel
theorem dX6_nextRule_3 : decode cX6_nextRule 3 = .ok (.getfield 177, 3) := by decide +kernel
theorem dX6_nextRule_6 : decode cX6_nextRule 6 = .ok (.iconst 1, 1) := by decide +kernel
theorem dX6_nextRule_7 : decode cX6_nextRule 7 = .ok (.isub, 1) := by decide +kernel
theorem dX6_nextRule_8 : decode cX6_nextRule 8 = .ok (.istore_n 3, 1) := by decide +kernel
theorem dX6_nextRule_9 : decode cX6_nextRule 9 = .ok (.iload_n 3, 1) := by decide +kernel
theorem dX6_nextRule_10 : decode cX6_nextRule 10 = .ok (.ifCond .lt 34, 3) := by decide +kernel
theorem dX6_nextRule_13 : decode cX6_nextRule 13 = .ok (.iload_n 1, 1) := by decide +kernel
theorem dX6_nextRule_14 : decode cX6_nextRule 14 = .ok (.aload_n 0, 1) := by decide +kernel
theorem dX6_nextRule_15 : decode cX6_nextRule 15 = .ok (.getfield 57, 3) := by decide +kernel
theorem dX6_nextRule_18 : decode cX6_nextRule 18 = .ok (.iload_n 3, 1) := by decide +kernel
theorem dX6_nextRule_19 : decode cX6_nextRule 19 = .ok (.iaload, 1) := by decide +kernel
theorem dX6_nextRule_20 : decode cX6_nextRule 20 = .ok (.aload_n 0, 1) := by decide +kernel
theorem dX6_nextRule_21 : decode cX6_nextRule 21 = .ok (.getfield 60, 3) := by decide +kernel
theorem dX6_nextRule_24 : decode cX6_nextRule 24 = .ok (.iload_n 3, 1) := by decide +kernel
theorem dX6_nextRule_25 : decode cX6_nextRule 25 = .ok (.iaload, 1) := by decide +kernel
theorem dX6_nextRule_26 : decode cX6_nextRule 26 = .ok (.invokestatic 183, 3) := by decide +kernel
theorem dX6_nextRule_29 : decode cX6_nextRule 29 = .ok (.ifCond .eq 7, 3) := by decide +kernel
theorem dX6_nextRule_32 : decode cX6_nextRule 32 = .ok (.iload_n 3, 1) := by decide +kernel
theorem dX6_nextRule_33 : decode cX6_nextRule 33 = .ok (.goto 4, 3) := by decide +kernel
theorem dX6_nextRule_36 : decode cX6_nextRule 36 = .ok (.iload_n 2, 1) := by decide +kernel
theorem dX6_nextRule_37 : decode cX6_nextRule 37 = .ok (.istore_n 2, 1) := by decide +kernel
theorem dX6_nextRule_38 : decode cX6_nextRule 38 = .ok (.iinc 3 (-1), 3) := by decide +kernel
theorem dX6_nextRule_41 : decode cX6_nextRule 41 = .ok (.goto (-32), 3) := by decide +kernel
theorem dX6_nextRule_44 : decode cX6_nextRule 44 = .ok (.iload_n 2, 1) := by decide +kernel
theorem dX6_nextRule_45 : decode cX6_nextRule 45 = .ok (.ireturn, 1) := by decide +kernel
set_option maxRecDepth 20000 in
theorem ggX6_closed_X6_nextRule : GoodIn wsX6_closed wsX6_nextRule := goodIn_r _ [6, 7, 8, 1, 9, 10, 5, 11, 12, 13, 14, 15, 16, 17, 18, 19, 20, 21, 22, 23, 24, 25, 26, 27, 28, 29, 30, 31, 32, 33, 34, 35, 36, 37, 38, 39, 40, 41, 42, 43] (by decide +kernel) (by decide +kernel)
set_option maxRecDepth 20000 in
theorem gX6_closed_X6_nextRule : GoodIn wsX6_closed (wsV RX6 186 RX6 yX6_nextRule wsX6_nextRule) := goodIn_app (goodIn_of _ (by decide +kernel)) ggX6_closed_X6_nextRule
theorem dX6_closed_0 : decode cX6_closed 0 = .ok (.iload_n 1, 1) := by decide +kernel
theorem dX6_closed_1 : decode cX6_closed 1 = .ok (.istore_n 2, 1) := by decide +kernel
theorem dX6_closed_2 : decode cX6_closed 2 = .ok (.aload_n 0, 1) := by decide +kernel
theorem dX6_closed_3 : decode cX6_closed 3 = .ok (.iload_n 2, 1) := by decide +kernel
theorem dX6_closed_4 : decode cX6_closed 4 = .ok (.invokevirtual 186, 3) := by decide +kernel
theorem dX6_closed_7 : decode cX6_closed 7 = .ok (.istore_n 3, 1) := by decide +kernel
theorem dX6_closed_8 : decode cX6_closed 8 = .ok (.iload_n 3, 1) := by decide +kernel
theorem dX6_closed_9 : decode cX6_closed 9 = .ok (.iconst (-1), 1) := by decide +kernel
theorem dX6_closed_10 : decode cX6_closed 10 = .ok (.if_icmp .eq 23, 3) := by decide +kernel
theorem dX6_closed_13 : decode cX6_closed 13 = .ok (.iload_n 2, 1) := by decide +kernel
theorem dX6_closed_14 : decode cX6_closed 14 = .ok (.iconst 1, 1) := by decide +kernel
theorem dX6_closed_15 : decode cX6_closed 15 = .ok (.aload_n 0, 1) := by decide +kernel
theorem dX6_closed_16 : decode cX6_closed 16 = .ok (.getfield 60, 3) := by decide +kernel
theorem dX6_closed_19 : decode cX6_closed 19 = .ok (.iload_n 3, 1) := by decide +kernel
theorem dX6_closed_20 : decode cX6_closed 20 = .ok (.iaload, 1) := by decide +kernel
theorem dX6_closed_21 : decode cX6_closed 21 = .ok (.ishl, 1) := by decide +kernel
theorem dX6_closed_22 : decode cX6_closed 22 = .ok (.ior, 1) := by decide +kernel
theorem dX6_closed_23 : decode cX6_closed 23 = .ok (.istore_n 2, 1) := by decide +kernel
theorem dX6_closed_24 : decode cX6_closed 24 = .ok (.aload_n 0, 1) := by decide +kernel
theorem dX6_closed_25 : decode cX6_closed 25 = .ok (.iload_n 2, 1) := by decide +kernel
theorem dX6_closed_26 : decode cX6_closed 26 = .ok (.invokevirtual 186, 3) := by decide +kernel
theorem dX6_closed_29 : decode cX6_closed 29 = .ok (.istore_n 3, 1) := by decide +kernel
theorem dX6_closed_30 : decode cX6_closed 30 = .ok (.goto (-22), 3) := by decide +kernel
theorem dX6_closed_33 : decode cX6_closed 33 = .ok (.iload_n 2, 1) := by decide +kernel
theorem dX6_closed_34 : decode cX6_closed 34 = .ok (.ireturn, 1) := by decide +kernel
set_option maxRecDepth 20000 in
theorem ggX6_proves_X6_isSet : GoodIn wsX6_proves wsX6_isSet := goodIn_r _ [5, 6, 7, 8, 4, 9, 29, 30, 31, 32, 33, 34, 35, 36, 37, 38, 39, 40, 41, 42, 43, 44, 45, 46, 47, 48, 49, 50, 51, 52, 53, 54, 55, 56, 57, 58, 59, 60] (by decide +kernel) (by decide +kernel)
set_option maxRecDepth 20000 in
theorem gX6_proves_X6_isSet : GoodIn wsX6_proves (wsV RX6 174 RX6 yX6_isSet wsX6_isSet) := goodIn_app (goodIn_of _ (by decide +kernel)) ggX6_proves_X6_isSet
set_option maxRecDepth 20000 in
theorem ggX6_proves_X6_goesWell : GoodIn wsX6_proves wsX6_goesWell := goodIn_r _ [13, 14, 29, 30, 31, 32, 33, 34, 35, 36, 37, 38, 39, 40, 41, 42, 43, 44, 45, 46, 47, 48, 49, 50, 51, 52, 53, 54, 55, 56, 57, 58, 59, 60] (by decide +kernel) (by decide +kernel)
set_option maxRecDepth 20000 in
theorem gX6_proves_X6_goesWell : GoodIn wsX6_proves (wsV RX6 99 RX6 yX6_goesWell wsX6_goesWell) := goodIn_app (goodIn_of _ (by decide +kernel)) ggX6_proves_X6_goesWell
set_option maxRecDepth 20000 in
theorem ggX6_proves_X6_closed : GoodIn wsX6_proves wsX6_closed := goodIn_r _ [18, 19, 20, 21, 22, 4, 23, 24, 25, 26, 27, 28, 29, 30, 31, 32, 33, 34, 35, 36, 37, 38, 39, 40, 41, 42, 43, 44, 45, 46, 47, 48, 49, 50, 51, 52, 53, 54, 55, 56, 57, 58, 59, 60] (by decide +kernel) (by decide +kernel)
set_option maxRecDepth 20000 in
theorem gX6_proves_X6_closed : GoodIn wsX6_proves (wsV RX6 189 RX6 yX6_closed wsX6_closed) := goodIn_app (goodIn_of _ (by decide +kernel)) ggX6_proves_X6_closed
theorem dX6_proves_0 : decode cX6_proves 0 = .ok (.aload_n 0, 1) := by decide +kernel
theorem dX6_proves_1 : decode cX6_proves 1 = .ok (.aload_n 0, 1) := by decide +kernel
theorem dX6_proves_2 : decode cX6_proves 2 = .ok (.iload_n 1, 1) := by decide +kernel
theorem dX6_proves_3 : decode cX6_proves 3 = .ok (.invokevirtual 174, 3) := by decide +kernel
theorem dX6_proves_6 : decode cX6_proves 6 = .ok (.ifCond .eq 7, 3) := by decide +kernel
theorem dX6_proves_9 : decode cX6_proves 9 = .ok (.iconst 0, 1) := by decide +kernel
theorem dX6_proves_10 : decode cX6_proves 10 = .ok (.goto 4, 3) := by decide +kernel
theorem dX6_proves_13 : decode cX6_proves 13 = .ok (.iconst 1, 1) := by decide +kernel
theorem dX6_proves_14 : decode cX6_proves 14 = .ok (.invokevirtual 99, 3) := by decide +kernel
theorem dX6_proves_17 : decode cX6_proves 17 = .ok (.ifCond .eq 11, 3) := by decide +kernel
theorem dX6_proves_20 : decode cX6_proves 20 = .ok (.aload_n 0, 1) := by decide +kernel
theorem dX6_proves_21 : decode cX6_proves 21 = .ok (.iload_n 1, 1) := by decide +kernel
theorem dX6_proves_22 : decode cX6_proves 22 = .ok (.invokevirtual 189, 3) := by decide +kernel
theorem dX6_proves_25 : decode cX6_proves 25 = .ok (.goto 4, 3) := by decide +kernel
theorem dX6_proves_28 : decode cX6_proves 28 = .ok (.iconst 0, 1) := by decide +kernel
theorem dX6_proves_29 : decode cX6_proves 29 = .ok (.ireturn, 1) := by decide +kernel
set_option maxRecDepth 20000 in
theorem ggX6_prove_X6_nextRule : GoodIn wsX6_prove wsX6_nextRule := goodIn_r _ [8, 9, 3, 2, 10, 11, 7, 12, 13, 14, 15, 16, 17, 18, 19, 20, 21, 22, 23, 24, 25, 26, 27, 28, 29, 30, 31, 32, 33, 34, 35, 36, 37, 38, 39, 40, 41, 42, 43, 44] (by decide +kernel) (by decide +kernel)
set_option maxRecDepth 20000 in
theorem gX6_prove_X6_nextRule : GoodIn wsX6_prove (wsV RX6 186 RX6 yX6_nextRule wsX6_nextRule) := goodIn_app (goodIn_of _ (by decide +kernel)) ggX6_prove_X6_nextRule
theorem dX6_prove_0 : decode cX6_prove 0 = .ok (.iload_n 1, 1) := by decide +kernel
theorem dX6_prove_1 : decode cX6_prove 1 = .ok (.istore_n 3, 1) := by decide +kernel
theorem dX6_prove_2 : decode cX6_prove 2 = .ok (.iconst 0, 1) := by decide +kernel
theorem dX6_prove_3 : decode cX6_prove 3 = .ok (.istore 4, 2) := by decide +kernel
theorem dX6_prove_5 : decode cX6_prove 5 = .ok (.iload_n 3, 1) := by decide +kernel
theorem dX6_prove_6 : decode cX6_prove 6 = .ok (.iload_n 2, 1) := by decide +kernel
theorem dX6_prove_7 : decode cX6_prove 7 = .ok (.ishr, 1) := by decide +kernel
theorem dX6_prove_8 : decode cX6_prove 8 = .ok (.iconst 1, 1) := by decide +kernel
theorem dX6_prove_9 : decode cX6_prove 9 = .ok (.iand, 1) := by decide +kernel
theorem dX6_prove_10 : decode cX6_prove 10 = .ok (.ifCond .ne 38, 3) := by decide +kernel
theorem dX6_prove_13 : decode cX6_prove 13 = .ok (.aload_n 0, 1) := by decide +kernel
theorem dX6_prove_14 : decode cX6_prove 14 = .ok (.getfield 66, 3) := by decide +kernel
theorem dX6_prove_17 : decode cX6_prove 17 = .ok (.iload 4, 2) := by decide +kernel
theorem dX6_prove_19 : decode cX6_prove 19 = .ok (.aload_n 0, 1) := by decide +kernel
theorem dX6_prove_20 : decode cX6_prove 20 = .ok (.iload_n 3, 1) := by decide +kernel
theorem dX6_prove_21 : decode cX6_prove 21 = .ok (.invokevirtual 186, 3) := by decide +kernel
theorem dX6_prove_24 : decode cX6_prove 24 = .ok (.iastore, 1) := by decide +kernel
theorem dX6_prove_25 : decode cX6_prove 25 = .ok (.iload_n 3, 1) := by decide +kernel
theorem dX6_prove_26 : decode cX6_prove 26 = .ok (.iconst 1, 1) := by decide +kernel
theorem dX6_prove_27 : decode cX6_prove 27 = .ok (.aload_n 0, 1) := by decide +kernel
theorem dX6_prove_28 : decode cX6_prove 28 = .ok (.getfield 60, 3) := by decide +kernel
theorem dX6_prove_31 : decode cX6_prove 31 = .ok (.aload_n 0, 1) := by decide +kernel
theorem dX6_prove_32 : decode cX6_prove 32 = .ok (.getfield 66, 3) := by decide +kernel
theorem dX6_prove_35 : decode cX6_prove 35 = .ok (.iload 4, 2) := by decide +kernel
theorem dX6_prove_37 : decode cX6_prove 37 = .ok (.iaload, 1) := by decide +kernel
theorem dX6_prove_38 : decode cX6_prove 38 = .ok (.iaload, 1) := by decide +kernel
theorem dX6_prove_39 : decode cX6_prove 39 = .ok (.ishl, 1) := by decide +kernel
theorem dX6_prove_40 : decode cX6_prove 40 = .ok (.ior, 1) := by decide +kernel
theorem dX6_prove_41 : decode cX6_prove 41 = .ok (.istore_n 3, 1) := by decide +kernel
theorem dX6_prove_42 : decode cX6_prove 42 = .ok (.iinc 4 1, 3) := by decide +kernel
theorem dX6_prove_45 : decode cX6_prove 45 = .ok (.goto (-40), 3) := by decide +kernel
theorem dX6_prove_48 : decode cX6_prove 48 = .ok (.iconst 1, 1) := by decide +kernel
theorem dX6_prove_49 : decode cX6_prove 49 = .ok (.iload_n 2, 1) := by decide +kernel
theorem dX6_prove_50 : decode cX6_prove 50 = .ok (.ishl, 1) := by decide +kernel
theorem dX6_prove_51 : decode cX6_prove 51 = .ok (.istore 5, 2) := by decide +kernel
theorem dX6_prove_53 : decode cX6_prove 53 = .ok (.iload 4, 2) := by decide +kernel
theorem dX6_prove_55 : decode cX6_prove 55 = .ok (.iconst 1, 1) := by decide +kernel
theorem dX6_prove_56 : decode cX6_prove 56 = .ok (.isub, 1) := by decide +kernel
theorem dX6_prove_57 : decode cX6_prove 57 = .ok (.istore 6, 2) := by decide +kernel
theorem dX6_prove_59 : decode cX6_prove 59 = .ok (.iload 6, 2) := by decide +kernel
theorem dX6_prove_61 : decode cX6_prove 61 = .ok (.ifCond .lt 86, 3) := by decide +kernel
theorem dX6_prove_64 : decode cX6_prove 64 = .ok (.iload 5, 2) := by decide +kernel
theorem dX6_prove_66 : decode cX6_prove 66 = .ok (.aload_n 0, 1) := by decide +kernel
theorem dX6_prove_67 : decode cX6_prove 67 = .ok (.getfield 60, 3) := by decide +kernel
theorem dX6_prove_70 : decode cX6_prove 70 = .ok (.aload_n 0, 1) := by decide +kernel
theorem dX6_prove_71 : decode cX6_prove 71 = .ok (.getfield 66, 3) := by decide +kernel
theorem dX6_prove_74 : decode cX6_prove 74 = .ok (.iload 6, 2) := by decide +kernel
theorem dX6_prove_76 : decode cX6_prove 76 = .ok (.iaload, 1) := by decide +kernel
theorem dX6_prove_77 : decode cX6_prove 77 = .ok (.iaload, 1) := by decide +kernel
theorem dX6_prove_78 : decode cX6_prove 78 = .ok (.ishr, 1) := by decide +kernel
theorem dX6_prove_79 : decode cX6_prove 79 = .ok (.iconst 1, 1) := by decide +kernel
theorem dX6_prove_80 : decode cX6_prove 80 = .ok (.iand, 1) := by decide +kernel
theorem dX6_prove_81 : decode cX6_prove 81 = .ok (.iconst 1, 1) := by decide +kernel
theorem dX6_prove_82 : decode cX6_prove 82 = .ok (.if_icmp .ne 7, 3) := by decide +kernel
theorem dX6_prove_85 : decode cX6_prove 85 = .ok (.iconst 1, 1) := by decide +kernel
theorem dX6_prove_86 : decode cX6_prove 86 = .ok (.goto 4, 3) := by decide +kernel
theorem dX6_prove_89 : decode cX6_prove 89 = .ok (.iconst 0, 1) := by decide +kernel
theorem dX6_prove_90 : decode cX6_prove 90 = .ok (.istore 7, 2) := by decide +kernel
theorem dX6_prove_92 : decode cX6_prove 92 = .ok (.iload 5, 2) := by decide +kernel
theorem dX6_prove_94 : decode cX6_prove 94 = .ok (.iload 7, 2) := by decide +kernel
theorem dX6_prove_96 : decode cX6_prove 96 = .ok (.ifCond .eq 18, 3) := by decide +kernel
theorem dX6_prove_99 : decode cX6_prove 99 = .ok (.aload_n 0, 1) := by decide +kernel
theorem dX6_prove_100 : decode cX6_prove 100 = .ok (.getfield 57, 3) := by decide +kernel
theorem dX6_prove_103 : decode cX6_prove 103 = .ok (.aload_n 0, 1) := by decide +kernel
theorem dX6_prove_104 : decode cX6_prove 104 = .ok (.getfield 66, 3) := by decide +kernel
theorem dX6_prove_107 : decode cX6_prove 107 = .ok (.iload 6, 2) := by decide +kernel
theorem dX6_prove_109 : decode cX6_prove 109 = .ok (.iaload, 1) := by decide +kernel
theorem dX6_prove_110 : decode cX6_prove 110 = .ok (.iaload, 1) := by decide +kernel
theorem dX6_prove_111 : decode cX6_prove 111 = .ok (.goto 4, 3) := by decide +kernel
theorem dX6_prove_114 : decode cX6_prove 114 = .ok (.iconst 0, 1) := by decide +kernel
theorem dX6_prove_115 : decode cX6_prove 115 = .ok (.ior, 1) := by decide +kernel
theorem dX6_prove_116 : decode cX6_prove 116 = .ok (.istore 5, 2) := by decide +kernel
theorem dX6_prove_118 : decode cX6_prove 118 = .ok (.aload_n 0, 1) := by decide +kernel
theorem dX6_prove_119 : decode cX6_prove 119 = .ok (.getfield 66, 3) := by decide +kernel
theorem dX6_prove_122 : decode cX6_prove 122 = .ok (.iload 6, 2) := by decide +kernel
theorem dX6_prove_124 : decode cX6_prove 124 = .ok (.iload 7, 2) := by decide +kernel
theorem dX6_prove_126 : decode cX6_prove 126 = .ok (.ifCond .eq 13, 3) := by decide +kernel
theorem dX6_prove_129 : decode cX6_prove 129 = .ok (.aload_n 0, 1) := by decide +kernel
theorem dX6_prove_130 : decode cX6_prove 130 = .ok (.getfield 66, 3) := by decide +kernel
theorem dX6_prove_133 : decode cX6_prove 133 = .ok (.iload 6, 2) := by decide +kernel
theorem dX6_prove_135 : decode cX6_prove 135 = .ok (.iaload, 1) := by decide +kernel
theorem dX6_prove_136 : decode cX6_prove 136 = .ok (.goto 4, 3) := by decide +kernel
theorem dX6_prove_139 : decode cX6_prove 139 = .ok (.iconst (-1), 1) := by decide +kernel
theorem dX6_prove_140 : decode cX6_prove 140 = .ok (.iastore, 1) := by decide +kernel
theorem dX6_prove_141 : decode cX6_prove 141 = .ok (.iinc 6 (-1), 3) := by decide +kernel
theorem dX6_prove_144 : decode cX6_prove 144 = .ok (.goto (-85), 3) := by decide +kernel
theorem dX6_prove_147 : decode cX6_prove 147 = .ok (.iconst 0, 1) := by decide +kernel
theorem dX6_prove_148 : decode cX6_prove 148 = .ok (.istore 6, 2) := by decide +kernel
theorem dX6_prove_150 : decode cX6_prove 150 = .ok (.iconst 0, 1) := by decide +kernel
theorem dX6_prove_151 : decode cX6_prove 151 = .ok (.istore 7, 2) := by decide +kernel
theorem dX6_prove_153 : decode cX6_prove 153 = .ok (.iload 7, 2) := by decide +kernel
theorem dX6_prove_155 : decode cX6_prove 155 = .ok (.iload 4, 2) := by decide +kernel
theorem dX6_prove_157 : decode cX6_prove 157 = .ok (.if_icmp .ge 37, 3) := by decide +kernel
theorem dX6_prove_160 : decode cX6_prove 160 = .ok (.aload_n 0, 1) := by decide +kernel
theorem dX6_prove_161 : decode cX6_prove 161 = .ok (.getfield 66, 3) := by decide +kernel
theorem dX6_prove_164 : decode cX6_prove 164 = .ok (.iload 7, 2) := by decide +kernel
theorem dX6_prove_166 : decode cX6_prove 166 = .ok (.iaload, 1) := by decide +kernel
theorem dX6_prove_167 : decode cX6_prove 167 = .ok (.iconst (-1), 1) := by decide +kernel
theorem dX6_prove_168 : decode cX6_prove 168 = .ok (.if_icmp .eq 20, 3) := by decide +kernel
theorem dX6_prove_171 : decode cX6_prove 171 = .ok (.aload_n 0, 1) := by decide +kernel
theorem dX6_prove_172 : decode cX6_prove 172 = .ok (.getfield 66, 3) := by decide +kernel
theorem dX6_prove_175 : decode cX6_prove 175 = .ok (.iload 6, 2) := by decide +kernel
theorem dX6_prove_177 : decode cX6_prove 177 = .ok (.aload_n 0, 1) := by decide +kernel
theorem dX6_prove_178 : decode cX6_prove 178 = .ok (.getfield 66, 3) := by decide +kernel
theorem dX6_prove_181 : decode cX6_prove 181 = .ok (.iload 7, 2) := by decide +kernel
theorem dX6_prove_183 : decode cX6_prove 183 = .ok (.iaload, 1) := by decide +kernel
theorem dX6_prove_184 : decode cX6_prove 184 = .ok (.iastore, 1) := by decide +kernel
theorem dX6_prove_185 : decode cX6_prove 185 = .ok (.iinc 6 1, 3) := by decide +kernel
theorem dX6_prove_188 : decode cX6_prove 188 = .ok (.iinc 7 1, 3) := by decide +kernel
theorem dX6_prove_191 : decode cX6_prove 191 = .ok (.goto (-38), 3) := by decide +kernel
theorem dX6_prove_194 : decode cX6_prove 194 = .ok (.iload 6, 2) := by decide +kernel
theorem dX6_prove_196 : decode cX6_prove 196 = .ok (.ireturn, 1) := by decide +kernel
set_option maxRecDepth 20000 in
theorem ggX6_proof_X6_isPrinciple : GoodIn wsX6_proof wsX6_isPrinciple := goodIn_r _ [6, 7, 8, 9, 5, 10, 38, 39, 40, 41, 42, 43, 44, 45, 46, 47, 48, 49, 50, 51, 52, 53, 54, 55, 56, 57, 58, 59, 60, 61, 62, 63, 64, 65, 66, 67, 68, 69] (by decide +kernel) (by decide +kernel)
set_option maxRecDepth 20000 in
theorem gX6_proof_X6_isPrinciple : GoodIn wsX6_proof (wsV RX6 171 RX6 yX6_isPrinciple wsX6_isPrinciple) := goodIn_app (goodIn_of _ (by decide +kernel)) ggX6_proof_X6_isPrinciple
set_option maxRecDepth 20000 in
theorem ggX6_proof_X6_isSet : GoodIn wsX6_proof wsX6_isSet := goodIn_r _ [14, 7, 8, 9, 5, 10, 38, 39, 40, 41, 42, 43, 44, 45, 46, 47, 48, 49, 50, 51, 52, 53, 54, 55, 56, 57, 58, 59, 60, 61, 62, 63, 64, 65, 66, 67, 68, 69] (by decide +kernel) (by decide +kernel)
set_option maxRecDepth 20000 in
theorem gX6_proof_X6_isSet : GoodIn wsX6_proof (wsV RX6 174 RX6 yX6_isSet wsX6_isSet) := goodIn_app (goodIn_of _ (by decide +kernel)) ggX6_proof_X6_isSet
set_option maxRecDepth 20000 in
theorem ggX6_proof_X6_goesWell : GoodIn wsX6_proof wsX6_goesWell := goodIn_r _ [18, 19, 38, 39, 40, 41, 42, 43, 44, 45, 46, 47, 48, 49, 50, 51, 52, 53, 54, 55, 56, 57, 58, 59, 60, 61, 62, 63, 64, 65, 66, 67, 68, 69] (by decide +kernel) (by decide +kernel)
set_option maxRecDepth 20000 in
theorem gX6_proof_X6_goesWell : GoodIn wsX6_proof (wsV RX6 99 RX6 yX6_goesWell wsX6_goesWell) := goodIn_app (goodIn_of _ (by decide +kernel)) ggX6_proof_X6_goesWell
set_option maxRecDepth 20000 in
theorem ggX6_proof_X6_closed : GoodIn wsX6_proof wsX6_closed := goodIn_r _ [23, 24, 25, 26, 27, 5, 28, 29, 30, 31, 32, 33, 38, 39, 40, 41, 42, 43, 44, 45, 46, 47, 48, 49, 50, 51, 52, 53, 54, 55, 56, 57, 58, 59, 60, 61, 62, 63, 64, 65, 66, 67, 68, 69] (by decide +kernel) (by decide +kernel)
set_option maxRecDepth 20000 in
theorem gX6_proof_X6_closed : GoodIn wsX6_proof (wsV RX6 189 RX6 yX6_closed wsX6_closed) := goodIn_app (goodIn_of _ (by decide +kernel)) ggX6_proof_X6_closed
set_option maxRecDepth 20000 in
theorem ggX6_proof_X6_prove : GoodIn wsX6_proof wsX6_prove := goodIn_r _ [37, 1, 24, 30, 25, 26, 27, 5, 28, 29, 31, 32, 33, 38, 39, 40, 41, 42, 43, 44, 45, 46, 47, 48, 49, 50, 51, 52, 53, 54, 55, 56, 57, 58, 59, 60, 61, 62, 63, 64, 65, 66, 67, 68, 69] (by decide +kernel) (by decide +kernel)
set_option maxRecDepth 20000 in
theorem gX6_proof_X6_prove : GoodIn wsX6_proof (wsV RX6 192 RX6 yX6_prove wsX6_prove) := goodIn_app (goodIn_of _ (by decide +kernel)) ggX6_proof_X6_prove
theorem dX6_proof_0 : decode cX6_proof 0 = .ok (.aload_n 0, 1) := by decide +kernel
theorem dX6_proof_1 : decode cX6_proof 1 = .ok (.iload_n 2, 1) := by decide +kernel
theorem dX6_proof_2 : decode cX6_proof 2 = .ok (.invokevirtual 171, 3) := by decide +kernel
theorem dX6_proof_5 : decode cX6_proof 5 = .ok (.ifCond .eq 11, 3) := by decide +kernel
theorem dX6_proof_8 : decode cX6_proof 8 = .ok (.iload_n 3, 1) := by decide +kernel
theorem dX6_proof_9 : decode cX6_proof 9 = .ok (.ifCond .lt 7, 3) := by decide +kernel
theorem dX6_proof_12 : decode cX6_proof 12 = .ok (.iconst 1, 1) := by decide +kernel
theorem dX6_proof_13 : decode cX6_proof 13 = .ok (.goto 4, 3) := by decide +kernel
theorem dX6_proof_16 : decode cX6_proof 16 = .ok (.iconst 0, 1) := by decide +kernel
theorem dX6_proof_17 : decode cX6_proof 17 = .ok (.istore 4, 2) := by decide +kernel
theorem dX6_proof_19 : decode cX6_proof 19 = .ok (.aload_n 0, 1) := by decide +kernel
theorem dX6_proof_20 : decode cX6_proof 20 = .ok (.iload 4, 2) := by decide +kernel
theorem dX6_proof_22 : decode cX6_proof 22 = .ok (.ifCond .ne 7, 3) := by decide +kernel
theorem dX6_proof_25 : decode cX6_proof 25 = .ok (.iconst 1, 1) := by decide +kernel
theorem dX6_proof_26 : decode cX6_proof 26 = .ok (.goto 16, 3) := by decide +kernel
theorem dX6_proof_29 : decode cX6_proof 29 = .ok (.aload_n 0, 1) := by decide +kernel
theorem dX6_proof_30 : decode cX6_proof 30 = .ok (.iload_n 1, 1) := by decide +kernel
theorem dX6_proof_31 : decode cX6_proof 31 = .ok (.invokevirtual 174, 3) := by decide +kernel
theorem dX6_proof_34 : decode cX6_proof 34 = .ok (.ifCond .eq 7, 3) := by decide +kernel
theorem dX6_proof_37 : decode cX6_proof 37 = .ok (.iconst 0, 1) := by decide +kernel
theorem dX6_proof_38 : decode cX6_proof 38 = .ok (.goto 4, 3) := by decide +kernel
theorem dX6_proof_41 : decode cX6_proof 41 = .ok (.iconst 2, 1) := by decide +kernel
theorem dX6_proof_42 : decode cX6_proof 42 = .ok (.invokevirtual 99, 3) := by decide +kernel
theorem dX6_proof_45 : decode cX6_proof 45 = .ok (.ifCond .ne 5, 3) := by decide +kernel
theorem dX6_proof_48 : decode cX6_proof 48 = .ok (.iconst 0, 1) := by decide +kernel
theorem dX6_proof_49 : decode cX6_proof 49 = .ok (.ireturn, 1) := by decide +kernel
theorem dX6_proof_50 : decode cX6_proof 50 = .ok (.aload_n 0, 1) := by decide +kernel
theorem dX6_proof_51 : decode cX6_proof 51 = .ok (.iload_n 1, 1) := by decide +kernel
theorem dX6_proof_52 : decode cX6_proof 52 = .ok (.invokevirtual 189, 3) := by decide +kernel
theorem dX6_proof_55 : decode cX6_proof 55 = .ok (.iload_n 2, 1) := by decide +kernel
theorem dX6_proof_56 : decode cX6_proof 56 = .ok (.ishr, 1) := by decide +kernel
theorem dX6_proof_57 : decode cX6_proof 57 = .ok (.iconst 1, 1) := by decide +kernel
theorem dX6_proof_58 : decode cX6_proof 58 = .ok (.iand, 1) := by decide +kernel
theorem dX6_proof_59 : decode cX6_proof 59 = .ok (.ifCond .ne 5, 3) := by decide +kernel
theorem dX6_proof_62 : decode cX6_proof 62 = .ok (.iconst (-1), 1) := by decide +kernel
theorem dX6_proof_63 : decode cX6_proof 63 = .ok (.ireturn, 1) := by decide +kernel
theorem dX6_proof_64 : decode cX6_proof 64 = .ok (.aload_n 0, 1) := by decide +kernel
theorem dX6_proof_65 : decode cX6_proof 65 = .ok (.iload_n 1, 1) := by decide +kernel
theorem dX6_proof_66 : decode cX6_proof 66 = .ok (.iload_n 2, 1) := by decide +kernel
theorem dX6_proof_67 : decode cX6_proof 67 = .ok (.invokevirtual 192, 3) := by decide +kernel
theorem dX6_proof_70 : decode cX6_proof 70 = .ok (.istore 5, 2) := by decide +kernel
theorem dX6_proof_72 : decode cX6_proof 72 = .ok (.iload_n 3, 1) := by decide +kernel
theorem dX6_proof_73 : decode cX6_proof 73 = .ok (.iload 5, 2) := by decide +kernel
theorem dX6_proof_75 : decode cX6_proof 75 = .ok (.if_icmp .ge 12, 3) := by decide +kernel
theorem dX6_proof_78 : decode cX6_proof 78 = .ok (.aload_n 0, 1) := by decide +kernel
theorem dX6_proof_79 : decode cX6_proof 79 = .ok (.getfield 66, 3) := by decide +kernel
theorem dX6_proof_82 : decode cX6_proof 82 = .ok (.iload_n 3, 1) := by decide +kernel
theorem dX6_proof_83 : decode cX6_proof 83 = .ok (.iaload, 1) := by decide +kernel
theorem dX6_proof_84 : decode cX6_proof 84 = .ok (.goto 4, 3) := by decide +kernel
theorem dX6_proof_87 : decode cX6_proof 87 = .ok (.iconst (-1), 1) := by decide +kernel
theorem dX6_proof_88 : decode cX6_proof 88 = .ok (.ireturn, 1) := by decide +kernel
set_option maxRecDepth 20000 in
theorem ggX6_knownOf_X6_closed : GoodIn wsX6_knownOf wsX6_closed := goodIn_r _ [7, 8, 9, 10, 11, 6, 12, 13, 14, 15, 16, 17, 18, 19, 20, 21, 22, 23, 24, 25, 26, 27, 28, 29, 30, 31, 32, 33, 34, 35, 36, 37, 38, 39, 40, 41, 42, 43, 44, 45, 46, 47, 48, 49] (by decide +kernel) (by decide +kernel)
set_option maxRecDepth 20000 in
theorem gX6_knownOf_X6_closed : GoodIn wsX6_knownOf (wsV RX6 189 RX6 yX6_closed wsX6_closed) := goodIn_app (goodIn_of _ (by decide +kernel)) ggX6_knownOf_X6_closed
theorem dX6_knownOf_0 : decode cX6_knownOf 0 = .ok (.aload_n 0, 1) := by decide +kernel
theorem dX6_knownOf_1 : decode cX6_knownOf 1 = .ok (.iconst 1, 1) := by decide +kernel
theorem dX6_knownOf_2 : decode cX6_knownOf 2 = .ok (.iload_n 1, 1) := by decide +kernel
theorem dX6_knownOf_3 : decode cX6_knownOf 3 = .ok (.ishl, 1) := by decide +kernel
theorem dX6_knownOf_4 : decode cX6_knownOf 4 = .ok (.invokevirtual 189, 3) := by decide +kernel
theorem dX6_knownOf_7 : decode cX6_knownOf 7 = .ok (.iload_n 2, 1) := by decide +kernel
theorem dX6_knownOf_8 : decode cX6_knownOf 8 = .ok (.ishr, 1) := by decide +kernel
theorem dX6_knownOf_9 : decode cX6_knownOf 9 = .ok (.iconst 1, 1) := by decide +kernel
theorem dX6_knownOf_10 : decode cX6_knownOf 10 = .ok (.iand, 1) := by decide +kernel
theorem dX6_knownOf_11 : decode cX6_knownOf 11 = .ok (.iconst 1, 1) := by decide +kernel
theorem dX6_knownOf_12 : decode cX6_knownOf 12 = .ok (.if_icmp .ne 5, 3) := by decide +kernel
theorem dX6_knownOf_15 : decode cX6_knownOf 15 = .ok (.iconst 1, 1) := by decide +kernel
theorem dX6_knownOf_16 : decode cX6_knownOf 16 = .ok (.ireturn, 1) := by decide +kernel
theorem dX6_knownOf_17 : decode cX6_knownOf 17 = .ok (.iconst 0, 1) := by decide +kernel
theorem dX6_knownOf_18 : decode cX6_knownOf 18 = .ok (.istore_n 3, 1) := by decide +kernel
theorem dX6_knownOf_19 : decode cX6_knownOf 19 = .ok (.iconst 0, 1) := by decide +kernel
theorem dX6_knownOf_20 : decode cX6_knownOf 20 = .ok (.istore 4, 2) := by decide +kernel
theorem dX6_knownOf_22 : decode cX6_knownOf 22 = .ok (.iload 4, 2) := by decide +kernel
theorem dX6_knownOf_24 : decode cX6_knownOf 24 = .ok (.aload_n 0, 1) := by decide +kernel
theorem dX6_knownOf_25 : decode cX6_knownOf 25 = .ok (.getfield 180, 3) := by decide +kernel
theorem dX6_knownOf_28 : decode cX6_knownOf 28 = .ok (.if_icmp .ge 48, 3) := by decide +kernel
theorem dX6_knownOf_31 : decode cX6_knownOf 31 = .ok (.iload_n 3, 1) := by decide +kernel
theorem dX6_knownOf_32 : decode cX6_knownOf 32 = .ok (.ifCond .ne 32, 3) := by decide +kernel
theorem dX6_knownOf_35 : decode cX6_knownOf 35 = .ok (.aload_n 0, 1) := by decide +kernel
theorem dX6_knownOf_36 : decode cX6_knownOf 36 = .ok (.getfield 63, 3) := by decide +kernel
theorem dX6_knownOf_39 : decode cX6_knownOf 39 = .ok (.iload 4, 2) := by decide +kernel
theorem dX6_knownOf_41 : decode cX6_knownOf 41 = .ok (.iaload, 1) := by decide +kernel
theorem dX6_knownOf_42 : decode cX6_knownOf 42 = .ok (.iload_n 1, 1) := by decide +kernel
theorem dX6_knownOf_43 : decode cX6_knownOf 43 = .ok (.ishr, 1) := by decide +kernel
theorem dX6_knownOf_44 : decode cX6_knownOf 44 = .ok (.iconst 1, 1) := by decide +kernel
theorem dX6_knownOf_45 : decode cX6_knownOf 45 = .ok (.iand, 1) := by decide +kernel
theorem dX6_knownOf_46 : decode cX6_knownOf 46 = .ok (.iconst 1, 1) := by decide +kernel
theorem dX6_knownOf_47 : decode cX6_knownOf 47 = .ok (.if_icmp .ne 21, 3) := by decide +kernel
theorem dX6_knownOf_50 : decode cX6_knownOf 50 = .ok (.aload_n 0, 1) := by decide +kernel
theorem dX6_knownOf_51 : decode cX6_knownOf 51 = .ok (.getfield 63, 3) := by decide +kernel
theorem dX6_knownOf_54 : decode cX6_knownOf 54 = .ok (.iload 4, 2) := by decide +kernel
theorem dX6_knownOf_56 : decode cX6_knownOf 56 = .ok (.iaload, 1) := by decide +kernel
theorem dX6_knownOf_57 : decode cX6_knownOf 57 = .ok (.iload_n 2, 1) := by decide +kernel
theorem dX6_knownOf_58 : decode cX6_knownOf 58 = .ok (.ishr, 1) := by decide +kernel
theorem dX6_knownOf_59 : decode cX6_knownOf 59 = .ok (.iconst 1, 1) := by decide +kernel
theorem dX6_knownOf_60 : decode cX6_knownOf 60 = .ok (.iand, 1) := by decide +kernel
theorem dX6_knownOf_61 : decode cX6_knownOf 61 = .ok (.ifCond .ne 7, 3) := by decide +kernel
theorem dX6_knownOf_64 : decode cX6_knownOf 64 = .ok (.iconst 1, 1) := by decide +kernel
theorem dX6_knownOf_65 : decode cX6_knownOf 65 = .ok (.goto 4, 3) := by decide +kernel
theorem dX6_knownOf_68 : decode cX6_knownOf 68 = .ok (.iconst 0, 1) := by decide +kernel
theorem dX6_knownOf_69 : decode cX6_knownOf 69 = .ok (.istore_n 3, 1) := by decide +kernel
theorem dX6_knownOf_70 : decode cX6_knownOf 70 = .ok (.iinc 4 1, 3) := by decide +kernel
theorem dX6_knownOf_73 : decode cX6_knownOf 73 = .ok (.goto (-51), 3) := by decide +kernel
theorem dX6_knownOf_76 : decode cX6_knownOf 76 = .ok (.iload_n 3, 1) := by decide +kernel
theorem dX6_knownOf_77 : decode cX6_knownOf 77 = .ok (.ifCond .eq 7, 3) := by decide +kernel
theorem dX6_knownOf_80 : decode cX6_knownOf 80 = .ok (.iconst (-1), 1) := by decide +kernel
theorem dX6_knownOf_81 : decode cX6_knownOf 81 = .ok (.goto 4, 3) := by decide +kernel
theorem dX6_knownOf_84 : decode cX6_knownOf 84 = .ok (.iconst 0, 1) := by decide +kernel
theorem dX6_knownOf_85 : decode cX6_knownOf 85 = .ok (.ireturn, 1) := by decide +kernel
set_option maxRecDepth 20000 in
theorem ggX6_known_X6_isPrinciple : GoodIn wsX6_known wsX6_isPrinciple := goodIn_r _ [5, 6, 7, 8, 4, 9, 35, 36, 37, 38, 39, 40, 41, 42, 43, 44, 45, 46, 47, 48, 49, 50, 51, 52, 53, 54, 55, 56, 57, 58, 59, 60, 61, 62, 63, 64, 65, 66] (by decide +kernel) (by decide +kernel)
set_option maxRecDepth 20000 in
theorem gX6_known_X6_isPrinciple : GoodIn wsX6_known (wsV RX6 171 RX6 yX6_isPrinciple wsX6_isPrinciple) := goodIn_app (goodIn_of _ (by decide +kernel)) ggX6_known_X6_isPrinciple
set_option maxRecDepth 20000 in
theorem ggX6_known_X6_goesWell : GoodIn wsX6_known wsX6_goesWell := goodIn_r _ [13, 14, 35, 36, 37, 38, 39, 40, 41, 42, 43, 44, 45, 46, 47, 48, 49, 50, 51, 52, 53, 54, 55, 56, 57, 58, 59, 60, 61, 62, 63, 64, 65, 66] (by decide +kernel) (by decide +kernel)
set_option maxRecDepth 20000 in
theorem gX6_known_X6_goesWell : GoodIn wsX6_known (wsV RX6 99 RX6 yX6_goesWell wsX6_goesWell) := goodIn_app (goodIn_of _ (by decide +kernel)) ggX6_known_X6_goesWell
set_option maxRecDepth 20000 in
theorem ggX6_known_X6_knownOf : GoodIn wsX6_known wsX6_knownOf := goodIn_r _ [18, 19, 20, 21, 22, 23, 4, 24, 25, 26, 27, 28, 29, 30, 31, 32, 33, 34, 35, 36, 37, 38, 39, 40, 41, 42, 43, 44, 45, 46, 47, 48, 49, 50, 51, 52, 53, 54, 55, 56, 57, 58, 59, 60, 61, 62, 63, 64, 65, 66] (by decide +kernel) (by decide +kernel)
set_option maxRecDepth 20000 in
theorem gX6_known_X6_knownOf : GoodIn wsX6_known (wsV RX6 195 RX6 yX6_knownOf wsX6_knownOf) := goodIn_app (goodIn_of _ (by decide +kernel)) ggX6_known_X6_knownOf
theorem dX6_known_0 : decode cX6_known 0 = .ok (.aload_n 0, 1) := by decide +kernel
theorem dX6_known_1 : decode cX6_known 1 = .ok (.iload_n 1, 1) := by decide +kernel
theorem dX6_known_2 : decode cX6_known 2 = .ok (.invokevirtual 171, 3) := by decide +kernel
theorem dX6_known_5 : decode cX6_known 5 = .ok (.ifCond .eq 15, 3) := by decide +kernel
theorem dX6_known_8 : decode cX6_known 8 = .ok (.aload_n 0, 1) := by decide +kernel
theorem dX6_known_9 : decode cX6_known 9 = .ok (.iload_n 2, 1) := by decide +kernel
theorem dX6_known_10 : decode cX6_known 10 = .ok (.invokevirtual 171, 3) := by decide +kernel
theorem dX6_known_13 : decode cX6_known 13 = .ok (.ifCond .eq 7, 3) := by decide +kernel
theorem dX6_known_16 : decode cX6_known 16 = .ok (.iconst 1, 1) := by decide +kernel
theorem dX6_known_17 : decode cX6_known 17 = .ok (.goto 4, 3) := by decide +kernel
theorem dX6_known_20 : decode cX6_known 20 = .ok (.iconst 0, 1) := by decide +kernel
theorem dX6_known_21 : decode cX6_known 21 = .ok (.istore_n 3, 1) := by decide +kernel
theorem dX6_known_22 : decode cX6_known 22 = .ok (.aload_n 0, 1) := by decide +kernel
theorem dX6_known_23 : decode cX6_known 23 = .ok (.iload_n 3, 1) := by decide +kernel
theorem dX6_known_24 : decode cX6_known 24 = .ok (.ifCond .ne 7, 3) := by decide +kernel
theorem dX6_known_27 : decode cX6_known 27 = .ok (.iconst 1, 1) := by decide +kernel
theorem dX6_known_28 : decode cX6_known 28 = .ok (.goto 13, 3) := by decide +kernel
theorem dX6_known_31 : decode cX6_known 31 = .ok (.iload_n 1, 1) := by decide +kernel
theorem dX6_known_32 : decode cX6_known 32 = .ok (.iload_n 2, 1) := by decide +kernel
theorem dX6_known_33 : decode cX6_known 33 = .ok (.if_icmp .eq 7, 3) := by decide +kernel
theorem dX6_known_36 : decode cX6_known 36 = .ok (.iconst 0, 1) := by decide +kernel
theorem dX6_known_37 : decode cX6_known 37 = .ok (.goto 4, 3) := by decide +kernel
theorem dX6_known_40 : decode cX6_known 40 = .ok (.iconst 2, 1) := by decide +kernel
theorem dX6_known_41 : decode cX6_known 41 = .ok (.invokevirtual 99, 3) := by decide +kernel
theorem dX6_known_44 : decode cX6_known 44 = .ok (.ifCond .eq 12, 3) := by decide +kernel
theorem dX6_known_47 : decode cX6_known 47 = .ok (.aload_n 0, 1) := by decide +kernel
theorem dX6_known_48 : decode cX6_known 48 = .ok (.iload_n 1, 1) := by decide +kernel
theorem dX6_known_49 : decode cX6_known 49 = .ok (.iload_n 2, 1) := by decide +kernel
theorem dX6_known_50 : decode cX6_known 50 = .ok (.invokevirtual 195, 3) := by decide +kernel
theorem dX6_known_53 : decode cX6_known 53 = .ok (.goto 4, 3) := by decide +kernel
theorem dX6_known_56 : decode cX6_known 56 = .ok (.iconst 0, 1) := by decide +kernel
theorem dX6_known_57 : decode cX6_known 57 = .ok (.ireturn, 1) := by decide +kernel
set_option maxRecDepth 20000 in
theorem ggX6_open_X6_knownOf : GoodIn wsX6_open wsX6_knownOf := goodIn_r _ [7, 8, 9, 10, 11, 12, 6, 13, 14, 15, 16, 17, 18, 19, 20, 21, 22, 23, 24, 25, 26, 27, 28, 29, 30, 31, 32, 33, 34, 35, 36, 37, 38, 39, 40, 41, 42, 43, 44, 45, 46, 47, 48, 49, 50, 51, 52, 53, 54, 55] (by decide +kernel) (by decide +kernel)
set_option maxRecDepth 20000 in
theorem gX6_open_X6_knownOf : GoodIn wsX6_open (wsV RX6 195 RX6 yX6_knownOf wsX6_knownOf) := goodIn_app (goodIn_of _ (by decide +kernel)) ggX6_open_X6_knownOf
theorem dX6_open_0 : decode cX6_open 0 = .ok (.aload_n 0, 1) := by decide +kernel
theorem dX6_open_1 : decode cX6_open 1 = .ok (.iconst 0, 1) := by decide +kernel
theorem dX6_open_2 : decode cX6_open 2 = .ok (.putfield 81, 3) := by decide +kernel
theorem dX6_open_5 : decode cX6_open 5 = .ok (.iconst 0, 1) := by decide +kernel
theorem dX6_open_6 : decode cX6_open 6 = .ok (.istore_n 1, 1) := by decide +kernel
theorem dX6_open_7 : decode cX6_open 7 = .ok (.iconst 0, 1) := by decide +kernel
theorem dX6_open_8 : decode cX6_open 8 = .ok (.istore_n 2, 1) := by decide +kernel
theorem dX6_open_9 : decode cX6_open 9 = .ok (.iload_n 2, 1) := by decide +kernel
theorem dX6_open_10 : decode cX6_open 10 = .ok (.aload_n 0, 1) := by decide +kernel
theorem dX6_open_11 : decode cX6_open 11 = .ok (.getfield 168, 3) := by decide +kernel
theorem dX6_open_14 : decode cX6_open 14 = .ok (.if_icmp .ge 47, 3) := by decide +kernel
theorem dX6_open_17 : decode cX6_open 17 = .ok (.iconst 0, 1) := by decide +kernel
theorem dX6_open_18 : decode cX6_open 18 = .ok (.istore_n 3, 1) := by decide +kernel
theorem dX6_open_19 : decode cX6_open 19 = .ok (.iload_n 3, 1) := by decide +kernel
theorem dX6_open_20 : decode cX6_open 20 = .ok (.aload_n 0, 1) := by decide +kernel
theorem dX6_open_21 : decode cX6_open 21 = .ok (.getfield 168, 3) := by decide +kernel
theorem dX6_open_24 : decode cX6_open 24 = .ok (.if_icmp .ge 31, 3) := by decide +kernel
theorem dX6_open_27 : decode cX6_open 27 = .ok (.iload_n 1, 1) := by decide +kernel
theorem dX6_open_28 : decode cX6_open 28 = .ok (.iload_n 2, 1) := by decide +kernel
theorem dX6_open_29 : decode cX6_open 29 = .ok (.iload_n 3, 1) := by decide +kernel
theorem dX6_open_30 : decode cX6_open 30 = .ok (.if_icmp .eq 16, 3) := by decide +kernel
theorem dX6_open_33 : decode cX6_open 33 = .ok (.aload_n 0, 1) := by decide +kernel
theorem dX6_open_34 : decode cX6_open 34 = .ok (.iload_n 2, 1) := by decide +kernel
theorem dX6_open_35 : decode cX6_open 35 = .ok (.iload_n 3, 1) := by decide +kernel
theorem dX6_open_36 : decode cX6_open 36 = .ok (.invokevirtual 195, 3) := by decide +kernel
theorem dX6_open_39 : decode cX6_open 39 = .ok (.ifCond .ne 7, 3) := by decide +kernel
theorem dX6_open_42 : decode cX6_open 42 = .ok (.iconst 1, 1) := by decide +kernel
theorem dX6_open_43 : decode cX6_open 43 = .ok (.goto 4, 3) := by decide +kernel
theorem dX6_open_46 : decode cX6_open 46 = .ok (.iconst 0, 1) := by decide +kernel
theorem dX6_open_47 : decode cX6_open 47 = .ok (.iadd, 1) := by decide +kernel
theorem dX6_open_48 : decode cX6_open 48 = .ok (.istore_n 1, 1) := by decide +kernel
theorem dX6_open_49 : decode cX6_open 49 = .ok (.iinc 3 1, 3) := by decide +kernel
theorem dX6_open_52 : decode cX6_open 52 = .ok (.goto (-33), 3) := by decide +kernel
theorem dX6_open_55 : decode cX6_open 55 = .ok (.iinc 2 1, 3) := by decide +kernel
theorem dX6_open_58 : decode cX6_open 58 = .ok (.goto (-49), 3) := by decide +kernel
theorem dX6_open_61 : decode cX6_open 61 = .ok (.iload_n 1, 1) := by decide +kernel
theorem dX6_open_62 : decode cX6_open 62 = .ok (.ireturn, 1) := by decide +kernel
theorem dX6_bits_0 : decode cX6_bits 0 = .ok (.iconst 0, 1) := by decide +kernel
theorem dX6_bits_1 : decode cX6_bits 1 = .ok (.istore_n 1, 1) := by decide +kernel
theorem dX6_bits_2 : decode cX6_bits 2 = .ok (.iconst 0, 1) := by decide +kernel
theorem dX6_bits_3 : decode cX6_bits 3 = .ok (.istore_n 2, 1) := by decide +kernel
theorem dX6_bits_4 : decode cX6_bits 4 = .ok (.iload_n 2, 1) := by decide +kernel
theorem dX6_bits_5 : decode cX6_bits 5 = .ok (.bipush 10, 2) := by decide +kernel
theorem dX6_bits_7 : decode cX6_bits 7 = .ok (.if_icmp .ge 17, 3) := by decide +kernel
theorem dX6_bits_10 : decode cX6_bits 10 = .ok (.iload_n 1, 1) := by decide +kernel
theorem dX6_bits_11 : decode cX6_bits 11 = .ok (.iload_n 0, 1) := by decide +kernel
theorem dX6_bits_12 : decode cX6_bits 12 = .ok (.iload_n 2, 1) := by decide +kernel
theorem dX6_bits_13 : decode cX6_bits 13 = .ok (.ishr, 1) := by decide +kernel
theorem dX6_bits_14 : decode cX6_bits 14 = .ok (.iconst 1, 1) := by decide +kernel
theorem dX6_bits_15 : decode cX6_bits 15 = .ok (.iand, 1) := by decide +kernel
theorem dX6_bits_16 : decode cX6_bits 16 = .ok (.iadd, 1) := by decide +kernel
theorem dX6_bits_17 : decode cX6_bits 17 = .ok (.istore_n 1, 1) := by decide +kernel
theorem dX6_bits_18 : decode cX6_bits 18 = .ok (.iinc 2 1, 3) := by decide +kernel
theorem dX6_bits_21 : decode cX6_bits 21 = .ok (.goto (-17), 3) := by decide +kernel
theorem dX6_bits_24 : decode cX6_bits 24 = .ok (.iload_n 1, 1) := by decide +kernel
theorem dX6_bits_25 : decode cX6_bits 25 = .ok (.ireturn, 1) := by decide +kernel
set_option maxRecDepth 20000 in
theorem ggX6_leastOf_X6_isPrinciple : GoodIn wsX6_leastOf wsX6_isPrinciple := goodIn_r _ [5, 6, 7, 8, 4, 9, 36, 37, 38, 39, 40, 41, 42, 43, 44, 45, 46, 47, 48, 49, 50, 51, 52, 53, 54, 55, 56, 57, 58, 59, 60, 61, 62, 63, 64, 65, 66, 67] (by decide +kernel) (by decide +kernel)
set_option maxRecDepth 20000 in
theorem gX6_leastOf_X6_isPrinciple : GoodIn wsX6_leastOf (wsV RX6 171 RX6 yX6_isPrinciple wsX6_isPrinciple) := goodIn_app (goodIn_of _ (by decide +kernel)) ggX6_leastOf_X6_isPrinciple
set_option maxRecDepth 20000 in
theorem ggX6_leastOf_X6_isSet : GoodIn wsX6_leastOf wsX6_isSet := goodIn_r _ [13, 6, 7, 8, 4, 9, 36, 37, 38, 39, 40, 41, 42, 43, 44, 45, 46, 47, 48, 49, 50, 51, 52, 53, 54, 55, 56, 57, 58, 59, 60, 61, 62, 63, 64, 65, 66, 67] (by decide +kernel) (by decide +kernel)
set_option maxRecDepth 20000 in
theorem gX6_leastOf_X6_isSet : GoodIn wsX6_leastOf (wsV RX6 174 RX6 yX6_isSet wsX6_isSet) := goodIn_app (goodIn_of _ (by decide +kernel)) ggX6_leastOf_X6_isSet
set_option maxRecDepth 20000 in
theorem ggX6_leastOf_X6_goesWell : GoodIn wsX6_leastOf wsX6_goesWell := goodIn_r _ [17, 18, 36, 37, 38, 39, 40, 41, 42, 43, 44, 45, 46, 47, 48, 49, 50, 51, 52, 53, 54, 55, 56, 57, 58, 59, 60, 61, 62, 63, 64, 65, 66, 67] (by decide +kernel) (by decide +kernel)
set_option maxRecDepth 20000 in
theorem gX6_leastOf_X6_goesWell : GoodIn wsX6_leastOf (wsV RX6 99 RX6 yX6_goesWell wsX6_goesWell) := goodIn_app (goodIn_of _ (by decide +kernel)) ggX6_leastOf_X6_goesWell
set_option maxRecDepth 20000 in
theorem ggX6_leastOf_X6_bits : GoodIn wsX6_leastOf wsX6_bits := goodIn_r _ [21] (by decide +kernel) (by decide +kernel)
set_option maxRecDepth 20000 in
theorem gX6_leastOf_X6_bits : GoodIn wsX6_leastOf (va_wsS RX6 198 yX6_bits wsX6_bits) := goodIn_app (goodIn_of _ (by decide +kernel)) ggX6_leastOf_X6_bits
set_option maxRecDepth 20000 in
theorem ggX6_leastOf_X6_closed : GoodIn wsX6_leastOf wsX6_closed := goodIn_r _ [25, 26, 27, 28, 29, 4, 30, 31, 32, 33, 34, 35, 36, 37, 38, 39, 40, 41, 42, 43, 44, 45, 46, 47, 48, 49, 50, 51, 52, 53, 54, 55, 56, 57, 58, 59, 60, 61, 62, 63, 64, 65, 66, 67] (by decide +kernel) (by decide +kernel)
set_option maxRecDepth 20000 in
theorem gX6_leastOf_X6_closed : GoodIn wsX6_leastOf (wsV RX6 189 RX6 yX6_closed wsX6_closed) := goodIn_app (goodIn_of _ (by decide +kernel)) ggX6_leastOf_X6_closed
theorem dX6_leastOf_0 : decode cX6_leastOf 0 = .ok (.aload_n 0, 1) := by decide +kernel
theorem dX6_leastOf_1 : decode cX6_leastOf 1 = .ok (.iload_n 1, 1) := by decide +kernel
theorem dX6_leastOf_2 : decode cX6_leastOf 2 = .ok (.invokevirtual 171, 3) := by decide +kernel
theorem dX6_leastOf_5 : decode cX6_leastOf 5 = .ok (.istore_n 3, 1) := by decide +kernel
theorem dX6_leastOf_6 : decode cX6_leastOf 6 = .ok (.aload_n 0, 1) := by decide +kernel
theorem dX6_leastOf_7 : decode cX6_leastOf 7 = .ok (.iload_n 3, 1) := by decide +kernel
theorem dX6_leastOf_8 : decode cX6_leastOf 8 = .ok (.ifCond .ne 7, 3) := by decide +kernel
theorem dX6_leastOf_11 : decode cX6_leastOf 11 = .ok (.iconst 1, 1) := by decide +kernel
theorem dX6_leastOf_12 : decode cX6_leastOf 12 = .ok (.goto 16, 3) := by decide +kernel
theorem dX6_leastOf_15 : decode cX6_leastOf 15 = .ok (.aload_n 0, 1) := by decide +kernel
theorem dX6_leastOf_16 : decode cX6_leastOf 16 = .ok (.iload_n 2, 1) := by decide +kernel
theorem dX6_leastOf_17 : decode cX6_leastOf 17 = .ok (.invokevirtual 174, 3) := by decide +kernel
theorem dX6_leastOf_20 : decode cX6_leastOf 20 = .ok (.ifCond .eq 7, 3) := by decide +kernel
theorem dX6_leastOf_23 : decode cX6_leastOf 23 = .ok (.iconst 0, 1) := by decide +kernel
theorem dX6_leastOf_24 : decode cX6_leastOf 24 = .ok (.goto 4, 3) := by decide +kernel
theorem dX6_leastOf_27 : decode cX6_leastOf 27 = .ok (.iconst 2, 1) := by decide +kernel
theorem dX6_leastOf_28 : decode cX6_leastOf 28 = .ok (.invokevirtual 99, 3) := by decide +kernel
theorem dX6_leastOf_31 : decode cX6_leastOf 31 = .ok (.ifCond .ne 5, 3) := by decide +kernel
theorem dX6_leastOf_34 : decode cX6_leastOf 34 = .ok (.iconst 0, 1) := by decide +kernel
theorem dX6_leastOf_35 : decode cX6_leastOf 35 = .ok (.ireturn, 1) := by decide +kernel
theorem dX6_leastOf_36 : decode cX6_leastOf 36 = .ok (.iconst (-1), 1) := by decide +kernel
theorem dX6_leastOf_37 : decode cX6_leastOf 37 = .ok (.istore 4, 2) := by decide +kernel
theorem dX6_leastOf_39 : decode cX6_leastOf 39 = .ok (.iconst 0, 1) := by decide +kernel
theorem dX6_leastOf_40 : decode cX6_leastOf 40 = .ok (.istore 5, 2) := by decide +kernel
theorem dX6_leastOf_42 : decode cX6_leastOf 42 = .ok (.iload 5, 2) := by decide +kernel
theorem dX6_leastOf_44 : decode cX6_leastOf 44 = .ok (.iload_n 2, 1) := by decide +kernel
theorem dX6_leastOf_45 : decode cX6_leastOf 45 = .ok (.if_icmp .gt 72, 3) := by decide +kernel
theorem dX6_leastOf_48 : decode cX6_leastOf 48 = .ok (.iload 5, 2) := by decide +kernel
theorem dX6_leastOf_50 : decode cX6_leastOf 50 = .ok (.iload_n 2, 1) := by decide +kernel
theorem dX6_leastOf_51 : decode cX6_leastOf 51 = .ok (.iconst (-1), 1) := by decide +kernel
theorem dX6_leastOf_52 : decode cX6_leastOf 52 = .ok (.ixor, 1) := by decide +kernel
theorem dX6_leastOf_53 : decode cX6_leastOf 53 = .ok (.iand, 1) := by decide +kernel
theorem dX6_leastOf_54 : decode cX6_leastOf 54 = .ok (.ifCond .ne 26, 3) := by decide +kernel
theorem dX6_leastOf_57 : decode cX6_leastOf 57 = .ok (.iload 4, 2) := by decide +kernel
theorem dX6_leastOf_59 : decode cX6_leastOf 59 = .ok (.iconst (-1), 1) := by decide +kernel
theorem dX6_leastOf_60 : decode cX6_leastOf 60 = .ok (.if_icmp .eq 16, 3) := by decide +kernel
theorem dX6_leastOf_63 : decode cX6_leastOf 63 = .ok (.iload 5, 2) := by decide +kernel
theorem dX6_leastOf_65 : decode cX6_leastOf 65 = .ok (.invokestatic 198, 3) := by decide +kernel
theorem dX6_leastOf_68 : decode cX6_leastOf 68 = .ok (.iload 4, 2) := by decide +kernel
theorem dX6_leastOf_70 : decode cX6_leastOf 70 = .ok (.invokestatic 198, 3) := by decide +kernel
theorem dX6_leastOf_73 : decode cX6_leastOf 73 = .ok (.if_icmp .ge 7, 3) := by decide +kernel
theorem dX6_leastOf_76 : decode cX6_leastOf 76 = .ok (.iconst 1, 1) := by decide +kernel
theorem dX6_leastOf_77 : decode cX6_leastOf 77 = .ok (.goto 4, 3) := by decide +kernel
theorem dX6_leastOf_80 : decode cX6_leastOf 80 = .ok (.iconst 0, 1) := by decide +kernel
theorem dX6_leastOf_81 : decode cX6_leastOf 81 = .ok (.istore 6, 2) := by decide +kernel
theorem dX6_leastOf_83 : decode cX6_leastOf 83 = .ok (.iload 6, 2) := by decide +kernel
theorem dX6_leastOf_85 : decode cX6_leastOf 85 = .ok (.ifCond .eq 22, 3) := by decide +kernel
theorem dX6_leastOf_88 : decode cX6_leastOf 88 = .ok (.aload_n 0, 1) := by decide +kernel
theorem dX6_leastOf_89 : decode cX6_leastOf 89 = .ok (.iload 5, 2) := by decide +kernel
theorem dX6_leastOf_91 : decode cX6_leastOf 91 = .ok (.invokevirtual 189, 3) := by decide +kernel
theorem dX6_leastOf_94 : decode cX6_leastOf 94 = .ok (.iload_n 1, 1) := by decide +kernel
theorem dX6_leastOf_95 : decode cX6_leastOf 95 = .ok (.ishr, 1) := by decide +kernel
theorem dX6_leastOf_96 : decode cX6_leastOf 96 = .ok (.iconst 1, 1) := by decide +kernel
theorem dX6_leastOf_97 : decode cX6_leastOf 97 = .ok (.iand, 1) := by decide +kernel
theorem dX6_leastOf_98 : decode cX6_leastOf 98 = .ok (.iconst 1, 1) := by decide +kernel
theorem dX6_leastOf_99 : decode cX6_leastOf 99 = .ok (.if_icmp .ne 8, 3) := by decide +kernel
theorem dX6_leastOf_102 : decode cX6_leastOf 102 = .ok (.iload 5, 2) := by decide +kernel
theorem dX6_leastOf_104 : decode cX6_leastOf 104 = .ok (.goto 5, 3) := by decide +kernel
theorem dX6_leastOf_107 : decode cX6_leastOf 107 = .ok (.iload 4, 2) := by decide +kernel
theorem dX6_leastOf_109 : decode cX6_leastOf 109 = .ok (.istore 4, 2) := by decide +kernel
theorem dX6_leastOf_111 : decode cX6_leastOf 111 = .ok (.iinc 5 1, 3) := by decide +kernel
theorem dX6_leastOf_114 : decode cX6_leastOf 114 = .ok (.goto (-72), 3) := by decide +kernel
theorem dX6_leastOf_117 : decode cX6_leastOf 117 = .ok (.iload 4, 2) := by decide +kernel
theorem dX6_leastOf_119 : decode cX6_leastOf 119 = .ok (.ireturn, 1) := by decide +kernel
set_option maxRecDepth 20000 in
theorem ggX6_least_X6_leastOf : GoodIn wsX6_least wsX6_leastOf := goodIn_r _ [5, 6, 7, 8, 4, 9, 10, 11, 12, 13, 14, 15, 16, 17, 18, 19, 20, 21, 22, 23, 24, 25, 26, 27, 28, 29, 30, 31, 32, 33, 34, 35, 36, 37, 38, 39, 40, 41, 42, 43, 44, 45, 46, 47, 48, 49, 50, 51, 52, 53, 54, 55, 56, 57, 58, 59, 60, 61, 62, 63, 64, 65, 66, 67, 68, 69, 70, 71] (by decide +kernel) (by decide +kernel)
set_option maxRecDepth 20000 in
theorem gX6_least_X6_leastOf : GoodIn wsX6_least (wsV RX6 201 RX6 yX6_leastOf wsX6_leastOf) := goodIn_app (goodIn_of _ (by decide +kernel)) ggX6_least_X6_leastOf
theorem dX6_least_0 : decode cX6_least 0 = .ok (.aload_n 0, 1) := by decide +kernel
theorem dX6_least_1 : decode cX6_least 1 = .ok (.iload_n 1, 1) := by decide +kernel
theorem dX6_least_2 : decode cX6_least 2 = .ok (.iload_n 2, 1) := by decide +kernel
theorem dX6_least_3 : decode cX6_least 3 = .ok (.invokevirtual 201, 3) := by decide +kernel
theorem dX6_least_6 : decode cX6_least 6 = .ok (.ireturn, 1) := by decide +kernel
set_option maxRecDepth 20000 in
theorem ggX6_leastAnew_X6_leastOf : GoodIn wsX6_leastAnew wsX6_leastOf := goodIn_r _ [5, 6, 7, 8, 4, 9, 10, 11, 12, 13, 14, 15, 16, 17, 18, 19, 20, 21, 22, 23, 24, 25, 26, 27, 28, 29, 30, 31, 32, 33, 34, 35, 36, 37, 38, 39, 40, 41, 42, 43, 44, 45, 46, 47, 48, 49, 50, 51, 52, 53, 54, 55, 56, 57, 58, 59, 60, 61, 62, 63, 64, 65, 66, 67, 68, 69, 70, 71] (by decide +kernel) (by decide +kernel)
set_option maxRecDepth 20000 in
theorem gX6_leastAnew_X6_leastOf : GoodIn wsX6_leastAnew (wsV RX6 201 RX6 yX6_leastOf wsX6_leastOf) := goodIn_app (goodIn_of _ (by decide +kernel)) ggX6_leastAnew_X6_leastOf
theorem dX6_leastAnew_0 : decode cX6_leastAnew 0 = .ok (.aload_n 0, 1) := by decide +kernel
theorem dX6_leastAnew_1 : decode cX6_leastAnew 1 = .ok (.iload_n 1, 1) := by decide +kernel
theorem dX6_leastAnew_2 : decode cX6_leastAnew 2 = .ok (.iload_n 2, 1) := by decide +kernel
theorem dX6_leastAnew_3 : decode cX6_leastAnew 3 = .ok (.invokevirtual 201, 3) := by decide +kernel
theorem dX6_leastAnew_6 : decode cX6_leastAnew 6 = .ok (.ireturn, 1) := by decide +kernel
set_option maxRecDepth 20000 in
theorem ggX6_ofPrinciple_X6_isPrinciple : GoodIn wsX6_ofPrinciple wsX6_isPrinciple := goodIn_r _ [11, 12, 13, 14, 10, 15, 21, 22, 23, 24, 25, 26, 27, 28, 29, 30, 31, 32, 33, 34, 35, 36, 37, 38, 39, 40, 41, 42, 43, 44, 45, 46, 47, 48, 49, 50, 51, 52] (by decide +kernel) (by decide +kernel)
set_option maxRecDepth 20000 in
theorem gX6_ofPrinciple_X6_isPrinciple : GoodIn wsX6_ofPrinciple (wsV RX6 171 RX6 yX6_isPrinciple wsX6_isPrinciple) := goodIn_app (goodIn_of _ (by decide +kernel)) ggX6_ofPrinciple_X6_isPrinciple
set_option maxRecDepth 20000 in
theorem ggX6_ofPrinciple_X6_in : GoodIn wsX6_ofPrinciple wsX6_in := goodIn_r _ [15] (by decide +kernel) (by decide +kernel)
set_option maxRecDepth 20000 in
theorem gX6_ofPrinciple_X6_in : GoodIn wsX6_ofPrinciple (va_wsS RX6 85 yX6_in wsX6_in) := goodIn_app (goodIn_of _ (by decide +kernel)) ggX6_ofPrinciple_X6_in
set_option maxRecDepth 20000 in
theorem ggX6_ofPrinciple_X6_goesWell : GoodIn wsX6_ofPrinciple wsX6_goesWell := goodIn_r _ [19, 20, 21, 22, 23, 24, 25, 26, 27, 28, 29, 30, 31, 32, 33, 34, 35, 36, 37, 38, 39, 40, 41, 42, 43, 44, 45, 46, 47, 48, 49, 50, 51, 52] (by decide +kernel) (by decide +kernel)
set_option maxRecDepth 20000 in
theorem gX6_ofPrinciple_X6_goesWell : GoodIn wsX6_ofPrinciple (wsV RX6 99 RX6 yX6_goesWell wsX6_goesWell) := goodIn_app (goodIn_of _ (by decide +kernel)) ggX6_ofPrinciple_X6_goesWell
theorem dX6_ofPrinciple_0 : decode cX6_ofPrinciple 0 = .ok (.aload_n 0, 1) := by decide +kernel
theorem dX6_ofPrinciple_1 : decode cX6_ofPrinciple 1 = .ok (.iload_n 1, 1) := by decide +kernel
theorem dX6_ofPrinciple_2 : decode cX6_ofPrinciple 2 = .ok (.invokevirtual 171, 3) := by decide +kernel
theorem dX6_ofPrinciple_5 : decode cX6_ofPrinciple 5 = .ok (.istore_n 3, 1) := by decide +kernel
theorem dX6_ofPrinciple_6 : decode cX6_ofPrinciple 6 = .ok (.aload_n 0, 1) := by decide +kernel
theorem dX6_ofPrinciple_7 : decode cX6_ofPrinciple 7 = .ok (.iload_n 3, 1) := by decide +kernel
theorem dX6_ofPrinciple_8 : decode cX6_ofPrinciple 8 = .ok (.ifCond .ne 7, 3) := by decide +kernel
theorem dX6_ofPrinciple_11 : decode cX6_ofPrinciple 11 = .ok (.iconst 1, 1) := by decide +kernel
theorem dX6_ofPrinciple_12 : decode cX6_ofPrinciple 12 = .ok (.goto 17, 3) := by decide +kernel
theorem dX6_ofPrinciple_15 : decode cX6_ofPrinciple 15 = .ok (.iload_n 2, 1) := by decide +kernel
theorem dX6_ofPrinciple_16 : decode cX6_ofPrinciple 16 = .ok (.iconst 0, 1) := by decide +kernel
theorem dX6_ofPrinciple_17 : decode cX6_ofPrinciple 17 = .ok (.iconst 3, 1) := by decide +kernel
theorem dX6_ofPrinciple_18 : decode cX6_ofPrinciple 18 = .ok (.invokestatic 85, 3) := by decide +kernel
theorem dX6_ofPrinciple_21 : decode cX6_ofPrinciple 21 = .ok (.ifCond .eq 7, 3) := by decide +kernel
theorem dX6_ofPrinciple_24 : decode cX6_ofPrinciple 24 = .ok (.iconst 0, 1) := by decide +kernel
theorem dX6_ofPrinciple_25 : decode cX6_ofPrinciple 25 = .ok (.goto 4, 3) := by decide +kernel
theorem dX6_ofPrinciple_28 : decode cX6_ofPrinciple 28 = .ok (.iconst 2, 1) := by decide +kernel
theorem dX6_ofPrinciple_29 : decode cX6_ofPrinciple 29 = .ok (.invokevirtual 99, 3) := by decide +kernel
theorem dX6_ofPrinciple_32 : decode cX6_ofPrinciple 32 = .ok (.ifCond .ne 5, 3) := by decide +kernel
theorem dX6_ofPrinciple_35 : decode cX6_ofPrinciple 35 = .ok (.iconst 0, 1) := by decide +kernel
theorem dX6_ofPrinciple_36 : decode cX6_ofPrinciple 36 = .ok (.ireturn, 1) := by decide +kernel
theorem dX6_ofPrinciple_37 : decode cX6_ofPrinciple 37 = .ok (.iconst 0, 1) := by decide +kernel
theorem dX6_ofPrinciple_38 : decode cX6_ofPrinciple 38 = .ok (.istore 4, 2) := by decide +kernel
theorem dX6_ofPrinciple_40 : decode cX6_ofPrinciple 40 = .ok (.iconst 0, 1) := by decide +kernel
theorem dX6_ofPrinciple_41 : decode cX6_ofPrinciple 41 = .ok (.istore 5, 2) := by decide +kernel
theorem dX6_ofPrinciple_43 : decode cX6_ofPrinciple 43 = .ok (.iload 5, 2) := by decide +kernel
theorem dX6_ofPrinciple_45 : decode cX6_ofPrinciple 45 = .ok (.aload_n 0, 1) := by decide +kernel
theorem dX6_ofPrinciple_46 : decode cX6_ofPrinciple 46 = .ok (.getfield 177, 3) := by decide +kernel
theorem dX6_ofPrinciple_49 : decode cX6_ofPrinciple 49 = .ok (.if_icmp .ge 30, 3) := by decide +kernel
theorem dX6_ofPrinciple_52 : decode cX6_ofPrinciple 52 = .ok (.iload 4, 2) := by decide +kernel
theorem dX6_ofPrinciple_54 : decode cX6_ofPrinciple 54 = .ok (.aload_n 0, 1) := by decide +kernel
theorem dX6_ofPrinciple_55 : decode cX6_ofPrinciple 55 = .ok (.getfield 60, 3) := by decide +kernel
theorem dX6_ofPrinciple_58 : decode cX6_ofPrinciple 58 = .ok (.iload 5, 2) := by decide +kernel
theorem dX6_ofPrinciple_60 : decode cX6_ofPrinciple 60 = .ok (.iaload, 1) := by decide +kernel
theorem dX6_ofPrinciple_61 : decode cX6_ofPrinciple 61 = .ok (.iload_n 1, 1) := by decide +kernel
theorem dX6_ofPrinciple_62 : decode cX6_ofPrinciple 62 = .ok (.if_icmp .ne 7, 3) := by decide +kernel
theorem dX6_ofPrinciple_65 : decode cX6_ofPrinciple 65 = .ok (.iconst 1, 1) := by decide +kernel
theorem dX6_ofPrinciple_66 : decode cX6_ofPrinciple 66 = .ok (.goto 4, 3) := by decide +kernel
theorem dX6_ofPrinciple_69 : decode cX6_ofPrinciple 69 = .ok (.iconst 0, 1) := by decide +kernel
theorem dX6_ofPrinciple_70 : decode cX6_ofPrinciple 70 = .ok (.iadd, 1) := by decide +kernel
theorem dX6_ofPrinciple_71 : decode cX6_ofPrinciple 71 = .ok (.istore 4, 2) := by decide +kernel
theorem dX6_ofPrinciple_73 : decode cX6_ofPrinciple 73 = .ok (.iinc 5 1, 3) := by decide +kernel
theorem dX6_ofPrinciple_76 : decode cX6_ofPrinciple 76 = .ok (.goto (-33), 3) := by decide +kernel
theorem dX6_ofPrinciple_79 : decode cX6_ofPrinciple 79 = .ok (.iconst 0, 1) := by decide +kernel
theorem dX6_ofPrinciple_80 : decode cX6_ofPrinciple 80 = .ok (.istore 5, 2) := by decide +kernel
theorem dX6_ofPrinciple_82 : decode cX6_ofPrinciple 82 = .ok (.iconst 0, 1) := by decide +kernel
theorem dX6_ofPrinciple_83 : decode cX6_ofPrinciple 83 = .ok (.istore 6, 2) := by decide +kernel
theorem dX6_ofPrinciple_85 : decode cX6_ofPrinciple 85 = .ok (.iload 6, 2) := by decide +kernel
theorem dX6_ofPrinciple_87 : decode cX6_ofPrinciple 87 = .ok (.aload_n 0, 1) := by decide +kernel
theorem dX6_ofPrinciple_88 : decode cX6_ofPrinciple 88 = .ok (.getfield 180, 3) := by decide +kernel
theorem dX6_ofPrinciple_91 : decode cX6_ofPrinciple 91 = .ok (.if_icmp .ge 25, 3) := by decide +kernel
theorem dX6_ofPrinciple_94 : decode cX6_ofPrinciple 94 = .ok (.iload 5, 2) := by decide +kernel
theorem dX6_ofPrinciple_96 : decode cX6_ofPrinciple 96 = .ok (.aload_n 0, 1) := by decide +kernel
theorem dX6_ofPrinciple_97 : decode cX6_ofPrinciple 97 = .ok (.getfield 63, 3) := by decide +kernel
theorem dX6_ofPrinciple_100 : decode cX6_ofPrinciple 100 = .ok (.iload 6, 2) := by decide +kernel
theorem dX6_ofPrinciple_102 : decode cX6_ofPrinciple 102 = .ok (.iaload, 1) := by decide +kernel
theorem dX6_ofPrinciple_103 : decode cX6_ofPrinciple 103 = .ok (.iload_n 1, 1) := by decide +kernel
theorem dX6_ofPrinciple_104 : decode cX6_ofPrinciple 104 = .ok (.ishr, 1) := by decide +kernel
theorem dX6_ofPrinciple_105 : decode cX6_ofPrinciple 105 = .ok (.iconst 1, 1) := by decide +kernel
theorem dX6_ofPrinciple_106 : decode cX6_ofPrinciple 106 = .ok (.iand, 1) := by decide +kernel
theorem dX6_ofPrinciple_107 : decode cX6_ofPrinciple 107 = .ok (.iadd, 1) := by decide +kernel
theorem dX6_ofPrinciple_108 : decode cX6_ofPrinciple 108 = .ok (.istore 5, 2) := by decide +kernel
theorem dX6_ofPrinciple_110 : decode cX6_ofPrinciple 110 = .ok (.iinc 6 1, 3) := by decide +kernel
theorem dX6_ofPrinciple_113 : decode cX6_ofPrinciple 113 = .ok (.goto (-28), 3) := by decide +kernel
theorem dX6_ofPrinciple_116 : decode cX6_ofPrinciple 116 = .ok (.iload_n 2, 1) := by decide +kernel
theorem dX6_ofPrinciple_117 : decode cX6_ofPrinciple 117 = .ok (.ifCond .ne 12, 3) := by decide +kernel
theorem dX6_ofPrinciple_120 : decode cX6_ofPrinciple 120 = .ok (.aload_n 0, 1) := by decide +kernel
theorem dX6_ofPrinciple_121 : decode cX6_ofPrinciple 121 = .ok (.getfield 51, 3) := by decide +kernel
theorem dX6_ofPrinciple_124 : decode cX6_ofPrinciple 124 = .ok (.iload_n 1, 1) := by decide +kernel
theorem dX6_ofPrinciple_125 : decode cX6_ofPrinciple 125 = .ok (.iaload, 1) := by decide +kernel
theorem dX6_ofPrinciple_126 : decode cX6_ofPrinciple 126 = .ok (.goto 29, 3) := by decide +kernel
theorem dX6_ofPrinciple_129 : decode cX6_ofPrinciple 129 = .ok (.iload_n 2, 1) := by decide +kernel
theorem dX6_ofPrinciple_130 : decode cX6_ofPrinciple 130 = .ok (.iconst 1, 1) := by decide +kernel
theorem dX6_ofPrinciple_131 : decode cX6_ofPrinciple 131 = .ok (.if_icmp .ne 12, 3) := by decide +kernel
theorem dX6_ofPrinciple_134 : decode cX6_ofPrinciple 134 = .ok (.aload_n 0, 1) := by decide +kernel
theorem dX6_ofPrinciple_135 : decode cX6_ofPrinciple 135 = .ok (.getfield 54, 3) := by decide +kernel
theorem dX6_ofPrinciple_138 : decode cX6_ofPrinciple 138 = .ok (.iload_n 1, 1) := by decide +kernel
theorem dX6_ofPrinciple_139 : decode cX6_ofPrinciple 139 = .ok (.iaload, 1) := by decide +kernel
theorem dX6_ofPrinciple_140 : decode cX6_ofPrinciple 140 = .ok (.goto 15, 3) := by decide +kernel
theorem dX6_ofPrinciple_143 : decode cX6_ofPrinciple 143 = .ok (.iload_n 2, 1) := by decide +kernel
theorem dX6_ofPrinciple_144 : decode cX6_ofPrinciple 144 = .ok (.iconst 2, 1) := by decide +kernel
theorem dX6_ofPrinciple_145 : decode cX6_ofPrinciple 145 = .ok (.if_icmp .ne 8, 3) := by decide +kernel
theorem dX6_ofPrinciple_148 : decode cX6_ofPrinciple 148 = .ok (.iload 4, 2) := by decide +kernel
theorem dX6_ofPrinciple_150 : decode cX6_ofPrinciple 150 = .ok (.goto 5, 3) := by decide +kernel
theorem dX6_ofPrinciple_153 : decode cX6_ofPrinciple 153 = .ok (.iload 5, 2) := by decide +kernel
theorem dX6_ofPrinciple_155 : decode cX6_ofPrinciple 155 = .ok (.ireturn, 1) := by decide +kernel
set_option maxRecDepth 20000 in
theorem ggX6_isProblem_X6_in : GoodIn wsX6_isProblem wsX6_in := goodIn_r _ [5] (by decide +kernel) (by decide +kernel)
set_option maxRecDepth 20000 in
theorem gX6_isProblem_X6_in : GoodIn wsX6_isProblem (va_wsS RX6 85 yX6_in wsX6_in) := goodIn_app (goodIn_of _ (by decide +kernel)) ggX6_isProblem_X6_in
theorem dX6_isProblem_0 : decode cX6_isProblem 0 = .ok (.iload_n 1, 1) := by decide +kernel
theorem dX6_isProblem_1 : decode cX6_isProblem 1 = .ok (.iconst 0, 1) := by decide +kernel
theorem dX6_isProblem_2 : decode cX6_isProblem 2 = .ok (.aload_n 0, 1) := by decide +kernel
theorem dX6_isProblem_3 : decode cX6_isProblem 3 = .ok (.getfield 204, 3) := by decide +kernel
theorem dX6_isProblem_6 : decode cX6_isProblem 6 = .ok (.iconst 1, 1) := by decide +kernel
theorem dX6_isProblem_7 : decode cX6_isProblem 7 = .ok (.isub, 1) := by decide +kernel
theorem dX6_isProblem_8 : decode cX6_isProblem 8 = .ok (.invokestatic 85, 3) := by decide +kernel
theorem dX6_isProblem_11 : decode cX6_isProblem 11 = .ok (.ireturn, 1) := by decide +kernel
theorem dX6_isSolved_0 : decode cX6_isSolved 0 = .ok (.iload_n 0, 1) := by decide +kernel
theorem dX6_isSolved_1 : decode cX6_isSolved 1 = .ok (.iconst 4, 1) := by decide +kernel
theorem dX6_isSolved_2 : decode cX6_isSolved 2 = .ok (.iload_n 1, 1) := by decide +kernel
theorem dX6_isSolved_3 : decode cX6_isSolved 3 = .ok (.imul, 1) := by decide +kernel
theorem dX6_isSolved_4 : decode cX6_isSolved 4 = .ok (.iload_n 2, 1) := by decide +kernel
theorem dX6_isSolved_5 : decode cX6_isSolved 5 = .ok (.iadd, 1) := by decide +kernel
theorem dX6_isSolved_6 : decode cX6_isSolved 6 = .ok (.ishr, 1) := by decide +kernel
theorem dX6_isSolved_7 : decode cX6_isSolved 7 = .ok (.iconst 1, 1) := by decide +kernel
theorem dX6_isSolved_8 : decode cX6_isSolved 8 = .ok (.iand, 1) := by decide +kernel
theorem dX6_isSolved_9 : decode cX6_isSolved 9 = .ok (.iconst 1, 1) := by decide +kernel
theorem dX6_isSolved_10 : decode cX6_isSolved 10 = .ok (.if_icmp .ne 7, 3) := by decide +kernel
theorem dX6_isSolved_13 : decode cX6_isSolved 13 = .ok (.iconst 1, 1) := by decide +kernel
theorem dX6_isSolved_14 : decode cX6_isSolved 14 = .ok (.goto 4, 3) := by decide +kernel
theorem dX6_isSolved_17 : decode cX6_isSolved 17 = .ok (.iconst 0, 1) := by decide +kernel
theorem dX6_isSolved_18 : decode cX6_isSolved 18 = .ok (.ireturn, 1) := by decide +kernel
set_option maxRecDepth 20000 in
theorem ggX6_areAnswers_X6_isSolved : GoodIn wsX6_areAnswers wsX6_isSolved := goodIn_r _ [4] (by decide +kernel) (by decide +kernel)
set_option maxRecDepth 20000 in
theorem gX6_areAnswers_X6_isSolved : GoodIn wsX6_areAnswers (va_wsS RX6 207 yX6_isSolved wsX6_isSolved) := goodIn_app (goodIn_of _ (by decide +kernel)) ggX6_areAnswers_X6_isSolved
theorem dX6_areAnswers_0 : decode cX6_areAnswers 0 = .ok (.iload_n 0, 1) := by decide +kernel
theorem dX6_areAnswers_1 : decode cX6_areAnswers 1 = .ok (.istore_n 3, 1) := by decide +kernel
theorem dX6_areAnswers_2 : decode cX6_areAnswers 2 = .ok (.iconst 1, 1) := by decide +kernel
theorem dX6_areAnswers_3 : decode cX6_areAnswers 3 = .ok (.istore 4, 2) := by decide +kernel
theorem dX6_areAnswers_5 : decode cX6_areAnswers 5 = .ok (.iconst 0, 1) := by decide +kernel
theorem dX6_areAnswers_6 : decode cX6_areAnswers 6 = .ok (.istore 5, 2) := by decide +kernel
theorem dX6_areAnswers_8 : decode cX6_areAnswers 8 = .ok (.iload 5, 2) := by decide +kernel
theorem dX6_areAnswers_10 : decode cX6_areAnswers 10 = .ok (.iload_n 1, 1) := by decide +kernel
theorem dX6_areAnswers_11 : decode cX6_areAnswers 11 = .ok (.if_icmp .ge 81, 3) := by decide +kernel
theorem dX6_areAnswers_14 : decode cX6_areAnswers 14 = .ok (.iconst 0, 1) := by decide +kernel
theorem dX6_areAnswers_15 : decode cX6_areAnswers 15 = .ok (.istore 6, 2) := by decide +kernel
theorem dX6_areAnswers_17 : decode cX6_areAnswers 17 = .ok (.iconst 0, 1) := by decide +kernel
theorem dX6_areAnswers_18 : decode cX6_areAnswers 18 = .ok (.istore 7, 2) := by decide +kernel
theorem dX6_areAnswers_20 : decode cX6_areAnswers 20 = .ok (.iload 7, 2) := by decide +kernel
theorem dX6_areAnswers_22 : decode cX6_areAnswers 22 = .ok (.iload_n 2, 1) := by decide +kernel
theorem dX6_areAnswers_23 : decode cX6_areAnswers 23 = .ok (.if_icmp .ge 46, 3) := by decide +kernel
theorem dX6_areAnswers_26 : decode cX6_areAnswers 26 = .ok (.iload 6, 2) := by decide +kernel
theorem dX6_areAnswers_28 : decode cX6_areAnswers 28 = .ok (.ifCond .ne 14, 3) := by decide +kernel
theorem dX6_areAnswers_31 : decode cX6_areAnswers 31 = .ok (.iload_n 0, 1) := by decide +kernel
theorem dX6_areAnswers_32 : decode cX6_areAnswers 32 = .ok (.iload 5, 2) := by decide +kernel
theorem dX6_areAnswers_34 : decode cX6_areAnswers 34 = .ok (.iload 7, 2) := by decide +kernel
theorem dX6_areAnswers_36 : decode cX6_areAnswers 36 = .ok (.invokestatic 207, 3) := by decide +kernel
theorem dX6_areAnswers_39 : decode cX6_areAnswers 39 = .ok (.ifCond .eq 7, 3) := by decide +kernel
theorem dX6_areAnswers_42 : decode cX6_areAnswers 42 = .ok (.iconst 1, 1) := by decide +kernel
theorem dX6_areAnswers_43 : decode cX6_areAnswers 43 = .ok (.goto 4, 3) := by decide +kernel
theorem dX6_areAnswers_46 : decode cX6_areAnswers 46 = .ok (.iconst 0, 1) := by decide +kernel
theorem dX6_areAnswers_47 : decode cX6_areAnswers 47 = .ok (.istore 6, 2) := by decide +kernel
theorem dX6_areAnswers_49 : decode cX6_areAnswers 49 = .ok (.iload_n 3, 1) := by decide +kernel
theorem dX6_areAnswers_50 : decode cX6_areAnswers 50 = .ok (.iconst 1, 1) := by decide +kernel
theorem dX6_areAnswers_51 : decode cX6_areAnswers 51 = .ok (.iconst 4, 1) := by decide +kernel
theorem dX6_areAnswers_52 : decode cX6_areAnswers 52 = .ok (.iload 5, 2) := by decide +kernel
theorem dX6_areAnswers_54 : decode cX6_areAnswers 54 = .ok (.imul, 1) := by decide +kernel
theorem dX6_areAnswers_55 : decode cX6_areAnswers 55 = .ok (.iload 7, 2) := by decide +kernel
theorem dX6_areAnswers_57 : decode cX6_areAnswers 57 = .ok (.iadd, 1) := by decide +kernel
theorem dX6_areAnswers_58 : decode cX6_areAnswers 58 = .ok (.ishl, 1) := by decide +kernel
theorem dX6_areAnswers_59 : decode cX6_areAnswers 59 = .ok (.iconst (-1), 1) := by decide +kernel
theorem dX6_areAnswers_60 : decode cX6_areAnswers 60 = .ok (.ixor, 1) := by decide +kernel
theorem dX6_areAnswers_61 : decode cX6_areAnswers 61 = .ok (.iand, 1) := by decide +kernel
theorem dX6_areAnswers_62 : decode cX6_areAnswers 62 = .ok (.istore_n 3, 1) := by decide +kernel
theorem dX6_areAnswers_63 : decode cX6_areAnswers 63 = .ok (.iinc 7 1, 3) := by decide +kernel
theorem dX6_areAnswers_66 : decode cX6_areAnswers 66 = .ok (.goto (-46), 3) := by decide +kernel
theorem dX6_areAnswers_69 : decode cX6_areAnswers 69 = .ok (.iload 4, 2) := by decide +kernel
theorem dX6_areAnswers_71 : decode cX6_areAnswers 71 = .ok (.ifCond .eq 12, 3) := by decide +kernel
theorem dX6_areAnswers_74 : decode cX6_areAnswers 74 = .ok (.iload 6, 2) := by decide +kernel
theorem dX6_areAnswers_76 : decode cX6_areAnswers 76 = .ok (.ifCond .eq 7, 3) := by decide +kernel
theorem dX6_areAnswers_79 : decode cX6_areAnswers 79 = .ok (.iconst 1, 1) := by decide +kernel
theorem dX6_areAnswers_80 : decode cX6_areAnswers 80 = .ok (.goto 4, 3) := by decide +kernel
theorem dX6_areAnswers_83 : decode cX6_areAnswers 83 = .ok (.iconst 0, 1) := by decide +kernel
theorem dX6_areAnswers_84 : decode cX6_areAnswers 84 = .ok (.istore 4, 2) := by decide +kernel
theorem dX6_areAnswers_86 : decode cX6_areAnswers 86 = .ok (.iinc 5 1, 3) := by decide +kernel
theorem dX6_areAnswers_89 : decode cX6_areAnswers 89 = .ok (.goto (-81), 3) := by decide +kernel
theorem dX6_areAnswers_92 : decode cX6_areAnswers 92 = .ok (.iload 4, 2) := by decide +kernel
theorem dX6_areAnswers_94 : decode cX6_areAnswers 94 = .ok (.ifCond .eq 11, 3) := by decide +kernel
theorem dX6_areAnswers_97 : decode cX6_areAnswers 97 = .ok (.iload_n 3, 1) := by decide +kernel
theorem dX6_areAnswers_98 : decode cX6_areAnswers 98 = .ok (.ifCond .ne 7, 3) := by decide +kernel
theorem dX6_areAnswers_101 : decode cX6_areAnswers 101 = .ok (.iconst 1, 1) := by decide +kernel
theorem dX6_areAnswers_102 : decode cX6_areAnswers 102 = .ok (.goto 4, 3) := by decide +kernel
theorem dX6_areAnswers_105 : decode cX6_areAnswers 105 = .ok (.iconst 0, 1) := by decide +kernel
theorem dX6_areAnswers_106 : decode cX6_areAnswers 106 = .ok (.ireturn, 1) := by decide +kernel
theorem dX6_addProblem_0 : decode cX6_addProblem 0 = .ok (.aload_n 0, 1) := by decide +kernel
theorem dX6_addProblem_1 : decode cX6_addProblem 1 = .ok (.getfield 69, 3) := by decide +kernel
theorem dX6_addProblem_4 : decode cX6_addProblem 4 = .ok (.aload_n 0, 1) := by decide +kernel
theorem dX6_addProblem_5 : decode cX6_addProblem 5 = .ok (.getfield 204, 3) := by decide +kernel
theorem dX6_addProblem_8 : decode cX6_addProblem 8 = .ok (.iload_n 1, 1) := by decide +kernel
theorem dX6_addProblem_9 : decode cX6_addProblem 9 = .ok (.iastore, 1) := by decide +kernel
theorem dX6_addProblem_10 : decode cX6_addProblem 10 = .ok (.aload_n 0, 1) := by decide +kernel
theorem dX6_addProblem_11 : decode cX6_addProblem 11 = .ok (.getfield 72, 3) := by decide +kernel
theorem dX6_addProblem_14 : decode cX6_addProblem 14 = .ok (.aload_n 0, 1) := by decide +kernel
theorem dX6_addProblem_15 : decode cX6_addProblem 15 = .ok (.getfield 204, 3) := by decide +kernel
theorem dX6_addProblem_18 : decode cX6_addProblem 18 = .ok (.iload_n 2, 1) := by decide +kernel
theorem dX6_addProblem_19 : decode cX6_addProblem 19 = .ok (.iastore, 1) := by decide +kernel
theorem dX6_addProblem_20 : decode cX6_addProblem 20 = .ok (.aload_n 0, 1) := by decide +kernel
theorem dX6_addProblem_21 : decode cX6_addProblem 21 = .ok (.getfield 75, 3) := by decide +kernel
theorem dX6_addProblem_24 : decode cX6_addProblem 24 = .ok (.aload_n 0, 1) := by decide +kernel
theorem dX6_addProblem_25 : decode cX6_addProblem 25 = .ok (.getfield 204, 3) := by decide +kernel
theorem dX6_addProblem_28 : decode cX6_addProblem 28 = .ok (.iload_n 3, 1) := by decide +kernel
theorem dX6_addProblem_29 : decode cX6_addProblem 29 = .ok (.iastore, 1) := by decide +kernel
theorem dX6_addProblem_30 : decode cX6_addProblem 30 = .ok (.aload_n 0, 1) := by decide +kernel
theorem dX6_addProblem_31 : decode cX6_addProblem 31 = .ok (.dup, 1) := by decide +kernel
theorem dX6_addProblem_32 : decode cX6_addProblem 32 = .ok (.getfield 204, 3) := by decide +kernel
theorem dX6_addProblem_35 : decode cX6_addProblem 35 = .ok (.iconst 1, 1) := by decide +kernel
theorem dX6_addProblem_36 : decode cX6_addProblem 36 = .ok (.iadd, 1) := by decide +kernel
theorem dX6_addProblem_37 : decode cX6_addProblem 37 = .ok (.putfield 204, 3) := by decide +kernel
theorem dX6_addProblem_40 : decode cX6_addProblem 40 = .ok (.aload_n 0, 1) := by decide +kernel
theorem dX6_addProblem_41 : decode cX6_addProblem 41 = .ok (.getfield 204, 3) := by decide +kernel
theorem dX6_addProblem_44 : decode cX6_addProblem 44 = .ok (.iconst 1, 1) := by decide +kernel
theorem dX6_addProblem_45 : decode cX6_addProblem 45 = .ok (.isub, 1) := by decide +kernel
theorem dX6_addProblem_46 : decode cX6_addProblem 46 = .ok (.ireturn, 1) := by decide +kernel
set_option maxRecDepth 20000 in
theorem ggX6_problem_X6_in : GoodIn wsX6_problem wsX6_in := goodIn_r _ [5] (by decide +kernel) (by decide +kernel)
set_option maxRecDepth 20000 in
theorem gX6_problem_X6_in : GoodIn wsX6_problem (va_wsS RX6 85 yX6_in wsX6_in) := goodIn_app (goodIn_of _ (by decide +kernel)) ggX6_problem_X6_in
set_option maxRecDepth 20000 in
theorem ggX6_problem_X6_areAnswers : GoodIn wsX6_problem wsX6_areAnswers := goodIn_r _ [8, 9, 10, 4, 11] (by decide +kernel) (by decide +kernel)
set_option maxRecDepth 20000 in
theorem gX6_problem_X6_areAnswers : GoodIn wsX6_problem (va_wsS RX6 210 yX6_areAnswers wsX6_areAnswers) := goodIn_app (goodIn_of _ (by decide +kernel)) ggX6_problem_X6_areAnswers
set_option maxRecDepth 20000 in
theorem ggX6_problem_X6_goesWell : GoodIn wsX6_problem wsX6_goesWell := goodIn_r _ [15, 16, 24, 25, 26, 27, 28, 29, 30, 31, 32, 33, 34, 35, 36, 37, 38, 39, 40, 41, 42, 43, 44, 45, 46, 47, 48, 49, 50, 51, 52, 53, 54, 55] (by decide +kernel) (by decide +kernel)
set_option maxRecDepth 20000 in
theorem gX6_problem_X6_goesWell : GoodIn wsX6_problem (wsV RX6 99 RX6 yX6_goesWell wsX6_goesWell) := goodIn_app (goodIn_of _ (by decide +kernel)) ggX6_problem_X6_goesWell
set_option maxRecDepth 20000 in
theorem ggX6_problem_X6_addProblem : GoodIn wsX6_problem wsX6_addProblem := goodIn_r _ [20, 21, 1, 22, 23, 24, 25, 26, 27, 28, 29, 30, 31, 32, 33, 34, 35, 36, 37, 38, 39, 40, 41, 42, 43, 44, 45, 46, 47, 48, 49, 50, 51, 52, 53, 54, 55] (by decide +kernel) (by decide +kernel)
set_option maxRecDepth 20000 in
theorem gX6_problem_X6_addProblem : GoodIn wsX6_problem (wsV RX6 213 RX6 yX6_addProblem wsX6_addProblem) := goodIn_app (goodIn_of _ (by decide +kernel)) ggX6_problem_X6_addProblem
theorem dX6_problem_0 : decode cX6_problem 0 = .ok (.iload_n 1, 1) := by decide +kernel
theorem dX6_problem_1 : decode cX6_problem 1 = .ok (.iconst 1, 1) := by decide +kernel
theorem dX6_problem_2 : decode cX6_problem 2 = .ok (.iconst 4, 1) := by decide +kernel
theorem dX6_problem_3 : decode cX6_problem 3 = .ok (.invokestatic 85, 3) := by decide +kernel
theorem dX6_problem_6 : decode cX6_problem 6 = .ok (.ifCond .eq 25, 3) := by decide +kernel
theorem dX6_problem_9 : decode cX6_problem 9 = .ok (.iload_n 2, 1) := by decide +kernel
theorem dX6_problem_10 : decode cX6_problem 10 = .ok (.iconst 1, 1) := by decide +kernel
theorem dX6_problem_11 : decode cX6_problem 11 = .ok (.iconst 4, 1) := by decide +kernel
theorem dX6_problem_12 : decode cX6_problem 12 = .ok (.invokestatic 85, 3) := by decide +kernel
theorem dX6_problem_15 : decode cX6_problem 15 = .ok (.ifCond .eq 16, 3) := by decide +kernel
theorem dX6_problem_18 : decode cX6_problem 18 = .ok (.iload_n 3, 1) := by decide +kernel
theorem dX6_problem_19 : decode cX6_problem 19 = .ok (.iload_n 1, 1) := by decide +kernel
theorem dX6_problem_20 : decode cX6_problem 20 = .ok (.iload_n 2, 1) := by decide +kernel
theorem dX6_problem_21 : decode cX6_problem 21 = .ok (.invokestatic 210, 3) := by decide +kernel
theorem dX6_problem_24 : decode cX6_problem 24 = .ok (.ifCond .eq 7, 3) := by decide +kernel
theorem dX6_problem_27 : decode cX6_problem 27 = .ok (.iconst 1, 1) := by decide +kernel
theorem dX6_problem_28 : decode cX6_problem 28 = .ok (.goto 4, 3) := by decide +kernel
theorem dX6_problem_31 : decode cX6_problem 31 = .ok (.iconst 0, 1) := by decide +kernel
theorem dX6_problem_32 : decode cX6_problem 32 = .ok (.istore 4, 2) := by decide +kernel
theorem dX6_problem_34 : decode cX6_problem 34 = .ok (.aload_n 0, 1) := by decide +kernel
theorem dX6_problem_35 : decode cX6_problem 35 = .ok (.iload 4, 2) := by decide +kernel
theorem dX6_problem_37 : decode cX6_problem 37 = .ok (.ifCond .ne 7, 3) := by decide +kernel
theorem dX6_problem_40 : decode cX6_problem 40 = .ok (.iconst 1, 1) := by decide +kernel
theorem dX6_problem_41 : decode cX6_problem 41 = .ok (.goto 17, 3) := by decide +kernel
theorem dX6_problem_44 : decode cX6_problem 44 = .ok (.aload_n 0, 1) := by decide +kernel
theorem dX6_problem_45 : decode cX6_problem 45 = .ok (.getfield 204, 3) := by decide +kernel
theorem dX6_problem_48 : decode cX6_problem 48 = .ok (.bipush 6, 2) := by decide +kernel
theorem dX6_problem_50 : decode cX6_problem 50 = .ok (.if_icmp .ne 7, 3) := by decide +kernel
theorem dX6_problem_53 : decode cX6_problem 53 = .ok (.iconst 2, 1) := by decide +kernel
theorem dX6_problem_54 : decode cX6_problem 54 = .ok (.goto 4, 3) := by decide +kernel
theorem dX6_problem_57 : decode cX6_problem 57 = .ok (.iconst 0, 1) := by decide +kernel
theorem dX6_problem_58 : decode cX6_problem 58 = .ok (.invokevirtual 99, 3) := by decide +kernel
theorem dX6_problem_61 : decode cX6_problem 61 = .ok (.ifCond .eq 13, 3) := by decide +kernel
theorem dX6_problem_64 : decode cX6_problem 64 = .ok (.aload_n 0, 1) := by decide +kernel
theorem dX6_problem_65 : decode cX6_problem 65 = .ok (.iload_n 1, 1) := by decide +kernel
theorem dX6_problem_66 : decode cX6_problem 66 = .ok (.iload_n 2, 1) := by decide +kernel
theorem dX6_problem_67 : decode cX6_problem 67 = .ok (.iload_n 3, 1) := by decide +kernel
theorem dX6_problem_68 : decode cX6_problem 68 = .ok (.invokevirtual 213, 3) := by decide +kernel
theorem dX6_problem_71 : decode cX6_problem 71 = .ok (.goto 4, 3) := by decide +kernel
theorem dX6_problem_74 : decode cX6_problem 74 = .ok (.iconst 0, 1) := by decide +kernel
theorem dX6_problem_75 : decode cX6_problem 75 = .ok (.ireturn, 1) := by decide +kernel
set_option maxRecDepth 20000 in
theorem ggX6_product_X6_isProblem : GoodIn wsX6_product wsX6_isProblem := goodIn_r _ [9, 1, 10, 11, 8, 12, 25, 26, 27, 28, 29, 30, 31, 32, 33, 34, 35, 36, 37, 38, 39, 40, 41, 42, 43, 44, 45, 46, 47, 48, 49, 50, 51, 52, 53, 54, 55, 56] (by decide +kernel) (by decide +kernel)
set_option maxRecDepth 20000 in
theorem gX6_product_X6_isProblem : GoodIn wsX6_product (wsV RX6 217 RX6 yX6_isProblem wsX6_isProblem) := goodIn_app (goodIn_of _ (by decide +kernel)) ggX6_product_X6_isProblem
set_option maxRecDepth 20000 in
theorem ggX6_product_X6_goesWell : GoodIn wsX6_product wsX6_goesWell := goodIn_r _ [16, 17, 25, 26, 27, 28, 29, 30, 31, 32, 33, 34, 35, 36, 37, 38, 39, 40, 41, 42, 43, 44, 45, 46, 47, 48, 49, 50, 51, 52, 53, 54, 55, 56] (by decide +kernel) (by decide +kernel)
set_option maxRecDepth 20000 in
theorem gX6_product_X6_goesWell : GoodIn wsX6_product (wsV RX6 99 RX6 yX6_goesWell wsX6_goesWell) := goodIn_app (goodIn_of _ (by decide +kernel)) ggX6_product_X6_goesWell
set_option maxRecDepth 20000 in
theorem ggX6_product_X6_isSolved : GoodIn wsX6_product wsX6_isSolved := goodIn_r _ [20] (by decide +kernel) (by decide +kernel)
set_option maxRecDepth 20000 in
theorem gX6_product_X6_isSolved : GoodIn wsX6_product (va_wsS RX6 207 yX6_isSolved wsX6_isSolved) := goodIn_app (goodIn_of _ (by decide +kernel)) ggX6_product_X6_isSolved
set_option maxRecDepth 20000 in
theorem ggX6_product_X6_addProblem : GoodIn wsX6_product wsX6_addProblem := goodIn_r _ [24, 2, 1, 3, 4, 25, 26, 27, 28, 29, 30, 31, 32, 33, 34, 35, 36, 37, 38, 39, 40, 41, 42, 43, 44, 45, 46, 47, 48, 49, 50, 51, 52, 53, 54, 55, 56] (by decide +kernel) (by decide +kernel)
set_option maxRecDepth 20000 in
theorem gX6_product_X6_addProblem : GoodIn wsX6_product (wsV RX6 213 RX6 yX6_addProblem wsX6_addProblem) := goodIn_app (goodIn_of _ (by decide +kernel)) ggX6_product_X6_addProblem
theorem dX6_product_0 : decode cX6_product 0 = .ok (.aload_n 0, 1) := by decide +kernel
theorem dX6_product_1 : decode cX6_product 1 = .ok (.iload_n 1, 1) := by decide +kernel
theorem dX6_product_2 : decode cX6_product 2 = .ok (.invokevirtual 217, 3) := by decide +kernel
theorem dX6_product_5 : decode cX6_product 5 = .ok (.ifCond .eq 15, 3) := by decide +kernel
theorem dX6_product_8 : decode cX6_product 8 = .ok (.aload_n 0, 1) := by decide +kernel
theorem dX6_product_9 : decode cX6_product 9 = .ok (.iload_n 2, 1) := by decide +kernel
theorem dX6_product_10 : decode cX6_product 10 = .ok (.invokevirtual 217, 3) := by decide +kernel
theorem dX6_product_13 : decode cX6_product 13 = .ok (.ifCond .eq 7, 3) := by decide +kernel
theorem dX6_product_16 : decode cX6_product 16 = .ok (.iconst 1, 1) := by decide +kernel
theorem dX6_product_17 : decode cX6_product 17 = .ok (.goto 4, 3) := by decide +kernel
theorem dX6_product_20 : decode cX6_product 20 = .ok (.iconst 0, 1) := by decide +kernel
theorem dX6_product_21 : decode cX6_product 21 = .ok (.istore_n 3, 1) := by decide +kernel
theorem dX6_product_22 : decode cX6_product 22 = .ok (.iload_n 3, 1) := by decide +kernel
theorem dX6_product_23 : decode cX6_product 23 = .ok (.ifCond .eq 50, 3) := by decide +kernel
theorem dX6_product_26 : decode cX6_product 26 = .ok (.aload_n 0, 1) := by decide +kernel
theorem dX6_product_27 : decode cX6_product 27 = .ok (.getfield 204, 3) := by decide +kernel
theorem dX6_product_30 : decode cX6_product 30 = .ok (.bipush 6, 2) := by decide +kernel
theorem dX6_product_32 : decode cX6_product 32 = .ok (.if_icmp .ge 41, 3) := by decide +kernel
theorem dX6_product_35 : decode cX6_product 35 = .ok (.aload_n 0, 1) := by decide +kernel
theorem dX6_product_36 : decode cX6_product 36 = .ok (.getfield 69, 3) := by decide +kernel
theorem dX6_product_39 : decode cX6_product 39 = .ok (.iload_n 1, 1) := by decide +kernel
theorem dX6_product_40 : decode cX6_product 40 = .ok (.iaload, 1) := by decide +kernel
theorem dX6_product_41 : decode cX6_product 41 = .ok (.aload_n 0, 1) := by decide +kernel
theorem dX6_product_42 : decode cX6_product 42 = .ok (.getfield 69, 3) := by decide +kernel
theorem dX6_product_45 : decode cX6_product 45 = .ok (.iload_n 2, 1) := by decide +kernel
theorem dX6_product_46 : decode cX6_product 46 = .ok (.iaload, 1) := by decide +kernel
theorem dX6_product_47 : decode cX6_product 47 = .ok (.imul, 1) := by decide +kernel
theorem dX6_product_48 : decode cX6_product 48 = .ok (.iconst 4, 1) := by decide +kernel
theorem dX6_product_49 : decode cX6_product 49 = .ok (.if_icmp .gt 24, 3) := by decide +kernel
theorem dX6_product_52 : decode cX6_product 52 = .ok (.aload_n 0, 1) := by decide +kernel
theorem dX6_product_53 : decode cX6_product 53 = .ok (.getfield 72, 3) := by decide +kernel
theorem dX6_product_56 : decode cX6_product 56 = .ok (.iload_n 1, 1) := by decide +kernel
theorem dX6_product_57 : decode cX6_product 57 = .ok (.iaload, 1) := by decide +kernel
theorem dX6_product_58 : decode cX6_product 58 = .ok (.aload_n 0, 1) := by decide +kernel
theorem dX6_product_59 : decode cX6_product 59 = .ok (.getfield 72, 3) := by decide +kernel
theorem dX6_product_62 : decode cX6_product 62 = .ok (.iload_n 2, 1) := by decide +kernel
theorem dX6_product_63 : decode cX6_product 63 = .ok (.iaload, 1) := by decide +kernel
theorem dX6_product_64 : decode cX6_product 64 = .ok (.imul, 1) := by decide +kernel
theorem dX6_product_65 : decode cX6_product 65 = .ok (.iconst 4, 1) := by decide +kernel
theorem dX6_product_66 : decode cX6_product 66 = .ok (.if_icmp .gt 7, 3) := by decide +kernel
theorem dX6_product_69 : decode cX6_product 69 = .ok (.iconst 1, 1) := by decide +kernel
theorem dX6_product_70 : decode cX6_product 70 = .ok (.goto 4, 3) := by decide +kernel
theorem dX6_product_73 : decode cX6_product 73 = .ok (.iconst 0, 1) := by decide +kernel
theorem dX6_product_74 : decode cX6_product 74 = .ok (.istore 4, 2) := by decide +kernel
theorem dX6_product_76 : decode cX6_product 76 = .ok (.aload_n 0, 1) := by decide +kernel
theorem dX6_product_77 : decode cX6_product 77 = .ok (.iload_n 3, 1) := by decide +kernel
theorem dX6_product_78 : decode cX6_product 78 = .ok (.ifCond .ne 7, 3) := by decide +kernel
theorem dX6_product_81 : decode cX6_product 81 = .ok (.iconst 1, 1) := by decide +kernel
theorem dX6_product_82 : decode cX6_product 82 = .ok (.goto 13, 3) := by decide +kernel
theorem dX6_product_85 : decode cX6_product 85 = .ok (.iload 4, 2) := by decide +kernel
theorem dX6_product_87 : decode cX6_product 87 = .ok (.ifCond .eq 7, 3) := by decide +kernel
theorem dX6_product_90 : decode cX6_product 90 = .ok (.iconst 0, 1) := by decide +kernel
theorem dX6_product_91 : decode cX6_product 91 = .ok (.goto 4, 3) := by decide +kernel
theorem dX6_product_94 : decode cX6_product 94 = .ok (.iconst 2, 1) := by decide +kernel
theorem dX6_product_95 : decode cX6_product 95 = .ok (.invokevirtual 99, 3) := by decide +kernel
theorem dX6_product_98 : decode cX6_product 98 = .ok (.ifCond .ne 5, 3) := by decide +kernel
theorem dX6_product_101 : decode cX6_product 101 = .ok (.iconst 0, 1) := by decide +kernel
theorem dX6_product_102 : decode cX6_product 102 = .ok (.ireturn, 1) := by decide +kernel
theorem dX6_product_103 : decode cX6_product 103 = .ok (.aload_n 0, 1) := by decide +kernel
theorem dX6_product_104 : decode cX6_product 104 = .ok (.getfield 69, 3) := by decide +kernel
theorem dX6_product_107 : decode cX6_product 107 = .ok (.iload_n 1, 1) := by decide +kernel
theorem dX6_product_108 : decode cX6_product 108 = .ok (.iaload, 1) := by decide +kernel
theorem dX6_product_109 : decode cX6_product 109 = .ok (.aload_n 0, 1) := by decide +kernel
theorem dX6_product_110 : decode cX6_product 110 = .ok (.getfield 69, 3) := by decide +kernel
theorem dX6_product_113 : decode cX6_product 113 = .ok (.iload_n 2, 1) := by decide +kernel
theorem dX6_product_114 : decode cX6_product 114 = .ok (.iaload, 1) := by decide +kernel
theorem dX6_product_115 : decode cX6_product 115 = .ok (.imul, 1) := by decide +kernel
theorem dX6_product_116 : decode cX6_product 116 = .ok (.istore 5, 2) := by decide +kernel
theorem dX6_product_118 : decode cX6_product 118 = .ok (.aload_n 0, 1) := by decide +kernel
theorem dX6_product_119 : decode cX6_product 119 = .ok (.getfield 72, 3) := by decide +kernel
theorem dX6_product_122 : decode cX6_product 122 = .ok (.iload_n 1, 1) := by decide +kernel
theorem dX6_product_123 : decode cX6_product 123 = .ok (.iaload, 1) := by decide +kernel
theorem dX6_product_124 : decode cX6_product 124 = .ok (.aload_n 0, 1) := by decide +kernel
theorem dX6_product_125 : decode cX6_product 125 = .ok (.getfield 72, 3) := by decide +kernel
theorem dX6_product_128 : decode cX6_product 128 = .ok (.iload_n 2, 1) := by decide +kernel
theorem dX6_product_129 : decode cX6_product 129 = .ok (.iaload, 1) := by decide +kernel
theorem dX6_product_130 : decode cX6_product 130 = .ok (.imul, 1) := by decide +kernel
theorem dX6_product_131 : decode cX6_product 131 = .ok (.istore 6, 2) := by decide +kernel
theorem dX6_product_133 : decode cX6_product 133 = .ok (.iconst 0, 1) := by decide +kernel
theorem dX6_product_134 : decode cX6_product 134 = .ok (.istore 7, 2) := by decide +kernel
theorem dX6_product_136 : decode cX6_product 136 = .ok (.iconst 0, 1) := by decide +kernel
theorem dX6_product_137 : decode cX6_product 137 = .ok (.istore 8, 2) := by decide +kernel
theorem dX6_product_139 : decode cX6_product 139 = .ok (.iload 8, 2) := by decide +kernel
theorem dX6_product_141 : decode cX6_product 141 = .ok (.iload 5, 2) := by decide +kernel
theorem dX6_product_143 : decode cX6_product 143 = .ok (.if_icmp .ge 111, 3) := by decide +kernel
theorem dX6_product_146 : decode cX6_product 146 = .ok (.iconst 0, 1) := by decide +kernel
theorem dX6_product_147 : decode cX6_product 147 = .ok (.istore 9, 2) := by decide +kernel
theorem dX6_product_149 : decode cX6_product 149 = .ok (.iload 9, 2) := by decide +kernel
theorem dX6_product_151 : decode cX6_product 151 = .ok (.iload 6, 2) := by decide +kernel
theorem dX6_product_153 : decode cX6_product 153 = .ok (.if_icmp .ge 95, 3) := by decide +kernel
theorem dX6_product_156 : decode cX6_product 156 = .ok (.aload_n 0, 1) := by decide +kernel
theorem dX6_product_157 : decode cX6_product 157 = .ok (.getfield 75, 3) := by decide +kernel
theorem dX6_product_160 : decode cX6_product 160 = .ok (.iload_n 1, 1) := by decide +kernel
theorem dX6_product_161 : decode cX6_product 161 = .ok (.iaload, 1) := by decide +kernel
theorem dX6_product_162 : decode cX6_product 162 = .ok (.iload 8, 2) := by decide +kernel
theorem dX6_product_164 : decode cX6_product 164 = .ok (.aload_n 0, 1) := by decide +kernel
theorem dX6_product_165 : decode cX6_product 165 = .ok (.getfield 69, 3) := by decide +kernel
theorem dX6_product_168 : decode cX6_product 168 = .ok (.iload_n 2, 1) := by decide +kernel
theorem dX6_product_169 : decode cX6_product 169 = .ok (.iaload, 1) := by decide +kernel
theorem dX6_product_170 : decode cX6_product 170 = .ok (.idiv, 1) := by decide +kernel
theorem dX6_product_171 : decode cX6_product 171 = .ok (.iload 9, 2) := by decide +kernel
theorem dX6_product_173 : decode cX6_product 173 = .ok (.aload_n 0, 1) := by decide +kernel
theorem dX6_product_174 : decode cX6_product 174 = .ok (.getfield 72, 3) := by decide +kernel
theorem dX6_product_177 : decode cX6_product 177 = .ok (.iload_n 2, 1) := by decide +kernel
theorem dX6_product_178 : decode cX6_product 178 = .ok (.iaload, 1) := by decide +kernel
theorem dX6_product_179 : decode cX6_product 179 = .ok (.idiv, 1) := by decide +kernel
theorem dX6_product_180 : decode cX6_product 180 = .ok (.invokestatic 207, 3) := by decide +kernel
theorem dX6_product_183 : decode cX6_product 183 = .ok (.istore 10, 2) := by decide +kernel
theorem dX6_product_185 : decode cX6_product 185 = .ok (.aload_n 0, 1) := by decide +kernel
theorem dX6_product_186 : decode cX6_product 186 = .ok (.getfield 75, 3) := by decide +kernel
theorem dX6_product_189 : decode cX6_product 189 = .ok (.iload_n 2, 1) := by decide +kernel
theorem dX6_product_190 : decode cX6_product 190 = .ok (.iaload, 1) := by decide +kernel
theorem dX6_product_191 : decode cX6_product 191 = .ok (.iload 8, 2) := by decide +kernel
theorem dX6_product_193 : decode cX6_product 193 = .ok (.aload_n 0, 1) := by decide +kernel
theorem dX6_product_194 : decode cX6_product 194 = .ok (.getfield 69, 3) := by decide +kernel
theorem dX6_product_197 : decode cX6_product 197 = .ok (.iload_n 2, 1) := by decide +kernel
theorem dX6_product_198 : decode cX6_product 198 = .ok (.iaload, 1) := by decide +kernel
theorem dX6_product_199 : decode cX6_product 199 = .ok (.irem, 1) := by decide +kernel
theorem dX6_product_200 : decode cX6_product 200 = .ok (.iload 9, 2) := by decide +kernel
theorem dX6_product_202 : decode cX6_product 202 = .ok (.aload_n 0, 1) := by decide +kernel
theorem dX6_product_203 : decode cX6_product 203 = .ok (.getfield 72, 3) := by decide +kernel
theorem dX6_product_206 : decode cX6_product 206 = .ok (.iload_n 2, 1) := by decide +kernel
theorem dX6_product_207 : decode cX6_product 207 = .ok (.iaload, 1) := by decide +kernel
theorem dX6_product_208 : decode cX6_product 208 = .ok (.irem, 1) := by decide +kernel
theorem dX6_product_209 : decode cX6_product 209 = .ok (.invokestatic 207, 3) := by decide +kernel
theorem dX6_product_212 : decode cX6_product 212 = .ok (.istore 11, 2) := by decide +kernel
theorem dX6_product_214 : decode cX6_product 214 = .ok (.iload 7, 2) := by decide +kernel
theorem dX6_product_216 : decode cX6_product 216 = .ok (.iload 10, 2) := by decide +kernel
theorem dX6_product_218 : decode cX6_product 218 = .ok (.ifCond .eq 20, 3) := by decide +kernel
theorem dX6_product_221 : decode cX6_product 221 = .ok (.iload 11, 2) := by decide +kernel
theorem dX6_product_223 : decode cX6_product 223 = .ok (.ifCond .eq 15, 3) := by decide +kernel
theorem dX6_product_226 : decode cX6_product 226 = .ok (.iconst 1, 1) := by decide +kernel
theorem dX6_product_227 : decode cX6_product 227 = .ok (.iconst 4, 1) := by decide +kernel
theorem dX6_product_228 : decode cX6_product 228 = .ok (.iload 8, 2) := by decide +kernel
theorem dX6_product_230 : decode cX6_product 230 = .ok (.imul, 1) := by decide +kernel
theorem dX6_product_231 : decode cX6_product 231 = .ok (.iload 9, 2) := by decide +kernel
theorem dX6_product_233 : decode cX6_product 233 = .ok (.iadd, 1) := by decide +kernel
theorem dX6_product_234 : decode cX6_product 234 = .ok (.ishl, 1) := by decide +kernel
theorem dX6_product_235 : decode cX6_product 235 = .ok (.goto 4, 3) := by decide +kernel
theorem dX6_product_238 : decode cX6_product 238 = .ok (.iconst 0, 1) := by decide +kernel
theorem dX6_product_239 : decode cX6_product 239 = .ok (.ior, 1) := by decide +kernel
theorem dX6_product_240 : decode cX6_product 240 = .ok (.istore 7, 2) := by decide +kernel
theorem dX6_product_242 : decode cX6_product 242 = .ok (.iinc 9 1, 3) := by decide +kernel
theorem dX6_product_245 : decode cX6_product 245 = .ok (.goto (-96), 3) := by decide +kernel
theorem dX6_product_248 : decode cX6_product 248 = .ok (.iinc 8 1, 3) := by decide +kernel
theorem dX6_product_251 : decode cX6_product 251 = .ok (.goto (-112), 3) := by decide +kernel
theorem dX6_product_254 : decode cX6_product 254 = .ok (.aload_n 0, 1) := by decide +kernel
theorem dX6_product_255 : decode cX6_product 255 = .ok (.iload 5, 2) := by decide +kernel
theorem dX6_product_257 : decode cX6_product 257 = .ok (.iload 6, 2) := by decide +kernel
theorem dX6_product_259 : decode cX6_product 259 = .ok (.iload 7, 2) := by decide +kernel
theorem dX6_product_261 : decode cX6_product 261 = .ok (.invokevirtual 213, 3) := by decide +kernel
theorem dX6_product_264 : decode cX6_product 264 = .ok (.ireturn, 1) := by decide +kernel
theorem dX6_given_0 : decode cX6_given 0 = .ok (.iload_n 0, 1) := by decide +kernel
theorem dX6_given_1 : decode cX6_given 1 = .ok (.istore_n 3, 1) := by decide +kernel
theorem dX6_given_2 : decode cX6_given 2 = .ok (.iconst 0, 1) := by decide +kernel
theorem dX6_given_3 : decode cX6_given 3 = .ok (.istore 4, 2) := by decide +kernel
theorem dX6_given_5 : decode cX6_given 5 = .ok (.iload 4, 2) := by decide +kernel
theorem dX6_given_7 : decode cX6_given 7 = .ok (.iload_n 2, 1) := by decide +kernel
theorem dX6_given_8 : decode cX6_given 8 = .ok (.if_icmp .ge 13, 3) := by decide +kernel
theorem dX6_given_11 : decode cX6_given 11 = .ok (.iload_n 3, 1) := by decide +kernel
theorem dX6_given_12 : decode cX6_given 12 = .ok (.iload_n 1, 1) := by decide +kernel
theorem dX6_given_13 : decode cX6_given 13 = .ok (.idiv, 1) := by decide +kernel
theorem dX6_given_14 : decode cX6_given 14 = .ok (.istore_n 3, 1) := by decide +kernel
theorem dX6_given_15 : decode cX6_given 15 = .ok (.iinc 4 1, 3) := by decide +kernel
theorem dX6_given_18 : decode cX6_given 18 = .ok (.goto (-13), 3) := by decide +kernel
theorem dX6_given_21 : decode cX6_given 21 = .ok (.iload_n 3, 1) := by decide +kernel
theorem dX6_given_22 : decode cX6_given 22 = .ok (.iload_n 1, 1) := by decide +kernel
theorem dX6_given_23 : decode cX6_given 23 = .ok (.irem, 1) := by decide +kernel
theorem dX6_given_24 : decode cX6_given 24 = .ok (.ireturn, 1) := by decide +kernel
set_option maxRecDepth 20000 in
theorem ggX6_served_X6_isSolved : GoodIn wsX6_served wsX6_isSolved := goodIn_r _ [7] (by decide +kernel) (by decide +kernel)
set_option maxRecDepth 20000 in
theorem gX6_served_X6_isSolved : GoodIn wsX6_served (va_wsS RX6 207 yX6_isSolved wsX6_isSolved) := goodIn_app (goodIn_of _ (by decide +kernel)) ggX6_served_X6_isSolved
set_option maxRecDepth 20000 in
theorem ggX6_served_X6_given : GoodIn wsX6_served wsX6_given := goodIn_r _ [10] (by decide +kernel) (by decide +kernel)
set_option maxRecDepth 20000 in
theorem gX6_served_X6_given : GoodIn wsX6_served (va_wsS RX6 220 yX6_given wsX6_given) := goodIn_app (goodIn_of _ (by decide +kernel)) ggX6_served_X6_given
theorem dX6_served_0 : decode cX6_served 0 = .ok (.iconst (-1), 1) := by decide +kernel
theorem dX6_served_1 : decode cX6_served 1 = .ok (.istore 5, 2) := by decide +kernel
theorem dX6_served_3 : decode cX6_served 3 = .ok (.aload_n 0, 1) := by decide +kernel
theorem dX6_served_4 : decode cX6_served 4 = .ok (.getfield 69, 3) := by decide +kernel
theorem dX6_served_7 : decode cX6_served 7 = .ok (.iload_n 2, 1) := by decide +kernel
theorem dX6_served_8 : decode cX6_served 8 = .ok (.iaload, 1) := by decide +kernel
theorem dX6_served_9 : decode cX6_served 9 = .ok (.iconst 1, 1) := by decide +kernel
theorem dX6_served_10 : decode cX6_served 10 = .ok (.isub, 1) := by decide +kernel
theorem dX6_served_11 : decode cX6_served 11 = .ok (.istore 6, 2) := by decide +kernel
theorem dX6_served_13 : decode cX6_served 13 = .ok (.iload 6, 2) := by decide +kernel
theorem dX6_served_15 : decode cX6_served 15 = .ok (.ifCond .lt 100, 3) := by decide +kernel
theorem dX6_served_18 : decode cX6_served 18 = .ok (.iconst 1, 1) := by decide +kernel
theorem dX6_served_19 : decode cX6_served 19 = .ok (.istore 7, 2) := by decide +kernel
theorem dX6_served_21 : decode cX6_served 21 = .ok (.iconst 0, 1) := by decide +kernel
theorem dX6_served_22 : decode cX6_served 22 = .ok (.istore 8, 2) := by decide +kernel
theorem dX6_served_24 : decode cX6_served 24 = .ok (.iload 8, 2) := by decide +kernel
theorem dX6_served_26 : decode cX6_served 26 = .ok (.aload_n 0, 1) := by decide +kernel
theorem dX6_served_27 : decode cX6_served 27 = .ok (.getfield 72, 3) := by decide +kernel
theorem dX6_served_30 : decode cX6_served 30 = .ok (.iload_n 2, 1) := by decide +kernel
theorem dX6_served_31 : decode cX6_served 31 = .ok (.iaload, 1) := by decide +kernel
theorem dX6_served_32 : decode cX6_served 32 = .ok (.if_icmp .ge 63, 3) := by decide +kernel
theorem dX6_served_35 : decode cX6_served 35 = .ok (.iload 7, 2) := by decide +kernel
theorem dX6_served_37 : decode cX6_served 37 = .ok (.ifCond .eq 49, 3) := by decide +kernel
theorem dX6_served_40 : decode cX6_served 40 = .ok (.aload_n 0, 1) := by decide +kernel
theorem dX6_served_41 : decode cX6_served 41 = .ok (.getfield 75, 3) := by decide +kernel
theorem dX6_served_44 : decode cX6_served 44 = .ok (.iload_n 2, 1) := by decide +kernel
theorem dX6_served_45 : decode cX6_served 45 = .ok (.iaload, 1) := by decide +kernel
theorem dX6_served_46 : decode cX6_served 46 = .ok (.iload 6, 2) := by decide +kernel
theorem dX6_served_48 : decode cX6_served 48 = .ok (.iload 8, 2) := by decide +kernel
theorem dX6_served_50 : decode cX6_served 50 = .ok (.invokestatic 207, 3) := by decide +kernel
theorem dX6_served_53 : decode cX6_served 53 = .ok (.ifCond .eq 29, 3) := by decide +kernel
theorem dX6_served_56 : decode cX6_served 56 = .ok (.aload_n 0, 1) := by decide +kernel
theorem dX6_served_57 : decode cX6_served 57 = .ok (.getfield 75, 3) := by decide +kernel
theorem dX6_served_60 : decode cX6_served 60 = .ok (.iload_n 1, 1) := by decide +kernel
theorem dX6_served_61 : decode cX6_served 61 = .ok (.iaload, 1) := by decide +kernel
theorem dX6_served_62 : decode cX6_served 62 = .ok (.iload 4, 2) := by decide +kernel
theorem dX6_served_64 : decode cX6_served 64 = .ok (.iload_n 3, 1) := by decide +kernel
theorem dX6_served_65 : decode cX6_served 65 = .ok (.aload_n 0, 1) := by decide +kernel
theorem dX6_served_66 : decode cX6_served 66 = .ok (.getfield 72, 3) := by decide +kernel
theorem dX6_served_69 : decode cX6_served 69 = .ok (.iload_n 1, 1) := by decide +kernel
theorem dX6_served_70 : decode cX6_served 70 = .ok (.iaload, 1) := by decide +kernel
theorem dX6_served_71 : decode cX6_served 71 = .ok (.iload 8, 2) := by decide +kernel
theorem dX6_served_73 : decode cX6_served 73 = .ok (.invokestatic 220, 3) := by decide +kernel
theorem dX6_served_76 : decode cX6_served 76 = .ok (.invokestatic 207, 3) := by decide +kernel
theorem dX6_served_79 : decode cX6_served 79 = .ok (.ifCond .eq 7, 3) := by decide +kernel
theorem dX6_served_82 : decode cX6_served 82 = .ok (.iconst 1, 1) := by decide +kernel
theorem dX6_served_83 : decode cX6_served 83 = .ok (.goto 4, 3) := by decide +kernel
theorem dX6_served_86 : decode cX6_served 86 = .ok (.iconst 0, 1) := by decide +kernel
theorem dX6_served_87 : decode cX6_served 87 = .ok (.istore 7, 2) := by decide +kernel
theorem dX6_served_89 : decode cX6_served 89 = .ok (.iinc 8 1, 3) := by decide +kernel
theorem dX6_served_92 : decode cX6_served 92 = .ok (.goto (-68), 3) := by decide +kernel
theorem dX6_served_95 : decode cX6_served 95 = .ok (.iload 7, 2) := by decide +kernel
theorem dX6_served_97 : decode cX6_served 97 = .ok (.ifCond .eq 8, 3) := by decide +kernel
theorem dX6_served_100 : decode cX6_served 100 = .ok (.iload 6, 2) := by decide +kernel
theorem dX6_served_102 : decode cX6_served 102 = .ok (.goto 5, 3) := by decide +kernel
theorem dX6_served_105 : decode cX6_served 105 = .ok (.iload 5, 2) := by decide +kernel
theorem dX6_served_107 : decode cX6_served 107 = .ok (.istore 5, 2) := by decide +kernel
theorem dX6_served_109 : decode cX6_served 109 = .ok (.iinc 6 (-1), 3) := by decide +kernel
theorem dX6_served_112 : decode cX6_served 112 = .ok (.goto (-99), 3) := by decide +kernel
theorem dX6_served_115 : decode cX6_served 115 = .ok (.iload 5, 2) := by decide +kernel
theorem dX6_served_117 : decode cX6_served 117 = .ok (.ireturn, 1) := by decide +kernel
set_option maxRecDepth 20000 in
theorem ggX6_codeOf_X6_served : GoodIn wsX6_codeOf wsX6_served := goodIn_r _ [7, 2, 1, 8, 9, 10, 6, 11, 12, 13, 14, 15, 16, 17, 18, 19, 20, 21, 22, 23, 24, 25, 26, 27, 28, 29, 30, 31, 32, 33, 34, 35, 36, 37, 38, 39, 40, 41, 42, 43, 44, 45, 46] (by decide +kernel) (by decide +kernel)
set_option maxRecDepth 20000 in
theorem gX6_codeOf_X6_served : GoodIn wsX6_codeOf (wsV RX6 223 RX6 yX6_served wsX6_served) := goodIn_app (goodIn_of _ (by decide +kernel)) ggX6_codeOf_X6_served
theorem dX6_codeOf_0 : decode cX6_codeOf 0 = .ok (.iconst 1, 1) := by decide +kernel
theorem dX6_codeOf_1 : decode cX6_codeOf 1 = .ok (.istore_n 3, 1) := by decide +kernel
theorem dX6_codeOf_2 : decode cX6_codeOf 2 = .ok (.iconst 0, 1) := by decide +kernel
theorem dX6_codeOf_3 : decode cX6_codeOf 3 = .ok (.istore 4, 2) := by decide +kernel
theorem dX6_codeOf_5 : decode cX6_codeOf 5 = .ok (.iload 4, 2) := by decide +kernel
theorem dX6_codeOf_7 : decode cX6_codeOf 7 = .ok (.aload_n 0, 1) := by decide +kernel
theorem dX6_codeOf_8 : decode cX6_codeOf 8 = .ok (.getfield 72, 3) := by decide +kernel
theorem dX6_codeOf_11 : decode cX6_codeOf 11 = .ok (.iload_n 2, 1) := by decide +kernel
theorem dX6_codeOf_12 : decode cX6_codeOf 12 = .ok (.iaload, 1) := by decide +kernel
theorem dX6_codeOf_13 : decode cX6_codeOf 13 = .ok (.if_icmp .ge 18, 3) := by decide +kernel
theorem dX6_codeOf_16 : decode cX6_codeOf 16 = .ok (.iload_n 3, 1) := by decide +kernel
theorem dX6_codeOf_17 : decode cX6_codeOf 17 = .ok (.aload_n 0, 1) := by decide +kernel
theorem dX6_codeOf_18 : decode cX6_codeOf 18 = .ok (.getfield 72, 3) := by decide +kernel
theorem dX6_codeOf_21 : decode cX6_codeOf 21 = .ok (.iload_n 1, 1) := by decide +kernel
theorem dX6_codeOf_22 : decode cX6_codeOf 22 = .ok (.iaload, 1) := by decide +kernel
theorem dX6_codeOf_23 : decode cX6_codeOf 23 = .ok (.imul, 1) := by decide +kernel
theorem dX6_codeOf_24 : decode cX6_codeOf 24 = .ok (.istore_n 3, 1) := by decide +kernel
theorem dX6_codeOf_25 : decode cX6_codeOf 25 = .ok (.iinc 4 1, 3) := by decide +kernel
theorem dX6_codeOf_28 : decode cX6_codeOf 28 = .ok (.goto (-23), 3) := by decide +kernel
theorem dX6_codeOf_31 : decode cX6_codeOf 31 = .ok (.iconst 0, 1) := by decide +kernel
theorem dX6_codeOf_32 : decode cX6_codeOf 32 = .ok (.istore 4, 2) := by decide +kernel
theorem dX6_codeOf_34 : decode cX6_codeOf 34 = .ok (.iload 4, 2) := by decide +kernel
theorem dX6_codeOf_36 : decode cX6_codeOf 36 = .ok (.iload_n 3, 1) := by decide +kernel
theorem dX6_codeOf_37 : decode cX6_codeOf 37 = .ok (.if_icmp .ge 66, 3) := by decide +kernel
theorem dX6_codeOf_40 : decode cX6_codeOf 40 = .ok (.iconst 1, 1) := by decide +kernel
theorem dX6_codeOf_41 : decode cX6_codeOf 41 = .ok (.istore 5, 2) := by decide +kernel
theorem dX6_codeOf_43 : decode cX6_codeOf 43 = .ok (.iconst 0, 1) := by decide +kernel
theorem dX6_codeOf_44 : decode cX6_codeOf 44 = .ok (.istore 6, 2) := by decide +kernel
theorem dX6_codeOf_46 : decode cX6_codeOf 46 = .ok (.iload 6, 2) := by decide +kernel
theorem dX6_codeOf_48 : decode cX6_codeOf 48 = .ok (.aload_n 0, 1) := by decide +kernel
theorem dX6_codeOf_49 : decode cX6_codeOf 49 = .ok (.getfield 69, 3) := by decide +kernel
theorem dX6_codeOf_52 : decode cX6_codeOf 52 = .ok (.iload_n 1, 1) := by decide +kernel
theorem dX6_codeOf_53 : decode cX6_codeOf 53 = .ok (.iaload, 1) := by decide +kernel
theorem dX6_codeOf_54 : decode cX6_codeOf 54 = .ok (.if_icmp .ge 35, 3) := by decide +kernel
theorem dX6_codeOf_57 : decode cX6_codeOf 57 = .ok (.iload 5, 2) := by decide +kernel
theorem dX6_codeOf_59 : decode cX6_codeOf 59 = .ok (.ifCond .eq 21, 3) := by decide +kernel
theorem dX6_codeOf_62 : decode cX6_codeOf 62 = .ok (.aload_n 0, 1) := by decide +kernel
theorem dX6_codeOf_63 : decode cX6_codeOf 63 = .ok (.iload_n 1, 1) := by decide +kernel
theorem dX6_codeOf_64 : decode cX6_codeOf 64 = .ok (.iload_n 2, 1) := by decide +kernel
theorem dX6_codeOf_65 : decode cX6_codeOf 65 = .ok (.iload 4, 2) := by decide +kernel
theorem dX6_codeOf_67 : decode cX6_codeOf 67 = .ok (.iload 6, 2) := by decide +kernel
theorem dX6_codeOf_69 : decode cX6_codeOf 69 = .ok (.invokevirtual 223, 3) := by decide +kernel
theorem dX6_codeOf_72 : decode cX6_codeOf 72 = .ok (.iconst (-1), 1) := by decide +kernel
theorem dX6_codeOf_73 : decode cX6_codeOf 73 = .ok (.if_icmp .eq 7, 3) := by decide +kernel
theorem dX6_codeOf_76 : decode cX6_codeOf 76 = .ok (.iconst 1, 1) := by decide +kernel
theorem dX6_codeOf_77 : decode cX6_codeOf 77 = .ok (.goto 4, 3) := by decide +kernel
theorem dX6_codeOf_80 : decode cX6_codeOf 80 = .ok (.iconst 0, 1) := by decide +kernel
theorem dX6_codeOf_81 : decode cX6_codeOf 81 = .ok (.istore 5, 2) := by decide +kernel
theorem dX6_codeOf_83 : decode cX6_codeOf 83 = .ok (.iinc 6 1, 3) := by decide +kernel
theorem dX6_codeOf_86 : decode cX6_codeOf 86 = .ok (.goto (-40), 3) := by decide +kernel
theorem dX6_codeOf_89 : decode cX6_codeOf 89 = .ok (.iload 5, 2) := by decide +kernel
theorem dX6_codeOf_91 : decode cX6_codeOf 91 = .ok (.ifCond .eq 6, 3) := by decide +kernel
theorem dX6_codeOf_94 : decode cX6_codeOf 94 = .ok (.iload 4, 2) := by decide +kernel
theorem dX6_codeOf_96 : decode cX6_codeOf 96 = .ok (.ireturn, 1) := by decide +kernel
theorem dX6_codeOf_97 : decode cX6_codeOf 97 = .ok (.iinc 4 1, 3) := by decide +kernel
theorem dX6_codeOf_100 : decode cX6_codeOf 100 = .ok (.goto (-66), 3) := by decide +kernel
theorem dX6_codeOf_103 : decode cX6_codeOf 103 = .ok (.iconst (-1), 1) := by decide +kernel
theorem dX6_codeOf_104 : decode cX6_codeOf 104 = .ok (.ireturn, 1) := by decide +kernel
set_option maxRecDepth 20000 in
theorem ggX6_reduces_X6_isProblem : GoodIn wsX6_reduces wsX6_isProblem := goodIn_r _ [5, 6, 7, 8, 4, 9, 32, 33, 34, 35, 36, 37, 38, 39, 40, 41, 42, 43, 44, 45, 46, 47, 48, 49, 50, 51, 52, 53, 54, 55, 56, 57, 58, 59, 60, 61, 62, 63] (by decide +kernel) (by decide +kernel)
set_option maxRecDepth 20000 in
theorem gX6_reduces_X6_isProblem : GoodIn wsX6_reduces (wsV RX6 217 RX6 yX6_isProblem wsX6_isProblem) := goodIn_app (goodIn_of _ (by decide +kernel)) ggX6_reduces_X6_isProblem
set_option maxRecDepth 20000 in
theorem ggX6_reduces_X6_goesWell : GoodIn wsX6_reduces wsX6_goesWell := goodIn_r _ [13, 14, 32, 33, 34, 35, 36, 37, 38, 39, 40, 41, 42, 43, 44, 45, 46, 47, 48, 49, 50, 51, 52, 53, 54, 55, 56, 57, 58, 59, 60, 61, 62, 63] (by decide +kernel) (by decide +kernel)
set_option maxRecDepth 20000 in
theorem gX6_reduces_X6_goesWell : GoodIn wsX6_reduces (wsV RX6 99 RX6 yX6_goesWell wsX6_goesWell) := goodIn_app (goodIn_of _ (by decide +kernel)) ggX6_reduces_X6_goesWell
set_option maxRecDepth 20000 in
theorem ggX6_reduces_X6_codeOf : GoodIn wsX6_reduces wsX6_codeOf := goodIn_r _ [18, 19, 20, 21, 22, 23, 4, 24, 25, 26, 27, 28, 29, 30, 31, 32, 33, 34, 35, 36, 37, 38, 39, 40, 41, 42, 43, 44, 45, 46, 47, 48, 49, 50, 51, 52, 53, 54, 55, 56, 57, 58, 59, 60, 61, 62, 63] (by decide +kernel) (by decide +kernel)
set_option maxRecDepth 20000 in
theorem gX6_reduces_X6_codeOf : GoodIn wsX6_reduces (wsV RX6 227 RX6 yX6_codeOf wsX6_codeOf) := goodIn_app (goodIn_of _ (by decide +kernel)) ggX6_reduces_X6_codeOf
theorem dX6_reduces_0 : decode cX6_reduces 0 = .ok (.aload_n 0, 1) := by decide +kernel
theorem dX6_reduces_1 : decode cX6_reduces 1 = .ok (.aload_n 0, 1) := by decide +kernel
theorem dX6_reduces_2 : decode cX6_reduces 2 = .ok (.iload_n 1, 1) := by decide +kernel
theorem dX6_reduces_3 : decode cX6_reduces 3 = .ok (.invokevirtual 217, 3) := by decide +kernel
theorem dX6_reduces_6 : decode cX6_reduces 6 = .ok (.ifCond .eq 15, 3) := by decide +kernel
theorem dX6_reduces_9 : decode cX6_reduces 9 = .ok (.aload_n 0, 1) := by decide +kernel
theorem dX6_reduces_10 : decode cX6_reduces 10 = .ok (.iload_n 2, 1) := by decide +kernel
theorem dX6_reduces_11 : decode cX6_reduces 11 = .ok (.invokevirtual 217, 3) := by decide +kernel
theorem dX6_reduces_14 : decode cX6_reduces 14 = .ok (.ifCond .eq 7, 3) := by decide +kernel
theorem dX6_reduces_17 : decode cX6_reduces 17 = .ok (.iconst 0, 1) := by decide +kernel
theorem dX6_reduces_18 : decode cX6_reduces 18 = .ok (.goto 4, 3) := by decide +kernel
theorem dX6_reduces_21 : decode cX6_reduces 21 = .ok (.iconst 1, 1) := by decide +kernel
theorem dX6_reduces_22 : decode cX6_reduces 22 = .ok (.invokevirtual 99, 3) := by decide +kernel
theorem dX6_reduces_25 : decode cX6_reduces 25 = .ok (.ifCond .eq 12, 3) := by decide +kernel
theorem dX6_reduces_28 : decode cX6_reduces 28 = .ok (.aload_n 0, 1) := by decide +kernel
theorem dX6_reduces_29 : decode cX6_reduces 29 = .ok (.iload_n 1, 1) := by decide +kernel
theorem dX6_reduces_30 : decode cX6_reduces 30 = .ok (.iload_n 2, 1) := by decide +kernel
theorem dX6_reduces_31 : decode cX6_reduces 31 = .ok (.invokevirtual 227, 3) := by decide +kernel
theorem dX6_reduces_34 : decode cX6_reduces 34 = .ok (.goto 4, 3) := by decide +kernel
theorem dX6_reduces_37 : decode cX6_reduces 37 = .ok (.iconst 0, 1) := by decide +kernel
theorem dX6_reduces_38 : decode cX6_reduces 38 = .ok (.ireturn, 1) := by decide +kernel
set_option maxRecDepth 20000 in
theorem ggX6_reducesAnew_X6_isProblem : GoodIn wsX6_reducesAnew wsX6_isProblem := goodIn_r _ [5, 6, 7, 8, 4, 9, 32, 33, 34, 35, 36, 37, 38, 39, 40, 41, 42, 43, 44, 45, 46, 47, 48, 49, 50, 51, 52, 53, 54, 55, 56, 57, 58, 59, 60, 61, 62, 63] (by decide +kernel) (by decide +kernel)
set_option maxRecDepth 20000 in
theorem gX6_reducesAnew_X6_isProblem : GoodIn wsX6_reducesAnew (wsV RX6 217 RX6 yX6_isProblem wsX6_isProblem) := goodIn_app (goodIn_of _ (by decide +kernel)) ggX6_reducesAnew_X6_isProblem
set_option maxRecDepth 20000 in
theorem ggX6_reducesAnew_X6_goesWell : GoodIn wsX6_reducesAnew wsX6_goesWell := goodIn_r _ [13, 14, 32, 33, 34, 35, 36, 37, 38, 39, 40, 41, 42, 43, 44, 45, 46, 47, 48, 49, 50, 51, 52, 53, 54, 55, 56, 57, 58, 59, 60, 61, 62, 63] (by decide +kernel) (by decide +kernel)
set_option maxRecDepth 20000 in
theorem gX6_reducesAnew_X6_goesWell : GoodIn wsX6_reducesAnew (wsV RX6 99 RX6 yX6_goesWell wsX6_goesWell) := goodIn_app (goodIn_of _ (by decide +kernel)) ggX6_reducesAnew_X6_goesWell
set_option maxRecDepth 20000 in
theorem ggX6_reducesAnew_X6_codeOf : GoodIn wsX6_reducesAnew wsX6_codeOf := goodIn_r _ [18, 19, 20, 21, 22, 23, 4, 24, 25, 26, 27, 28, 29, 30, 31, 32, 33, 34, 35, 36, 37, 38, 39, 40, 41, 42, 43, 44, 45, 46, 47, 48, 49, 50, 51, 52, 53, 54, 55, 56, 57, 58, 59, 60, 61, 62, 63] (by decide +kernel) (by decide +kernel)
set_option maxRecDepth 20000 in
theorem gX6_reducesAnew_X6_codeOf : GoodIn wsX6_reducesAnew (wsV RX6 227 RX6 yX6_codeOf wsX6_codeOf) := goodIn_app (goodIn_of _ (by decide +kernel)) ggX6_reducesAnew_X6_codeOf
theorem dX6_reducesAnew_0 : decode cX6_reducesAnew 0 = .ok (.aload_n 0, 1) := by decide +kernel
theorem dX6_reducesAnew_1 : decode cX6_reducesAnew 1 = .ok (.aload_n 0, 1) := by decide +kernel
theorem dX6_reducesAnew_2 : decode cX6_reducesAnew 2 = .ok (.iload_n 1, 1) := by decide +kernel
theorem dX6_reducesAnew_3 : decode cX6_reducesAnew 3 = .ok (.invokevirtual 217, 3) := by decide +kernel
theorem dX6_reducesAnew_6 : decode cX6_reducesAnew 6 = .ok (.ifCond .eq 15, 3) := by decide +kernel
theorem dX6_reducesAnew_9 : decode cX6_reducesAnew 9 = .ok (.aload_n 0, 1) := by decide +kernel
theorem dX6_reducesAnew_10 : decode cX6_reducesAnew 10 = .ok (.iload_n 2, 1) := by decide +kernel
theorem dX6_reducesAnew_11 : decode cX6_reducesAnew 11 = .ok (.invokevirtual 217, 3) := by decide +kernel
theorem dX6_reducesAnew_14 : decode cX6_reducesAnew 14 = .ok (.ifCond .eq 7, 3) := by decide +kernel
theorem dX6_reducesAnew_17 : decode cX6_reducesAnew 17 = .ok (.iconst 0, 1) := by decide +kernel
theorem dX6_reducesAnew_18 : decode cX6_reducesAnew 18 = .ok (.goto 4, 3) := by decide +kernel
theorem dX6_reducesAnew_21 : decode cX6_reducesAnew 21 = .ok (.iconst 1, 1) := by decide +kernel
theorem dX6_reducesAnew_22 : decode cX6_reducesAnew 22 = .ok (.invokevirtual 99, 3) := by decide +kernel
theorem dX6_reducesAnew_25 : decode cX6_reducesAnew 25 = .ok (.ifCond .eq 12, 3) := by decide +kernel
theorem dX6_reducesAnew_28 : decode cX6_reducesAnew 28 = .ok (.aload_n 0, 1) := by decide +kernel
theorem dX6_reducesAnew_29 : decode cX6_reducesAnew 29 = .ok (.iload_n 1, 1) := by decide +kernel
theorem dX6_reducesAnew_30 : decode cX6_reducesAnew 30 = .ok (.iload_n 2, 1) := by decide +kernel
theorem dX6_reducesAnew_31 : decode cX6_reducesAnew 31 = .ok (.invokevirtual 227, 3) := by decide +kernel
theorem dX6_reducesAnew_34 : decode cX6_reducesAnew 34 = .ok (.goto 4, 3) := by decide +kernel
theorem dX6_reducesAnew_37 : decode cX6_reducesAnew 37 = .ok (.iconst 0, 1) := by decide +kernel
theorem dX6_reducesAnew_38 : decode cX6_reducesAnew 38 = .ok (.ireturn, 1) := by decide +kernel
set_option maxRecDepth 20000 in
theorem ggX6_forth_X6_isProblem : GoodIn wsX6_forth wsX6_isProblem := goodIn_r _ [6, 7, 8, 9, 5, 10, 32, 33, 34, 35, 36, 37, 38, 39, 40, 41, 42, 43, 44, 45, 46, 47, 48, 49, 50, 51, 52, 53, 54, 55, 56, 57, 58, 59, 60, 61, 62, 63] (by decide +kernel) (by decide +kernel)
set_option maxRecDepth 20000 in
theorem gX6_forth_X6_isProblem : GoodIn wsX6_forth (wsV RX6 217 RX6 yX6_isProblem wsX6_isProblem) := goodIn_app (goodIn_of _ (by decide +kernel)) ggX6_forth_X6_isProblem
set_option maxRecDepth 20000 in
theorem ggX6_forth_X6_in : GoodIn wsX6_forth wsX6_in := goodIn_r _ [10] (by decide +kernel) (by decide +kernel)
set_option maxRecDepth 20000 in
theorem gX6_forth_X6_in : GoodIn wsX6_forth (va_wsS RX6 85 yX6_in wsX6_in) := goodIn_app (goodIn_of _ (by decide +kernel)) ggX6_forth_X6_in
set_option maxRecDepth 20000 in
theorem ggX6_forth_X6_goesWell : GoodIn wsX6_forth wsX6_goesWell := goodIn_r _ [14, 15, 32, 33, 34, 35, 36, 37, 38, 39, 40, 41, 42, 43, 44, 45, 46, 47, 48, 49, 50, 51, 52, 53, 54, 55, 56, 57, 58, 59, 60, 61, 62, 63] (by decide +kernel) (by decide +kernel)
set_option maxRecDepth 20000 in
theorem gX6_forth_X6_goesWell : GoodIn wsX6_forth (wsV RX6 99 RX6 yX6_goesWell wsX6_goesWell) := goodIn_app (goodIn_of _ (by decide +kernel)) ggX6_forth_X6_goesWell
set_option maxRecDepth 20000 in
theorem ggX6_forth_X6_codeOf : GoodIn wsX6_forth wsX6_codeOf := goodIn_r _ [19, 20, 1, 21, 22, 23, 5, 24, 25, 26, 27, 28, 29, 30, 31, 32, 33, 34, 35, 36, 37, 38, 39, 40, 41, 42, 43, 44, 45, 46, 47, 48, 49, 50, 51, 52, 53, 54, 55, 56, 57, 58, 59, 60, 61, 62, 63] (by decide +kernel) (by decide +kernel)
set_option maxRecDepth 20000 in
theorem gX6_forth_X6_codeOf : GoodIn wsX6_forth (wsV RX6 227 RX6 yX6_codeOf wsX6_codeOf) := goodIn_app (goodIn_of _ (by decide +kernel)) ggX6_forth_X6_codeOf
set_option maxRecDepth 20000 in
theorem ggX6_forth_X6_served : GoodIn wsX6_forth wsX6_served := goodIn_r _ [24, 1, 20, 25, 26, 27, 5, 28, 29, 30, 31, 32, 33, 34, 35, 36, 37, 38, 39, 40, 41, 42, 43, 44, 45, 46, 47, 48, 49, 50, 51, 52, 53, 54, 55, 56, 57, 58, 59, 60, 61, 62, 63] (by decide +kernel) (by decide +kernel)
set_option maxRecDepth 20000 in
theorem gX6_forth_X6_served : GoodIn wsX6_forth (wsV RX6 223 RX6 yX6_served wsX6_served) := goodIn_app (goodIn_of _ (by decide +kernel)) ggX6_forth_X6_served
theorem dX6_forth_0 : decode cX6_forth 0 = .ok (.aload_n 0, 1) := by decide +kernel
theorem dX6_forth_1 : decode cX6_forth 1 = .ok (.iload_n 1, 1) := by decide +kernel
theorem dX6_forth_2 : decode cX6_forth 2 = .ok (.invokevirtual 217, 3) := by decide +kernel
theorem dX6_forth_5 : decode cX6_forth 5 = .ok (.ifCond .eq 31, 3) := by decide +kernel
theorem dX6_forth_8 : decode cX6_forth 8 = .ok (.aload_n 0, 1) := by decide +kernel
theorem dX6_forth_9 : decode cX6_forth 9 = .ok (.iload_n 2, 1) := by decide +kernel
theorem dX6_forth_10 : decode cX6_forth 10 = .ok (.invokevirtual 217, 3) := by decide +kernel
theorem dX6_forth_13 : decode cX6_forth 13 = .ok (.ifCond .eq 23, 3) := by decide +kernel
theorem dX6_forth_16 : decode cX6_forth 16 = .ok (.iload_n 3, 1) := by decide +kernel
theorem dX6_forth_17 : decode cX6_forth 17 = .ok (.iconst 0, 1) := by decide +kernel
theorem dX6_forth_18 : decode cX6_forth 18 = .ok (.aload_n 0, 1) := by decide +kernel
theorem dX6_forth_19 : decode cX6_forth 19 = .ok (.getfield 69, 3) := by decide +kernel
theorem dX6_forth_22 : decode cX6_forth 22 = .ok (.iload_n 1, 1) := by decide +kernel
theorem dX6_forth_23 : decode cX6_forth 23 = .ok (.iaload, 1) := by decide +kernel
theorem dX6_forth_24 : decode cX6_forth 24 = .ok (.iconst 1, 1) := by decide +kernel
theorem dX6_forth_25 : decode cX6_forth 25 = .ok (.isub, 1) := by decide +kernel
theorem dX6_forth_26 : decode cX6_forth 26 = .ok (.invokestatic 85, 3) := by decide +kernel
theorem dX6_forth_29 : decode cX6_forth 29 = .ok (.ifCond .eq 7, 3) := by decide +kernel
theorem dX6_forth_32 : decode cX6_forth 32 = .ok (.iconst 1, 1) := by decide +kernel
theorem dX6_forth_33 : decode cX6_forth 33 = .ok (.goto 4, 3) := by decide +kernel
theorem dX6_forth_36 : decode cX6_forth 36 = .ok (.iconst 0, 1) := by decide +kernel
theorem dX6_forth_37 : decode cX6_forth 37 = .ok (.istore 4, 2) := by decide +kernel
theorem dX6_forth_39 : decode cX6_forth 39 = .ok (.aload_n 0, 1) := by decide +kernel
theorem dX6_forth_40 : decode cX6_forth 40 = .ok (.iload 4, 2) := by decide +kernel
theorem dX6_forth_42 : decode cX6_forth 42 = .ok (.ifCond .eq 7, 3) := by decide +kernel
theorem dX6_forth_45 : decode cX6_forth 45 = .ok (.iconst 0, 1) := by decide +kernel
theorem dX6_forth_46 : decode cX6_forth 46 = .ok (.goto 4, 3) := by decide +kernel
theorem dX6_forth_49 : decode cX6_forth 49 = .ok (.iconst 1, 1) := by decide +kernel
theorem dX6_forth_50 : decode cX6_forth 50 = .ok (.invokevirtual 99, 3) := by decide +kernel
theorem dX6_forth_53 : decode cX6_forth 53 = .ok (.ifCond .ne 5, 3) := by decide +kernel
theorem dX6_forth_56 : decode cX6_forth 56 = .ok (.iconst 0, 1) := by decide +kernel
theorem dX6_forth_57 : decode cX6_forth 57 = .ok (.ireturn, 1) := by decide +kernel
theorem dX6_forth_58 : decode cX6_forth 58 = .ok (.aload_n 0, 1) := by decide +kernel
theorem dX6_forth_59 : decode cX6_forth 59 = .ok (.iload_n 1, 1) := by decide +kernel
theorem dX6_forth_60 : decode cX6_forth 60 = .ok (.iload_n 2, 1) := by decide +kernel
theorem dX6_forth_61 : decode cX6_forth 61 = .ok (.invokevirtual 227, 3) := by decide +kernel
theorem dX6_forth_64 : decode cX6_forth 64 = .ok (.istore 5, 2) := by decide +kernel
theorem dX6_forth_66 : decode cX6_forth 66 = .ok (.iload 5, 2) := by decide +kernel
theorem dX6_forth_68 : decode cX6_forth 68 = .ok (.iconst (-1), 1) := by decide +kernel
theorem dX6_forth_69 : decode cX6_forth 69 = .ok (.if_icmp .ne 7, 3) := by decide +kernel
theorem dX6_forth_72 : decode cX6_forth 72 = .ok (.iconst (-1), 1) := by decide +kernel
theorem dX6_forth_73 : decode cX6_forth 73 = .ok (.goto 12, 3) := by decide +kernel
theorem dX6_forth_76 : decode cX6_forth 76 = .ok (.aload_n 0, 1) := by decide +kernel
theorem dX6_forth_77 : decode cX6_forth 77 = .ok (.iload_n 1, 1) := by decide +kernel
theorem dX6_forth_78 : decode cX6_forth 78 = .ok (.iload_n 2, 1) := by decide +kernel
theorem dX6_forth_79 : decode cX6_forth 79 = .ok (.iload 5, 2) := by decide +kernel
theorem dX6_forth_81 : decode cX6_forth 81 = .ok (.iload_n 3, 1) := by decide +kernel
theorem dX6_forth_82 : decode cX6_forth 82 = .ok (.invokevirtual 223, 3) := by decide +kernel
theorem dX6_forth_85 : decode cX6_forth 85 = .ok (.ireturn, 1) := by decide +kernel
set_option maxRecDepth 20000 in
theorem ggX6_ofProblem_X6_isProblem : GoodIn wsX6_ofProblem wsX6_isProblem := goodIn_r _ [8, 9, 10, 11, 7, 12, 18, 19, 20, 21, 22, 23, 24, 25, 26, 27, 28, 29, 30, 31, 32, 33, 34, 35, 36, 37, 38, 39, 40, 41, 42, 43, 44, 45, 46, 47, 48, 49] (by decide +kernel) (by decide +kernel)
set_option maxRecDepth 20000 in
theorem gX6_ofProblem_X6_isProblem : GoodIn wsX6_ofProblem (wsV RX6 217 RX6 yX6_isProblem wsX6_isProblem) := goodIn_app (goodIn_of _ (by decide +kernel)) ggX6_ofProblem_X6_isProblem
set_option maxRecDepth 20000 in
theorem ggX6_ofProblem_X6_in : GoodIn wsX6_ofProblem wsX6_in := goodIn_r _ [12] (by decide +kernel) (by decide +kernel)
set_option maxRecDepth 20000 in
theorem gX6_ofProblem_X6_in : GoodIn wsX6_ofProblem (va_wsS RX6 85 yX6_in wsX6_in) := goodIn_app (goodIn_of _ (by decide +kernel)) ggX6_ofProblem_X6_in
set_option maxRecDepth 20000 in
theorem ggX6_ofProblem_X6_goesWell : GoodIn wsX6_ofProblem wsX6_goesWell := goodIn_r _ [16, 17, 18, 19, 20, 21, 22, 23, 24, 25, 26, 27, 28, 29, 30, 31, 32, 33, 34, 35, 36, 37, 38, 39, 40, 41, 42, 43, 44, 45, 46, 47, 48, 49] (by decide +kernel) (by decide +kernel)
set_option maxRecDepth 20000 in
theorem gX6_ofProblem_X6_goesWell : GoodIn wsX6_ofProblem (wsV RX6 99 RX6 yX6_goesWell wsX6_goesWell) := goodIn_app (goodIn_of _ (by decide +kernel)) ggX6_ofProblem_X6_goesWell
theorem dX6_ofProblem_0 : decode cX6_ofProblem 0 = .ok (.aload_n 0, 1) := by decide +kernel
theorem dX6_ofProblem_1 : decode cX6_ofProblem 1 = .ok (.iload_n 1, 1) := by decide +kernel
theorem dX6_ofProblem_2 : decode cX6_ofProblem 2 = .ok (.invokevirtual 217, 3) := by decide +kernel
theorem dX6_ofProblem_5 : decode cX6_ofProblem 5 = .ok (.istore_n 3, 1) := by decide +kernel
theorem dX6_ofProblem_6 : decode cX6_ofProblem 6 = .ok (.aload_n 0, 1) := by decide +kernel
theorem dX6_ofProblem_7 : decode cX6_ofProblem 7 = .ok (.iload_n 3, 1) := by decide +kernel
theorem dX6_ofProblem_8 : decode cX6_ofProblem 8 = .ok (.ifCond .ne 7, 3) := by decide +kernel
theorem dX6_ofProblem_11 : decode cX6_ofProblem 11 = .ok (.iconst 1, 1) := by decide +kernel
theorem dX6_ofProblem_12 : decode cX6_ofProblem 12 = .ok (.goto 17, 3) := by decide +kernel
theorem dX6_ofProblem_15 : decode cX6_ofProblem 15 = .ok (.iload_n 2, 1) := by decide +kernel
theorem dX6_ofProblem_16 : decode cX6_ofProblem 16 = .ok (.iconst 0, 1) := by decide +kernel
theorem dX6_ofProblem_17 : decode cX6_ofProblem 17 = .ok (.iconst 2, 1) := by decide +kernel
theorem dX6_ofProblem_18 : decode cX6_ofProblem 18 = .ok (.invokestatic 85, 3) := by decide +kernel
theorem dX6_ofProblem_21 : decode cX6_ofProblem 21 = .ok (.ifCond .eq 7, 3) := by decide +kernel
theorem dX6_ofProblem_24 : decode cX6_ofProblem 24 = .ok (.iconst 0, 1) := by decide +kernel
theorem dX6_ofProblem_25 : decode cX6_ofProblem 25 = .ok (.goto 4, 3) := by decide +kernel
theorem dX6_ofProblem_28 : decode cX6_ofProblem 28 = .ok (.iconst 2, 1) := by decide +kernel
theorem dX6_ofProblem_29 : decode cX6_ofProblem 29 = .ok (.invokevirtual 99, 3) := by decide +kernel
theorem dX6_ofProblem_32 : decode cX6_ofProblem 32 = .ok (.ifCond .ne 5, 3) := by decide +kernel
theorem dX6_ofProblem_35 : decode cX6_ofProblem 35 = .ok (.iconst 0, 1) := by decide +kernel
theorem dX6_ofProblem_36 : decode cX6_ofProblem 36 = .ok (.ireturn, 1) := by decide +kernel
theorem dX6_ofProblem_37 : decode cX6_ofProblem 37 = .ok (.iload_n 2, 1) := by decide +kernel
theorem dX6_ofProblem_38 : decode cX6_ofProblem 38 = .ok (.ifCond .ne 12, 3) := by decide +kernel
theorem dX6_ofProblem_41 : decode cX6_ofProblem 41 = .ok (.aload_n 0, 1) := by decide +kernel
theorem dX6_ofProblem_42 : decode cX6_ofProblem 42 = .ok (.getfield 69, 3) := by decide +kernel
theorem dX6_ofProblem_45 : decode cX6_ofProblem 45 = .ok (.iload_n 1, 1) := by decide +kernel
theorem dX6_ofProblem_46 : decode cX6_ofProblem 46 = .ok (.iaload, 1) := by decide +kernel
theorem dX6_ofProblem_47 : decode cX6_ofProblem 47 = .ok (.goto 23, 3) := by decide +kernel
theorem dX6_ofProblem_50 : decode cX6_ofProblem 50 = .ok (.iload_n 2, 1) := by decide +kernel
theorem dX6_ofProblem_51 : decode cX6_ofProblem 51 = .ok (.iconst 1, 1) := by decide +kernel
theorem dX6_ofProblem_52 : decode cX6_ofProblem 52 = .ok (.if_icmp .ne 12, 3) := by decide +kernel
theorem dX6_ofProblem_55 : decode cX6_ofProblem 55 = .ok (.aload_n 0, 1) := by decide +kernel
theorem dX6_ofProblem_56 : decode cX6_ofProblem 56 = .ok (.getfield 72, 3) := by decide +kernel
theorem dX6_ofProblem_59 : decode cX6_ofProblem 59 = .ok (.iload_n 1, 1) := by decide +kernel
theorem dX6_ofProblem_60 : decode cX6_ofProblem 60 = .ok (.iaload, 1) := by decide +kernel
theorem dX6_ofProblem_61 : decode cX6_ofProblem 61 = .ok (.goto 9, 3) := by decide +kernel
theorem dX6_ofProblem_64 : decode cX6_ofProblem 64 = .ok (.aload_n 0, 1) := by decide +kernel
theorem dX6_ofProblem_65 : decode cX6_ofProblem 65 = .ok (.getfield 75, 3) := by decide +kernel
theorem dX6_ofProblem_68 : decode cX6_ofProblem 68 = .ok (.iload_n 1, 1) := by decide +kernel
theorem dX6_ofProblem_69 : decode cX6_ofProblem 69 = .ok (.iaload, 1) := by decide +kernel
theorem dX6_ofProblem_70 : decode cX6_ofProblem 70 = .ok (.ireturn, 1) := by decide +kernel
theorem dX6_isHad_0 : decode cX6_isHad 0 = .ok (.iconst 0, 1) := by decide +kernel
theorem dX6_isHad_1 : decode cX6_isHad 1 = .ok (.istore_n 3, 1) := by decide +kernel
theorem dX6_isHad_2 : decode cX6_isHad 2 = .ok (.iload_n 3, 1) := by decide +kernel
theorem dX6_isHad_3 : decode cX6_isHad 3 = .ok (.iconst 1, 1) := by decide +kernel
theorem dX6_isHad_4 : decode cX6_isHad 4 = .ok (.iload_n 1, 1) := by decide +kernel
theorem dX6_isHad_5 : decode cX6_isHad 5 = .ok (.ishl, 1) := by decide +kernel
theorem dX6_isHad_6 : decode cX6_isHad 6 = .ok (.if_icmp .ge 29, 3) := by decide +kernel
theorem dX6_isHad_9 : decode cX6_isHad 9 = .ok (.aload_n 0, 1) := by decide +kernel
theorem dX6_isHad_10 : decode cX6_isHad 10 = .ok (.getfield 78, 3) := by decide +kernel
theorem dX6_isHad_13 : decode cX6_isHad 13 = .ok (.iload_n 3, 1) := by decide +kernel
theorem dX6_isHad_14 : decode cX6_isHad 14 = .ok (.iload_n 2, 1) := by decide +kernel
theorem dX6_isHad_15 : decode cX6_isHad 15 = .ok (.iload_n 3, 1) := by decide +kernel
theorem dX6_isHad_16 : decode cX6_isHad 16 = .ok (.ishr, 1) := by decide +kernel
theorem dX6_isHad_17 : decode cX6_isHad 17 = .ok (.iconst 1, 1) := by decide +kernel
theorem dX6_isHad_18 : decode cX6_isHad 18 = .ok (.iand, 1) := by decide +kernel
theorem dX6_isHad_19 : decode cX6_isHad 19 = .ok (.iconst 1, 1) := by decide +kernel
theorem dX6_isHad_20 : decode cX6_isHad 20 = .ok (.if_icmp .ne 7, 3) := by decide +kernel
theorem dX6_isHad_23 : decode cX6_isHad 23 = .ok (.iconst 1, 1) := by decide +kernel
theorem dX6_isHad_24 : decode cX6_isHad 24 = .ok (.goto 4, 3) := by decide +kernel
theorem dX6_isHad_27 : decode cX6_isHad 27 = .ok (.iconst 0, 1) := by decide +kernel
theorem dX6_isHad_28 : decode cX6_isHad 28 = .ok (.bastore, 1) := by decide +kernel
theorem dX6_isHad_29 : decode cX6_isHad 29 = .ok (.iinc 3 1, 3) := by decide +kernel
theorem dX6_isHad_32 : decode cX6_isHad 32 = .ok (.goto (-30), 3) := by decide +kernel
theorem dX6_isHad_35 : decode cX6_isHad 35 = .ok (.iload_n 1, 1) := by decide +kernel
theorem dX6_isHad_36 : decode cX6_isHad 36 = .ok (.iconst 1, 1) := by decide +kernel
theorem dX6_isHad_37 : decode cX6_isHad 37 = .ok (.isub, 1) := by decide +kernel
theorem dX6_isHad_38 : decode cX6_isHad 38 = .ok (.istore_n 3, 1) := by decide +kernel
theorem dX6_isHad_39 : decode cX6_isHad 39 = .ok (.iload_n 3, 1) := by decide +kernel
theorem dX6_isHad_40 : decode cX6_isHad 40 = .ok (.ifCond .lt 104, 3) := by decide +kernel
theorem dX6_isHad_43 : decode cX6_isHad 43 = .ok (.iconst 0, 1) := by decide +kernel
theorem dX6_isHad_44 : decode cX6_isHad 44 = .ok (.istore 4, 2) := by decide +kernel
theorem dX6_isHad_46 : decode cX6_isHad 46 = .ok (.iload 4, 2) := by decide +kernel
theorem dX6_isHad_48 : decode cX6_isHad 48 = .ok (.iconst 1, 1) := by decide +kernel
theorem dX6_isHad_49 : decode cX6_isHad 49 = .ok (.iload_n 3, 1) := by decide +kernel
theorem dX6_isHad_50 : decode cX6_isHad 50 = .ok (.ishl, 1) := by decide +kernel
theorem dX6_isHad_51 : decode cX6_isHad 51 = .ok (.if_icmp .ge 87, 3) := by decide +kernel
theorem dX6_isHad_54 : decode cX6_isHad 54 = .ok (.aload_n 0, 1) := by decide +kernel
theorem dX6_isHad_55 : decode cX6_isHad 55 = .ok (.getfield 78, 3) := by decide +kernel
theorem dX6_isHad_58 : decode cX6_isHad 58 = .ok (.iload 4, 2) := by decide +kernel
theorem dX6_isHad_60 : decode cX6_isHad 60 = .ok (.iload_n 3, 1) := by decide +kernel
