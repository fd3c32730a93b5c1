set_option maxRecDepth 20000 in
theorem ggX6_nextRule_X6_breaks : GoodIn wsX6_nextRule wsX6_breaks := goodIn_r _ [7] rfl (by decide +kernel)
set_option maxRecDepth 20000 in
theorem gX6_nextRule_X6_breaks : GoodIn wsX6_nextRule (va_wsS RX6 183 yX6_breaks wsX6_breaks) := goodIn_app (goodIn_of _ (by decide +kernel)) ggX6_nextRule_X6_breaks
theorem dX6_nextRule_0 : decode cX6_nextRule 0 = .ok (.iconst (-1), 1) := by decide +kernel
theorem dX6_nextRule_1 : decode cX6_nextRule 1 = .ok (.istore_n 2, 1) := by decide +kernel
theorem dX6_nextRule_2 : decode cX6_nextRule 2 = .ok (.aload_n 0, 1) := by decide +kernel
theorem dX6_nextRule_3 : decode cX6_nextRule 3 = .ok (.getfield 177, 3) := by decide +kernel
theorem dX6_nextRule_6 : decode cX6_nextRule 6 = .ok (.iconst 1, 1) := by decide +kernel
theorem dX6_nextRule_7 : decode cX6_nextRule 7 = .ok (.isub, 1) := by decide +kernel
theorem dX6_nextRule_8 : decode cX6_nextRule 8 = .ok (.istore_n 3, 1) := by decide +kernel
theorem dX6_nextRule_9 : decode cX6_nextRule 9 = .ok (.iload_n 3, 1) := by decide +kernel
theorem dX6_nextRule_10 : decode cX6_nextRule 10 = .ok (.ifCond .lt 34, 3) := by decide +kernel
theorem dX6_nextRule_13 : decode cX6_nextRule 13 = .ok (.iload_n 1, 1) := by decide +kernel
theorem dX6_nextRule_14 : decode cX6_nextRule 14 = .ok (.aload_n 0, 1) := by decide +kernel
theorem dX6_nextRule_15 : decode cX6_nextRule 15 = .ok (.getfield 57, 3) := by decide +kernel
theorem dX6_nextRule_18 : decode cX6_nextRule 18 = .ok (.iload_n 3, 1) := by decide +kernel
theorem dX6_nextRule_19 : decode cX6_nextRule 19 = .ok (.iaload, 1) := by decide +kernel
theorem dX6_nextRule_20 : decode cX6_nextRule 20 = .ok (.aload_n 0, 1) := by decide +kernel
theorem dX6_nextRule_21 : decode cX6_nextRule 21 = .ok (.getfield 60, 3) := by decide +kernel
theorem dX6_nextRule_24 : decode cX6_nextRule 24 = .ok (.iload_n 3, 1) := by decide +kernel
theorem dX6_nextRule_25 : decode cX6_nextRule 25 = .ok (.iaload, 1) := by decide +kernel
theorem dX6_nextRule_26 : decode cX6_nextRule 26 = .ok (.invokestatic 183, 3) := by decide +kernel
theorem dX6_nextRule_29 : decode cX6_nextRule 29 = .ok (.ifCond .eq 7, 3) := by decide +kernel
theorem dX6_nextRule_32 : decode cX6_nextRule 32 = .ok (.iload_n 3, 1) := by decide +kernel
theorem dX6_nextRule_33 : decode cX6_nextRule 33 = .ok (.goto 4, 3) := by decide +kernel
theorem dX6_nextRule_36 : decode cX6_nextRule 36 = .ok (.iload_n 2, 1) := by decide +kernel
theorem dX6_nextRule_37 : decode cX6_nextRule 37 = .ok (.istore_n 2, 1) := by decide +kernel
theorem dX6_nextRule_38 : decode cX6_nextRule 38 = .ok (.iinc 3 (-1), 3) := by decide +kernel
theorem dX6_nextRule_41 : decode cX6_nextRule 41 = .ok (.goto (-32), 3) := by decide +kernel
theorem dX6_nextRule_44 : decode cX6_nextRule 44 = .ok (.iload_n 2, 1) := by decide +kernel
theorem dX6_nextRule_45 : decode cX6_nextRule 45 = .ok (.ireturn, 1) := by decide +kernel
set_option maxRecDepth 20000 in
theorem ggX6_closed_X6_nextRule : GoodIn wsX6_closed wsX6_nextRule := goodIn_r _ [6, 7, 8, 1, 9, 10, 5, 11, 12, 13, 14, 15, 16, 17, 18, 19, 20, 21, 22, 23, 24, 25, 26, 27, 28, 29, 30, 31, 32, 33, 34, 35, 36, 37, 38, 39, 40, 41, 42, 43] rfl (by decide +kernel)
set_option maxRecDepth 20000 in
theorem gX6_closed_X6_nextRule : GoodIn wsX6_closed (wsV RX6 186 RX6 yX6_nextRule wsX6_nextRule) := goodIn_app (goodIn_of _ (by decide +kernel)) ggX6_closed_X6_nextRule
theorem dX6_closed_0 : decode cX6_closed 0 = .ok (.iload_n 1, 1) := by decide +kernel
theorem dX6_closed_1 : decode cX6_closed 1 = .ok (.istore_n 2, 1) := by decide +kernel
theorem dX6_closed_2 : decode cX6_closed 2 = .ok (.aload_n 0, 1) := by decide +kernel
theorem dX6_closed_3 : decode cX6_closed 3 = .ok (.iload_n 2, 1) := by decide +kernel
theorem dX6_closed_4 : decode cX6_closed 4 = .ok (.invokevirtual 186, 3) := by decide +kernel
theorem dX6_closed_7 : decode cX6_closed 7 = .ok (.istore_n 3, 1) := by decide +kernel
theorem dX6_closed_8 : decode cX6_closed 8 = .ok (.iload_n 3, 1) := by decide +kernel
theorem dX6_closed_9 : decode cX6_closed 9 = .ok (.iconst (-1), 1) := by decide +kernel
theorem dX6_closed_10 : decode cX6_closed 10 = .ok (.if_icmp .eq 23, 3) := by decide +kernel
theorem dX6_closed_13 : decode cX6_closed 13 = .ok (.iload_n 2, 1) := by decide +kernel
theorem dX6_closed_14 : decode cX6_closed 14 = .ok (.iconst 1, 1) := by decide +kernel
theorem dX6_closed_15 : decode cX6_closed 15 = .ok (.aload_n 0, 1) := by decide +kernel
theorem dX6_closed_16 : decode cX6_closed 16 = .ok (.getfield 60, 3) := by decide +kernel
theorem dX6_closed_19 : decode cX6_closed 19 = .ok (.iload_n 3, 1) := by decide +kernel
theorem dX6_closed_20 : decode cX6_closed 20 = .ok (.iaload, 1) := by decide +kernel
theorem dX6_closed_21 : decode cX6_closed 21 = .ok (.ishl, 1) := by decide +kernel
theorem dX6_closed_22 : decode cX6_closed 22 = .ok (.ior, 1) := by decide +kernel
theorem dX6_closed_23 : decode cX6_closed 23 = .ok (.istore_n 2, 1) := by decide +kernel
theorem dX6_closed_24 : decode cX6_closed 24 = .ok (.aload_n 0, 1) := by decide +kernel
theorem dX6_closed_25 : decode cX6_closed 25 = .ok (.iload_n 2, 1) := by decide +kernel
theorem dX6_closed_26 : decode cX6_closed 26 = .ok (.invokevirtual 186, 3) := by decide +kernel
theorem dX6_closed_29 : decode cX6_closed 29 = .ok (.istore_n 3, 1) := by decide +kernel
theorem dX6_closed_30 : decode cX6_closed 30 = .ok (.goto (-22), 3) := by decide +kernel
theorem dX6_closed_33 : decode cX6_closed 33 = .ok (.iload_n 2, 1) := by decide +kernel
theorem dX6_closed_34 : decode cX6_closed 34 = .ok (.ireturn, 1) := by decide +kernel
set_option maxRecDepth 20000 in
theorem ggX6_proves_X6_isSet : GoodIn wsX6_proves wsX6_isSet := goodIn_r _ [5, 6, 7, 8, 4, 9, 29, 30, 31, 32, 33, 34, 35, 36, 37, 38, 39, 40, 41, 42, 43, 44, 45, 46, 47, 48, 49, 50, 51, 52, 53, 54, 55, 56, 57, 58, 59, 60] rfl (by decide +kernel)
set_option maxRecDepth 20000 in
theorem gX6_proves_X6_isSet : GoodIn wsX6_proves (wsV RX6 174 RX6 yX6_isSet wsX6_isSet) := goodIn_app (goodIn_of _ (by decide +kernel)) ggX6_proves_X6_isSet
set_option maxRecDepth 20000 in
theorem ggX6_proves_X6_goesWell : GoodIn wsX6_proves wsX6_goesWell := goodIn_r _ [13, 14, 29, 30, 31, 32, 33, 34, 35, 36, 37, 38, 39, 40, 41, 42, 43, 44, 45, 46, 47, 48, 49, 50, 51, 52, 53, 54, 55, 56, 57, 58, 59, 60] rfl (by decide +kernel)
set_option maxRecDepth 20000 in
theorem gX6_proves_X6_goesWell : GoodIn wsX6_proves (wsV RX6 99 RX6 yX6_goesWell wsX6_goesWell) := goodIn_app (goodIn_of _ (by decide +kernel)) ggX6_proves_X6_goesWell
set_option maxRecDepth 20000 in
theorem ggX6_proves_X6_closed : GoodIn wsX6_proves wsX6_closed := goodIn_r _ [18, 19, 20, 21, 22, 4, 23, 24, 25, 26, 27, 28, 29, 30, 31, 32, 33, 34, 35, 36, 37, 38, 39, 40, 41, 42, 43, 44, 45, 46, 47, 48, 49, 50, 51, 52, 53, 54, 55, 56, 57, 58, 59, 60] rfl (by decide +kernel)
set_option maxRecDepth 20000 in
theorem gX6_proves_X6_closed : GoodIn wsX6_proves (wsV RX6 189 RX6 yX6_closed wsX6_closed) := goodIn_app (goodIn_of _ (by decide +kernel)) ggX6_proves_X6_closed
theorem dX6_proves_0 : decode cX6_proves 0 = .ok (.aload_n 0, 1) := by decide +kernel
theorem dX6_proves_1 : decode cX6_proves 1 = .ok (.aload_n 0, 1) := by decide +kernel
theorem dX6_proves_2 : decode cX6_proves 2 = .ok (.iload_n 1, 1) := by decide +kernel
theorem dX6_proves_3 : decode cX6_proves 3 = .ok (.invokevirtual 174, 3) := by decide +kernel
theorem dX6_proves_6 : decode cX6_proves 6 = .ok (.ifCond .eq 7, 3) := by decide +kernel
theorem dX6_proves_9 : decode cX6_proves 9 = .ok (.iconst 0, 1) := by decide +kernel
theorem dX6_proves_10 : decode cX6_proves 10 = .ok (.goto 4, 3) := by decide +kernel
theorem dX6_proves_13 : decode cX6_proves 13 = .ok (.iconst 1, 1) := by decide +kernel
theorem dX6_proves_14 : decode cX6_proves 14 = .ok (.invokevirtual 99, 3) := by decide +kernel
theorem dX6_proves_17 : decode cX6_proves 17 = .ok (.ifCond .eq 11, 3) := by decide +kernel
theorem dX6_proves_20 : decode cX6_proves 20 = .ok (.aload_n 0, 1) := by decide +kernel
theorem dX6_proves_21 : decode cX6_proves 21 = .ok (.iload_n 1, 1) := by decide +kernel
theorem dX6_proves_22 : decode cX6_proves 22 = .ok (.invokevirtual 189, 3) := by decide +kernel
theorem dX6_proves_25 : decode cX6_proves 25 = .ok (.goto 4, 3) := by decide +kernel
theorem dX6_proves_28 : decode cX6_proves 28 = .ok (.iconst 0, 1) := by decide +kernel
theorem dX6_proves_29 : decode cX6_proves 29 = .ok (.ireturn, 1) := by decide +kernel
set_option maxRecDepth 20000 in
theorem ggX6_prove_X6_nextRule : GoodIn wsX6_prove wsX6_nextRule := goodIn_r _ [8, 9, 3, 2, 10, 11, 7, 12, 13, 14, 15, 16, 17, 18, 19, 20, 21, 22, 23, 24, 25, 26, 27, 28, 29, 30, 31, 32, 33, 34, 35, 36, 37, 38, 39, 40, 41, 42, 43, 44] rfl (by decide +kernel)
set_option maxRecDepth 20000 in
theorem gX6_prove_X6_nextRule : GoodIn wsX6_prove (wsV RX6 186 RX6 yX6_nextRule wsX6_nextRule) := goodIn_app (goodIn_of _ (by decide +kernel)) ggX6_prove_X6_nextRule
theorem dX6_prove_0 : decode cX6_prove 0 = .ok (.iload_n 1, 1) := by decide +kernel
theorem dX6_prove_1 : decode cX6_prove 1 = .ok (.istore_n 3, 1) := by decide +kernel
theorem dX6_prove_2 : decode cX6_prove 2 = .ok (.iconst 0, 1) := by decide +kernel
theorem dX6_prove_3 : decode cX6_prove 3 = .ok (.istore 4, 2) := by decide +kernel
theorem dX6_prove_5 : decode cX6_prove 5 = .ok (.iload_n 3, 1) := by decide +kernel
theorem dX6_prove_6 : decode cX6_prove 6 = .ok (.iload_n 2, 1) := by decide +kernel
theorem dX6_prove_7 : decode cX6_prove 7 = .ok (.ishr, 1) := by decide +kernel
theorem dX6_prove_8 : decode cX6_prove 8 = .ok (.iconst 1, 1) := by decide +kernel
theorem dX6_prove_9 : decode cX6_prove 9 = .ok (.iand, 1) := by decide +kernel
theorem dX6_prove_10 : decode cX6_prove 10 = .ok (.ifCond .ne 38, 3) := by decide +kernel
theorem dX6_prove_13 : decode cX6_prove 13 = .ok (.aload_n 0, 1) := by decide +kernel
theorem dX6_prove_14 : decode cX6_prove 14 = .ok (.getfield 66, 3) := by decide +kernel
theorem dX6_prove_17 : decode cX6_prove 17 = .ok (.iload 4, 2) := by decide +kernel
theorem dX6_prove_19 : decode cX6_prove 19 = .ok (.aload_n 0, 1) := by decide +kernel
theorem dX6_prove_20 : decode cX6_prove 20 = .ok (.iload_n 3, 1) := by decide +kernel
theorem dX6_prove_21 : decode cX6_prove 21 = .ok (.invokevirtual 186, 3) := by decide +kernel
theorem dX6_prove_24 : decode cX6_prove 24 = .ok (.iastore, 1) := by decide +kernel
theorem dX6_prove_25 : decode cX6_prove 25 = .ok (.iload_n 3, 1) := by decide +kernel
theorem dX6_prove_26 : decode cX6_prove 26 = .ok (.iconst 1, 1) := by decide +kernel
theorem dX6_prove_27 : decode cX6_prove 27 = .ok (.aload_n 0, 1) := by decide +kernel
theorem dX6_prove_28 : decode cX6_prove 28 = .ok (.getfield 60, 3) := by decide +kernel
theorem dX6_prove_31 : decode cX6_prove 31 = .ok (.aload_n 0, 1) := by decide +kernel
theorem dX6_prove_32 : decode cX6_prove 32 = .ok (.getfield 66, 3) := by decide +kernel
theorem dX6_prove_35 : decode cX6_prove 35 = .ok (.iload 4, 2) := by decide +kernel
theorem dX6_prove_37 : decode cX6_prove 37 = .ok (.iaload, 1) := by decide +kernel
theorem dX6_prove_38 : decode cX6_prove 38 = .ok (.iaload, 1) := by decide +kernel
theorem dX6_prove_39 : decode cX6_prove 39 = .ok (.ishl, 1) := by decide +kernel
theorem dX6_prove_40 : decode cX6_prove 40 = .ok (.ior, 1) := by decide +kernel
theorem dX6_prove_41 : decode cX6_prove 41 = .ok (.istore_n 3, 1) := by decide +kernel
theorem dX6_prove_42 : decode cX6_prove 42 = .ok (.iinc 4 1, 3) := by decide +kernel
theorem dX6_prove_45 : decode cX6_prove 45 = .ok (.goto (-40), 3) := by decide +kernel
theorem dX6_prove_48 : decode cX6_prove 48 = .ok (.iconst 1, 1) := by decide +kernel
theorem dX6_prove_49 : decode cX6_prove 49 = .ok (.iload_n 2, 1) := by decide +kernel
theorem dX6_prove_50 : decode cX6_prove 50 = .ok (.ishl, 1) := by decide +kernel
theorem dX6_prove_51 : decode cX6_prove 51 = .ok (.istore 5, 2) := by decide +kernel
theorem dX6_prove_53 : decode cX6_prove 53 = .ok (.iload 4, 2) := by decide +kernel
theorem dX6_prove_55 : decode cX6_prove 55 = .ok (.iconst 1, 1) := by decide +kernel
theorem dX6_prove_56 : decode cX6_prove 56 = .ok (.isub, 1) := by decide +kernel
theorem dX6_prove_57 : decode cX6_prove 57 = .ok (.istore 6, 2) := by decide +kernel
theorem dX6_prove_59 : decode cX6_prove 59 = .ok (.iload 6, 2) := by decide +kernel
theorem dX6_prove_61 : decode cX6_prove 61 = .ok (.ifCond .lt 86, 3) := by decide +kernel
theorem dX6_prove_64 : decode cX6_prove 64 = .ok (.iload 5, 2) := by decide +kernel
theorem dX6_prove_66 : decode cX6_prove 66 = .ok (.aload_n 0, 1) := by decide +kernel
theorem dX6_prove_67 : decode cX6_prove 67 = .ok (.getfield 60, 3) := by decide +kernel
theorem dX6_prove_70 : decode cX6_prove 70 = .ok (.aload_n 0, 1) := by decide +kernel
theorem dX6_prove_71 : decode cX6_prove 71 = .ok (.getfield 66, 3) := by decide +kernel
theorem dX6_prove_74 : decode cX6_prove 74 = .ok (.iload 6, 2) := by decide +kernel
theorem dX6_prove_76 : decode cX6_prove 76 = .ok (.iaload, 1) := by decide +kernel
theorem dX6_prove_77 : decode cX6_prove 77 = .ok (.iaload, 1) := by decide +kernel
theorem dX6_prove_78 : decode cX6_prove 78 = .ok (.ishr, 1) := by decide +kernel
theorem dX6_prove_79 : decode cX6_prove 79 = .ok (.iconst 1, 1) := by decide +kernel
theorem dX6_prove_80 : decode cX6_prove 80 = .ok (.iand, 1) := by decide +kernel
theorem dX6_prove_81 : decode cX6_prove 81 = .ok (.iconst 1, 1) := by decide +kernel
theorem dX6_prove_82 : decode cX6_prove 82 = .ok (.if_icmp .ne 7, 3) := by decide +kernel
theorem dX6_prove_85 : decode cX6_prove 85 = .ok (.iconst 1, 1) := by decide +kernel
theorem dX6_prove_86 : decode cX6_prove 86 = .ok (.goto 4, 3) := by decide +kernel
theorem dX6_prove_89 : decode cX6_prove 89 = .ok (.iconst 0, 1) := by decide +kernel
theorem dX6_prove_90 : decode cX6_prove 90 = .ok (.istore 7, 2) := by decide +kernel
theorem dX6_prove_92 : decode cX6_prove 92 = .ok (.iload 5, 2) := by decide +kernel
theorem dX6_prove_94 : decode cX6_prove 94 = .ok (.iload 7, 2) := by decide +kernel
theorem dX6_prove_96 : decode cX6_prove 96 = .ok (.ifCond .eq 18, 3) := by decide +kernel
theorem dX6_prove_99 : decode cX6_prove 99 = .ok (.aload_n 0, 1) := by decide +kernel
theorem dX6_prove_100 : decode cX6_prove 100 = .ok (.getfield 57, 3) := by decide +kernel
theorem dX6_prove_103 : decode cX6_prove 103 = .ok (.aload_n 0, 1) := by decide +kernel
theorem dX6_prove_104 : decode cX6_prove 104 = .ok (.getfield 66, 3) := by decide +kernel
theorem dX6_prove_107 : decode cX6_prove 107 = .ok (.iload 6, 2) := by decide +kernel
theorem dX6_prove_109 : decode cX6_prove 109 = .ok (.iaload, 1) := by decide +kernel
theorem dX6_prove_110 : decode cX6_prove 110 = .ok (.iaload, 1) := by decide +kernel
theorem dX6_prove_111 : decode cX6_prove 111 = .ok (.goto 4, 3) := by decide +kernel
theorem dX6_prove_114 : decode cX6_prove 114 = .ok (.iconst 0, 1) := by decide +kernel
theorem dX6_prove_115 : decode cX6_prove 115 = .ok (.ior, 1) := by decide +kernel
theorem dX6_prove_116 : decode cX6_prove 116 = .ok (.istore 5, 2) := by decide +kernel
theorem dX6_prove_118 : decode cX6_prove 118 = .ok (.aload_n 0, 1) := by decide +kernel
theorem dX6_prove_119 : decode cX6_prove 119 = .ok (.getfield 66, 3) := by decide +kernel
theorem dX6_prove_122 : decode cX6_prove 122 = .ok (.iload 6, 2) := by decide +kernel
theorem dX6_prove_124 : decode cX6_prove 124 = .ok (.iload 7, 2) := by decide +kernel
theorem dX6_prove_126 : decode cX6_prove 126 = .ok (.ifCond .eq 13, 3) := by decide +kernel
theorem dX6_prove_129 : decode cX6_prove 129 = .ok (.aload_n 0, 1) := by decide +kernel
theorem dX6_prove_130 : decode cX6_prove 130 = .ok (.getfield 66, 3) := by decide +kernel
theorem dX6_prove_133 : decode cX6_prove 133 = .ok (.iload 6, 2) := by decide +kernel
theorem dX6_prove_135 : decode cX6_prove 135 = .ok (.iaload, 1) := by decide +kernel
theorem dX6_prove_136 : decode cX6_prove 136 = .ok (.goto 4, 3) := by decide +kernel
theorem dX6_prove_139 : decode cX6_prove 139 = .ok (.iconst (-1), 1) := by decide +kernel
theorem dX6_prove_140 : decode cX6_prove 140 = .ok (.iastore, 1) := by decide +kernel
theorem dX6_prove_141 : decode cX6_prove 141 = .ok (.iinc 6 (-1), 3) := by decide +kernel
theorem dX6_prove_144 : decode cX6_prove 144 = .ok (.goto (-85), 3) := by decide +kernel
theorem dX6_prove_147 : decode cX6_prove 147 = .ok (.iconst 0, 1) := by decide +kernel
theorem dX6_prove_148 : decode cX6_prove 148 = .ok (.istore 6, 2) := by decide +kernel
theorem dX6_prove_150 : decode cX6_prove 150 = .ok (.iconst 0, 1) := by decide +kernel
theorem dX6_prove_151 : decode cX6_prove 151 = .ok (.istore 7, 2) := by decide +kernel
theorem dX6_prove_153 : decode cX6_prove 153 = .ok (.iload 7, 2) := by decide +kernel
theorem dX6_prove_155 : decode cX6_prove 155 = .ok (.iload 4, 2) := by decide +kernel
theorem dX6_prove_157 : decode cX6_prove 157 = .ok (.if_icmp .ge 37, 3) := by decide +kernel
theorem dX6_prove_160 : decode cX6_prove 160 = .ok (.aload_n 0, 1) := by decide +kernel
theorem dX6_prove_161 : decode cX6_prove 161 = .ok (.getfield 66, 3) := by decide +kernel
theorem dX6_prove_164 : decode cX6_prove 164 = .ok (.iload 7, 2) := by decide +kernel
theorem dX6_prove_166 : decode cX6_prove 166 = .ok (.iaload, 1) := by decide +kernel
theorem dX6_prove_167 : decode cX6_prove 167 = .ok (.iconst (-1), 1) := by decide +kernel
theorem dX6_prove_168 : decode cX6_prove 168 = .ok (.if_icmp .eq 20, 3) := by decide +kernel
theorem dX6_prove_171 : decode cX6_prove 171 = .ok (.aload_n 0, 1) := by decide +kernel
theorem dX6_prove_172 : decode cX6_prove 172 = .ok (.getfield 66, 3) := by decide +kernel
theorem dX6_prove_175 : decode cX6_prove 175 = .ok (.iload 6, 2) := by decide +kernel
theorem dX6_prove_177 : decode cX6_prove 177 = .ok (.aload_n 0, 1) := by decide +kernel
theorem dX6_prove_178 : decode cX6_prove 178 = .ok (.getfield 66, 3) := by decide +kernel
theorem dX6_prove_181 : decode cX6_prove 181 = .ok (.iload 7, 2) := by decide +kernel
theorem dX6_prove_183 : decode cX6_prove 183 = .ok (.iaload, 1) := by decide +kernel
theorem dX6_prove_184 : decode cX6_prove 184 = .ok (.iastore, 1) := by decide +kernel
theorem dX6_prove_185 : decode cX6_prove 185 = .ok (.iinc 6 1, 3) := by decide +kernel
theorem dX6_prove_188 : decode cX6_prove 188 = .ok (.iinc 7 1, 3) := by decide +kernel
theorem dX6_prove_191 : decode cX6_prove 191 = .ok (.goto (-38), 3) := by decide +kernel
theorem dX6_prove_194 : decode cX6_prove 194 = .ok (.iload 6, 2) := by decide +kernel
theorem dX6_prove_196 : decode cX6_prove 196 = .ok (.ireturn, 1) := by decide +kernel
set_option maxRecDepth 20000 in
theorem ggX6_proof_X6_isPrinciple : GoodIn wsX6_proof wsX6_isPrinciple := goodIn_r _ [6, 7, 8, 9, 5, 10, 38, 39, 40, 41, 42, 43, 44, 45, 46, 47, 48, 49, 50, 51, 52, 53, 54, 55, 56, 57, 58, 59, 60, 61, 62, 63, 64, 65, 66, 67, 68, 69] rfl (by decide +kernel)
set_option maxRecDepth 20000 in
theorem gX6_proof_X6_isPrinciple : GoodIn wsX6_proof (wsV RX6 171 RX6 yX6_isPrinciple wsX6_isPrinciple) := goodIn_app (goodIn_of _ (by decide +kernel)) ggX6_proof_X6_isPrinciple
set_option maxRecDepth 20000 in
theorem ggX6_proof_X6_isSet : GoodIn wsX6_proof wsX6_isSet := goodIn_r _ [14, 7, 8, 9, 5, 10, 38, 39, 40, 41, 42, 43, 44, 45, 46, 47, 48, 49, 50, 51, 52, 53, 54, 55, 56, 57, 58, 59, 60, 61, 62, 63, 64, 65, 66, 67, 68, 69] rfl (by decide +kernel)
set_option maxRecDepth 20000 in
theorem gX6_proof_X6_isSet : GoodIn wsX6_proof (wsV RX6 174 RX6 yX6_isSet wsX6_isSet) := goodIn_app (goodIn_of _ (by decide +kernel)) ggX6_proof_X6_isSet
set_option maxRecDepth 20000 in
theorem ggX6_proof_X6_goesWell : GoodIn wsX6_proof wsX6_goesWell := goodIn_r _ [18, 19, 38, 39, 40, 41, 42, 43, 44, 45, 46, 47, 48, 49, 50, 51, 52, 53, 54, 55, 56, 57, 58, 59, 60, 61, 62, 63, 64, 65, 66, 67, 68, 69] rfl (by decide +kernel)
set_option maxRecDepth 20000 in
theorem gX6_proof_X6_goesWell : GoodIn wsX6_proof (wsV RX6 99 RX6 yX6_goesWell wsX6_goesWell) := goodIn_app (goodIn_of _ (by decide +kernel)) ggX6_proof_X6_goesWell
set_option maxRecDepth 20000 in
theorem ggX6_proof_X6_closed : GoodIn wsX6_proof wsX6_closed := goodIn_r _ [23, 24, 25, 26, 27, 5, 28, 29, 30, 31, 32, 33, 38, 39, 40, 41, 42, 43, 44, 45, 46, 47, 48, 49, 50, 51, 52, 53, 54, 55, 56, 57, 58, 59, 60, 61, 62, 63, 64, 65, 66, 67, 68, 69] rfl (by decide +kernel)
set_option maxRecDepth 20000 in
theorem gX6_proof_X6_closed : GoodIn wsX6_proof (wsV RX6 189 RX6 yX6_closed wsX6_closed) := goodIn_app (goodIn_of _ (by decide +kernel)) ggX6_proof_X6_closed
set_option maxRecDepth 20000 in
theorem ggX6_proof_X6_prove : GoodIn wsX6_proof wsX6_prove := goodIn_r _ [37, 1, 24, 30, 25, 26, 27, 5, 28, 29, 31, 32, 33, 38, 39, 40, 41, 42, 43, 44, 45, 46, 47, 48, 49, 50, 51, 52, 53, 54, 55, 56, 57, 58, 59, 60, 61, 62, 63, 64, 65, 66, 67, 68, 69] rfl (by decide +kernel)
set_option maxRecDepth 20000 in
theorem gX6_proof_X6_prove : GoodIn wsX6_proof (wsV RX6 192 RX6 yX6_prove wsX6_prove) := goodIn_app (goodIn_of _ (by decide +kernel)) ggX6_proof_X6_prove
theorem dX6_proof_0 : decode cX6_proof 0 = .ok (.aload_n 0, 1) := by decide +kernel
theorem dX6_proof_1 : decode cX6_proof 1 = .ok (.iload_n 2, 1) := by decide +kernel
theorem dX6_proof_2 : decode cX6_proof 2 = .ok (.invokevirtual 171, 3) := by decide +kernel
theorem dX6_proof_5 : decode cX6_proof 5 = .ok (.ifCond .eq 11, 3) := by decide +kernel
theorem dX6_proof_8 : decode cX6_proof 8 = .ok (.iload_n 3, 1) := by decide +kernel
theorem dX6_proof_9 : decode cX6_proof 9 = .ok (.ifCond .lt 7, 3) := by decide +kernel
theorem dX6_proof_12 : decode cX6_proof 12 = .ok (.iconst 1, 1) := by decide +kernel
theorem dX6_proof_13 : decode cX6_proof 13 = .ok (.goto 4, 3) := by decide +kernel
theorem dX6_proof_16 : decode cX6_proof 16 = .ok (.iconst 0, 1) := by decide +kernel
theorem dX6_proof_17 : decode cX6_proof 17 = .ok (.istore 4, 2) := by decide +kernel
theorem dX6_proof_19 : decode cX6_proof 19 = .ok (.aload_n 0, 1) := by decide +kernel
theorem dX6_proof_20 : decode cX6_proof 20 = .ok (.iload 4, 2) := by decide +kernel
theorem dX6_proof_22 : decode cX6_proof 22 = .ok (.ifCond .ne 7, 3) := by decide +kernel
theorem dX6_proof_25 : decode cX6_proof 25 = .ok (.iconst 1, 1) := by decide +kernel
theorem dX6_proof_26 : decode cX6_proof 26 = .ok (.goto 16, 3) := by decide +kernel
theorem dX6_proof_29 : decode cX6_proof 29 = .ok (.aload_n 0, 1) := by decide +kernel
theorem dX6_proof_30 : decode cX6_proof 30 = .ok (.iload_n 1, 1) := by decide +kernel
theorem dX6_proof_31 : decode cX6_proof 31 = .ok (.invokevirtual 174, 3) := by decide +kernel
theorem dX6_proof_34 : decode cX6_proof 34 = .ok (.ifCond .eq 7, 3) := by decide +kernel
theorem dX6_proof_37 : decode cX6_proof 37 = .ok (.iconst 0, 1) := by decide +kernel
theorem dX6_proof_38 : decode cX6_proof 38 = .ok (.goto 4, 3) := by decide +kernel
theorem dX6_proof_41 : decode cX6_proof 41 = .ok (.iconst 2, 1) := by decide +kernel
theorem dX6_proof_42 : decode cX6_proof 42 = .ok (.invokevirtual 99, 3) := by decide +kernel
theorem dX6_proof_45 : decode cX6_proof 45 = .ok (.ifCond .ne 5, 3) := by decide +kernel
theorem dX6_proof_48 : decode cX6_proof 48 = .ok (.iconst 0, 1) := by decide +kernel
theorem dX6_proof_49 : decode cX6_proof 49 = .ok (.ireturn, 1) := by decide +kernel
theorem dX6_proof_50 : decode cX6_proof 50 = .ok (.aload_n 0, 1) := by decide +kernel
theorem dX6_proof_51 : decode cX6_proof 51 = .ok (.iload_n 1, 1) := by decide +kernel
theorem dX6_proof_52 : decode cX6_proof 52 = .ok (.invokevirtual 189, 3) := by decide +kernel
theorem dX6_proof_55 : decode cX6_proof 55 = .ok (.iload_n 2, 1) := by decide +kernel
theorem dX6_proof_56 : decode cX6_proof 56 = .ok (.ishr, 1) := by decide +kernel
theorem dX6_proof_57 : decode cX6_proof 57 = .ok (.iconst 1, 1) := by decide +kernel
theorem dX6_proof_58 : decode cX6_proof 58 = .ok (.iand, 1) := by decide +kernel
theorem dX6_proof_59 : decode cX6_proof 59 = .ok (.ifCond .ne 5, 3) := by decide +kernel
theorem dX6_proof_62 : decode cX6_proof 62 = .ok (.iconst (-1), 1) := by decide +kernel
theorem dX6_proof_63 : decode cX6_proof 63 = .ok (.ireturn, 1) := by decide +kernel
theorem dX6_proof_64 : decode cX6_proof 64 = .ok (.aload_n 0, 1) := by decide +kernel
theorem dX6_proof_65 : decode cX6_proof 65 = .ok (.iload_n 1, 1) := by decide +kernel
theorem dX6_proof_66 : decode cX6_proof 66 = .ok (.iload_n 2, 1) := by decide +kernel
theorem dX6_proof_67 : decode cX6_proof 67 = .ok (.invokevirtual 192, 3) := by decide +kernel
theorem dX6_proof_70 : decode cX6_proof 70 = .ok (.istore 5, 2) := by decide +kernel
theorem dX6_proof_72 : decode cX6_proof 72 = .ok (.iload_n 3, 1) := by decide +kernel
theorem dX6_proof_73 : decode cX6_proof 73 = .ok (.iload 5, 2) := by decide +kernel
theorem dX6_proof_75 : decode cX6_proof 75 = .ok (.if_icmp .ge 12, 3) := by decide +kernel
theorem dX6_proof_78 : decode cX6_proof 78 = .ok (.aload_n 0, 1) := by decide +kernel
theorem dX6_proof_79 : decode cX6_proof 79 = .ok (.getfield 66, 3) := by decide +kernel
theorem dX6_proof_82 : decode cX6_proof 82 = .ok (.iload_n 3, 1) := by decide +kernel
theorem dX6_proof_83 : decode cX6_proof 83 = .ok (.iaload, 1) := by decide +kernel
theorem dX6_proof_84 : decode cX6_proof 84 = .ok (.goto 4, 3) := by decide +kernel
theorem dX6_proof_87 : decode cX6_proof 87 = .ok (.iconst (-1), 1) := by decide +kernel
theorem dX6_proof_88 : decode cX6_proof 88 = .ok (.ireturn, 1) := by decide +kernel
set_option maxRecDepth 20000 in
theorem ggX6_knownOf_X6_closed : GoodIn wsX6_knownOf wsX6_closed := goodIn_r _ [7, 8, 9, 10, 11, 6, 12, 13, 14, 15, 16, 17, 18, 19, 20, 21, 22, 23, 24, 25, 26, 27, 28, 29, 30, 31, 32, 33, 34, 35, 36, 37, 38, 39, 40, 41, 42, 43, 44, 45, 46, 47, 48, 49] rfl (by decide +kernel)
set_option maxRecDepth 20000 in
theorem gX6_knownOf_X6_closed : GoodIn wsX6_knownOf (wsV RX6 189 RX6 yX6_closed wsX6_closed) := goodIn_app (goodIn_of _ (by decide +kernel)) ggX6_knownOf_X6_closed
theorem dX6_knownOf_0 : decode cX6_knownOf 0 = .ok (.aload_n 0, 1) := by decide +kernel
theorem dX6_knownOf_1 : decode cX6_knownOf 1 = .ok (.iconst 1, 1) := by decide +kernel
theorem dX6_knownOf_2 : decode cX6_knownOf 2 = .ok (.iload_n 1, 1) := by decide +kernel
theorem dX6_knownOf_3 : decode cX6_knownOf 3 = .ok (.ishl, 1) := by decide +kernel
theorem dX6_knownOf_4 : decode cX6_knownOf 4 = .ok (.invokevirtual 189, 3) := by decide +kernel
theorem dX6_knownOf_7 : decode cX6_knownOf 7 = .ok (.iload_n 2, 1) := by decide +kernel
theorem dX6_knownOf_8 : decode cX6_knownOf 8 = .ok (.ishr, 1) := by decide +kernel
theorem dX6_knownOf_9 : decode cX6_knownOf 9 = .ok (.iconst 1, 1) := by decide +kernel
theorem dX6_knownOf_10 : decode cX6_knownOf 10 = .ok (.iand, 1) := by decide +kernel
theorem dX6_knownOf_11 : decode cX6_knownOf 11 = .ok (.iconst 1, 1) := by decide +kernel
theorem dX6_knownOf_12 : decode cX6_knownOf 12 = .ok (.if_icmp .ne 5, 3) := by decide +kernel
theorem dX6_knownOf_15 : decode cX6_knownOf 15 = .ok (.iconst 1, 1) := by decide +kernel
theorem dX6_knownOf_16 : decode cX6_knownOf 16 = .ok (.ireturn, 1) := by decide +kernel
theorem dX6_knownOf_17 : decode cX6_knownOf 17 = .ok (.iconst 0, 1) := by decide +kernel
theorem dX6_knownOf_18 : decode cX6_knownOf 18 = .ok (.istore_n 3, 1) := by decide +kernel
theorem dX6_knownOf_19 : decode cX6_knownOf 19 = .ok (.iconst 0, 1) := by decide +kernel
theorem dX6_knownOf_20 : decode cX6_knownOf 20 = .ok (.istore 4, 2) := by decide +kernel
theorem dX6_knownOf_22 : decode cX6_knownOf 22 = .ok (.iload 4, 2) := by decide +kernel
theorem dX6_knownOf_24 : decode cX6_knownOf 24 = .ok (.aload_n 0, 1) := by decide +kernel
theorem dX6_knownOf_25 : decode cX6_knownOf 25 = .ok (.getfield 180, 3) := by decide +kernel
theorem dX6_knownOf_28 : decode cX6_knownOf 28 = .ok (.if_icmp .ge 48, 3) := by decide +kernel
theorem dX6_knownOf_31 : decode cX6_knownOf 31 = .ok (.iload_n 3, 1) := by decide +kernel
theorem dX6_knownOf_32 : decode cX6_knownOf 32 = .ok (.ifCond .ne 32, 3) := by decide +kernel
theorem dX6_knownOf_35 : decode cX6_knownOf 35 = .ok (.aload_n 0, 1) := by decide +kernel
theorem dX6_knownOf_36 : decode cX6_knownOf 36 = .ok (.getfield 63, 3) := by decide +kernel
theorem dX6_knownOf_39 : decode cX6_knownOf 39 = .ok (.iload 4, 2) := by decide +kernel
theorem dX6_knownOf_41 : decode cX6_knownOf 41 = .ok (.iaload, 1) := by decide +kernel
theorem dX6_knownOf_42 : decode cX6_knownOf 42 = .ok (.iload_n 1, 1) := by decide +kernel
theorem dX6_knownOf_43 : decode cX6_knownOf 43 = .ok (.ishr, 1) := by decide +kernel
theorem dX6_knownOf_44 : decode cX6_knownOf 44 = .ok (.iconst 1, 1) := by decide +kernel
theorem dX6_knownOf_45 : decode cX6_knownOf 45 = .ok (.iand, 1) := by decide +kernel
theorem dX6_knownOf_46 : decode cX6_knownOf 46 = .ok (.iconst 1, 1) := by decide +kernel
theorem dX6_knownOf_47 : decode cX6_knownOf 47 = .ok (.if_icmp .ne 21, 3) := by decide +kernel
theorem dX6_knownOf_50 : decode cX6_knownOf 50 = .ok (.aload_n 0, 1) := by decide +kernel
theorem dX6_knownOf_51 : decode cX6_knownOf 51 = .ok (.getfield 63, 3) := by decide +kernel
theorem dX6_knownOf_54 : decode cX6_knownOf 54 = .ok (.iload 4, 2) := by decide +kernel
theorem dX6_knownOf_56 : decode cX6_knownOf 56 = .ok (.iaload, 1) := by decide +kernel
theorem dX6_knownOf_57 : decode cX6_knownOf 57 = .ok (.iload_n 2, 1) := by decide +kernel
theorem dX6_knownOf_58 : decode cX6_knownOf 58 = .ok (.ishr, 1) := by decide +kernel
theorem dX6_knownOf_59 : decode cX6_knownOf 59 = .ok (.iconst 1, 1) := by decide +kernel
theorem dX6_knownOf_60 : decode cX6_knownOf 60 = .ok (.iand, 1) := by decide +kernel
theorem dX6_knownOf_61 : decode cX6_knownOf 61 = .ok (.ifCond .ne 7, 3) := by decide +kernel
theorem dX6_knownOf_64 : decode cX6_knownOf 64 = .ok (.iconst 1, 1) := by decide +kernel
theorem dX6_knownOf_65 : decode cX6_knownOf 65 = .ok (.goto 4, 3) := by decide +kernel
theorem dX6_knownOf_68 : decode cX6_knownOf 68 = .ok (.iconst 0, 1) := by decide +kernel
theorem dX6_knownOf_69 : decode cX6_knownOf 69 = .ok (.istore_n 3, 1) := by decide +kernel
theorem dX6_knownOf_70 : decode cX6_knownOf 70 = .ok (.iinc 4 1, 3) := by decide +kernel
theorem dX6_knownOf_73 : decode cX6_knownOf 73 = .ok (.goto (-51), 3) := by decide +kernel
theorem dX6_knownOf_76 : decode cX6_knownOf 76 = .ok (.iload_n 3, 1) := by decide +kernel
theorem dX6_knownOf_77 : decode cX6_knownOf 77 = .ok (.ifCond .eq 7, 3) := by decide +kernel
theorem dX6_knownOf_80 : decode cX6_knownOf 80 = .ok (.iconst (-1), 1) := by decide +kernel
theorem dX6_knownOf_81 : decode cX6_knownOf 81 = .ok (.goto 4, 3) := by decide +kernel
theorem dX6_knownOf_84 : decode cX6_knownOf 84 = .ok (.iconst 0, 1) := by decide +kernel
theorem dX6_knownOf_85 : decode cX6_knownOf 85 = .ok (.ireturn, 1) := by decide +kernel
set_option maxRecDepth 20000 in
theorem ggX6_known_X6_isPrinciple : GoodIn wsX6_known wsX6_isPrinciple := goodIn_r _ [5, 6, 7, 8, 4, 9, 35, 36, 37, 38, 39, 40, 41, 42, 43, 44, 45, 46, 47, 48, 49, 50, 51, 52, 53, 54, 55, 56, 57, 58, 59, 60, 61, 62, 63, 64, 65, 66] rfl (by decide +kernel)
set_option maxRecDepth 20000 in
theorem gX6_known_X6_isPrinciple : GoodIn wsX6_known (wsV RX6 171 RX6 yX6_isPrinciple wsX6_isPrinciple) := goodIn_app (goodIn_of _ (by decide +kernel)) ggX6_known_X6_isPrinciple
set_option maxRecDepth 20000 in
theorem ggX6_known_X6_goesWell : GoodIn wsX6_known wsX6_goesWell := goodIn_r _ [13, 14, 35, 36, 37, 38, 39, 40, 41, 42, 43, 44, 45, 46, 47, 48, 49, 50, 51, 52, 53, 54, 55, 56, 57, 58, 59, 60, 61, 62, 63, 64, 65, 66] rfl (by decide +kernel)
set_option maxRecDepth 20000 in
theorem gX6_known_X6_goesWell : GoodIn wsX6_known (wsV RX6 99 RX6 yX6_goesWell wsX6_goesWell) := goodIn_app (goodIn_of _ (by decide +kernel)) ggX6_known_X6_goesWell
set_option maxRecDepth 20000 in
theorem ggX6_known_X6_knownOf : GoodIn wsX6_known wsX6_knownOf := goodIn_r _ [18, 19, 20, 21, 22, 23, 4, 24, 25, 26, 27, 28, 29, 30, 31, 32, 33, 34, 35, 36, 37, 38, 39, 40, 41, 42, 43, 44, 45, 46, 47, 48, 49, 50, 51, 52, 53, 54, 55, 56, 57, 58, 59, 60, 61, 62, 63, 64, 65, 66] rfl (by decide +kernel)
set_option maxRecDepth 20000 in
theorem gX6_known_X6_knownOf : GoodIn wsX6_known (wsV RX6 195 RX6 yX6_knownOf wsX6_knownOf) := goodIn_app (goodIn_of _ (by decide +kernel)) ggX6_known_X6_knownOf
theorem dX6_known_0 : decode cX6_known 0 = .ok (.aload_n 0, 1) := by decide +kernel
theorem dX6_known_1 : decode cX6_known 1 = .ok (.iload_n 1, 1) := by decide +kernel
theorem dX6_known_2 : decode cX6_known 2 = .ok (.invokevirtual 171, 3) := by decide +kernel
theorem dX6_known_5 : decode cX6_known 5 = .ok (.ifCond .eq 15, 3) := by decide +kernel
theorem dX6_known_8 : decode cX6_known 8 = .ok (.aload_n 0, 1) := by decide +kernel
theorem dX6_known_9 : decode cX6_known 9 = .ok (.iload_n 2, 1) := by decide +kernel
theorem dX6_known_10 : decode cX6_known 10 = .ok (.invokevirtual 171, 3) := by decide +kernel
theorem dX6_known_13 : decode cX6_known 13 = .ok (.ifCond .eq 7, 3) := by decide +kernel
theorem dX6_known_16 : decode cX6_known 16 = .ok (.iconst 1, 1) := by decide +kernel
theorem dX6_known_17 : decode cX6_known 17 = .ok (.goto 4, 3) := by decide +kernel
theorem dX6_known_20 : decode cX6_known 20 = .ok (.iconst 0, 1) := by decide +kernel
theorem dX6_known_21 : decode cX6_known 21 = .ok (.istore_n 3, 1) := by decide +kernel
theorem dX6_known_22 : decode cX6_known 22 = .ok (.aload_n 0, 1) := by decide +kernel
theorem dX6_known_23 : decode cX6_known 23 = .ok (.iload_n 3, 1) := by decide +kernel
