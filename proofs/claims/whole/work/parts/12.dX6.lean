theorem dX6_isHad_61 : decode cX6_isHad 61 = .ok (.iconst 2, 1) := by decide +kernel
theorem dX6_isHad_62 : decode cX6_isHad 62 = .ok (.irem, 1) := by decide +kernel
theorem dX6_isHad_63 : decode cX6_isHad 63 = .ok (.ifCond .ne 37, 3) := by decide +kernel
theorem dX6_isHad_66 : decode cX6_isHad 66 = .ok (.aload_n 0, 1) := by decide +kernel
theorem dX6_isHad_67 : decode cX6_isHad 67 = .ok (.getfield 78, 3) := by decide +kernel
theorem dX6_isHad_70 : decode cX6_isHad 70 = .ok (.iconst 2, 1) := by decide +kernel
theorem dX6_isHad_71 : decode cX6_isHad 71 = .ok (.iload 4, 2) := by decide +kernel
theorem dX6_isHad_73 : decode cX6_isHad 73 = .ok (.imul, 1) := by decide +kernel
theorem dX6_isHad_74 : decode cX6_isHad 74 = .ok (.baload, 1) := by decide +kernel
theorem dX6_isHad_75 : decode cX6_isHad 75 = .ok (.ifCond .ne 17, 3) := by decide +kernel
theorem dX6_isHad_78 : decode cX6_isHad 78 = .ok (.aload_n 0, 1) := by decide +kernel
theorem dX6_isHad_79 : decode cX6_isHad 79 = .ok (.getfield 78, 3) := by decide +kernel
theorem dX6_isHad_82 : decode cX6_isHad 82 = .ok (.iconst 2, 1) := by decide +kernel
theorem dX6_isHad_83 : decode cX6_isHad 83 = .ok (.iload 4, 2) := by decide +kernel
theorem dX6_isHad_85 : decode cX6_isHad 85 = .ok (.imul, 1) := by decide +kernel
theorem dX6_isHad_86 : decode cX6_isHad 86 = .ok (.iconst 1, 1) := by decide +kernel
theorem dX6_isHad_87 : decode cX6_isHad 87 = .ok (.iadd, 1) := by decide +kernel
theorem dX6_isHad_88 : decode cX6_isHad 88 = .ok (.baload, 1) := by decide +kernel
theorem dX6_isHad_89 : decode cX6_isHad 89 = .ok (.ifCond .eq 7, 3) := by decide +kernel
theorem dX6_isHad_92 : decode cX6_isHad 92 = .ok (.iconst 1, 1) := by decide +kernel
theorem dX6_isHad_93 : decode cX6_isHad 93 = .ok (.goto 38, 3) := by decide +kernel
theorem dX6_isHad_96 : decode cX6_isHad 96 = .ok (.iconst 0, 1) := by decide +kernel
theorem dX6_isHad_97 : decode cX6_isHad 97 = .ok (.goto 34, 3) := by decide +kernel
theorem dX6_isHad_100 : decode cX6_isHad 100 = .ok (.aload_n 0, 1) := by decide +kernel
theorem dX6_isHad_101 : decode cX6_isHad 101 = .ok (.getfield 78, 3) := by decide +kernel
theorem dX6_isHad_104 : decode cX6_isHad 104 = .ok (.iconst 2, 1) := by decide +kernel
theorem dX6_isHad_105 : decode cX6_isHad 105 = .ok (.iload 4, 2) := by decide +kernel
theorem dX6_isHad_107 : decode cX6_isHad 107 = .ok (.imul, 1) := by decide +kernel
theorem dX6_isHad_108 : decode cX6_isHad 108 = .ok (.baload, 1) := by decide +kernel
theorem dX6_isHad_109 : decode cX6_isHad 109 = .ok (.ifCond .eq 21, 3) := by decide +kernel
theorem dX6_isHad_112 : decode cX6_isHad 112 = .ok (.aload_n 0, 1) := by decide +kernel
theorem dX6_isHad_113 : decode cX6_isHad 113 = .ok (.getfield 78, 3) := by decide +kernel
theorem dX6_isHad_116 : decode cX6_isHad 116 = .ok (.iconst 2, 1) := by decide +kernel
theorem dX6_isHad_117 : decode cX6_isHad 117 = .ok (.iload 4, 2) := by decide +kernel
theorem dX6_isHad_119 : decode cX6_isHad 119 = .ok (.imul, 1) := by decide +kernel
theorem dX6_isHad_120 : decode cX6_isHad 120 = .ok (.iconst 1, 1) := by decide +kernel
theorem dX6_isHad_121 : decode cX6_isHad 121 = .ok (.iadd, 1) := by decide +kernel
theorem dX6_isHad_122 : decode cX6_isHad 122 = .ok (.baload, 1) := by decide +kernel
theorem dX6_isHad_123 : decode cX6_isHad 123 = .ok (.ifCond .eq 7, 3) := by decide +kernel
theorem dX6_isHad_126 : decode cX6_isHad 126 = .ok (.iconst 1, 1) := by decide +kernel
theorem dX6_isHad_127 : decode cX6_isHad 127 = .ok (.goto 4, 3) := by decide +kernel
theorem dX6_isHad_130 : decode cX6_isHad 130 = .ok (.iconst 0, 1) := by decide +kernel
theorem dX6_isHad_131 : decode cX6_isHad 131 = .ok (.bastore, 1) := by decide +kernel
theorem dX6_isHad_132 : decode cX6_isHad 132 = .ok (.iinc 4 1, 3) := by decide +kernel
theorem dX6_isHad_135 : decode cX6_isHad 135 = .ok (.goto (-89), 3) := by decide +kernel
theorem dX6_isHad_138 : decode cX6_isHad 138 = .ok (.iinc 3 (-1), 3) := by decide +kernel
theorem dX6_isHad_141 : decode cX6_isHad 141 = .ok (.goto (-102), 3) := by decide +kernel
theorem dX6_isHad_144 : decode cX6_isHad 144 = .ok (.aload_n 0, 1) := by decide +kernel
theorem dX6_isHad_145 : decode cX6_isHad 145 = .ok (.getfield 78, 3) := by decide +kernel
theorem dX6_isHad_148 : decode cX6_isHad 148 = .ok (.iconst 0, 1) := by decide +kernel
theorem dX6_isHad_149 : decode cX6_isHad 149 = .ok (.baload, 1) := by decide +kernel
theorem dX6_isHad_150 : decode cX6_isHad 150 = .ok (.ireturn, 1) := by decide +kernel
set_option maxRecDepth 20000 in
theorem ggX6_ask_X6_in : GoodIn wsX6_ask wsX6_in := goodIn_r _ [4] (by decide +kernel) (by decide +kernel)
set_option maxRecDepth 20000 in
theorem gX6_ask_X6_in : GoodIn wsX6_ask (va_wsS RX6 85 yX6_in wsX6_in) := goodIn_app (goodIn_of _ (by decide +kernel)) ggX6_ask_X6_in
set_option maxRecDepth 20000 in
theorem ggX6_ask_X6_goesWell : GoodIn wsX6_ask wsX6_goesWell := goodIn_r _ [8, 9, 15, 16, 17, 18, 19, 20, 21, 22, 23, 24, 25, 26, 27, 28, 29, 30, 31, 32, 33, 34, 35, 36, 37, 38, 39, 40, 41, 42, 43, 44, 45, 46] (by decide +kernel) (by decide +kernel)
set_option maxRecDepth 20000 in
theorem gX6_ask_X6_goesWell : GoodIn wsX6_ask (wsV RX6 99 RX6 yX6_goesWell wsX6_goesWell) := goodIn_app (goodIn_of _ (by decide +kernel)) ggX6_ask_X6_goesWell
set_option maxRecDepth 20000 in
theorem ggX6_ask_X6_isHad : GoodIn wsX6_ask wsX6_isHad := goodIn_r _ [13, 14, 15, 16, 17, 18, 19, 20, 21, 22, 23, 24, 25, 26, 27, 28, 29, 30, 31, 32, 33, 34, 35, 36, 37, 38, 39, 40, 41, 42, 43, 44, 45, 46] (by decide +kernel) (by decide +kernel)
set_option maxRecDepth 20000 in
theorem gX6_ask_X6_isHad : GoodIn wsX6_ask (wsV RX6 230 RX6 yX6_isHad wsX6_isHad) := goodIn_app (goodIn_of _ (by decide +kernel)) ggX6_ask_X6_isHad
theorem dX6_ask_0 : decode cX6_ask 0 = .ok (.iload_n 1, 1) := by decide +kernel
theorem dX6_ask_1 : decode cX6_ask 1 = .ok (.iconst 1, 1) := by decide +kernel
theorem dX6_ask_2 : decode cX6_ask 2 = .ok (.iconst 4, 1) := by decide +kernel
theorem dX6_ask_3 : decode cX6_ask 3 = .ok (.invokestatic 85, 3) := by decide +kernel
theorem dX6_ask_6 : decode cX6_ask 6 = .ok (.ifCond .eq 22, 3) := by decide +kernel
theorem dX6_ask_9 : decode cX6_ask 9 = .ok (.iload_n 2, 1) := by decide +kernel
theorem dX6_ask_10 : decode cX6_ask 10 = .ok (.iconst 0, 1) := by decide +kernel
theorem dX6_ask_11 : decode cX6_ask 11 = .ok (.iconst 1, 1) := by decide +kernel
theorem dX6_ask_12 : decode cX6_ask 12 = .ok (.iconst 1, 1) := by decide +kernel
theorem dX6_ask_13 : decode cX6_ask 13 = .ok (.iload_n 1, 1) := by decide +kernel
theorem dX6_ask_14 : decode cX6_ask 14 = .ok (.ishl, 1) := by decide +kernel
theorem dX6_ask_15 : decode cX6_ask 15 = .ok (.ishl, 1) := by decide +kernel
theorem dX6_ask_16 : decode cX6_ask 16 = .ok (.iconst 1, 1) := by decide +kernel
theorem dX6_ask_17 : decode cX6_ask 17 = .ok (.isub, 1) := by decide +kernel
theorem dX6_ask_18 : decode cX6_ask 18 = .ok (.invokestatic 85, 3) := by decide +kernel
theorem dX6_ask_21 : decode cX6_ask 21 = .ok (.ifCond .eq 7, 3) := by decide +kernel
theorem dX6_ask_24 : decode cX6_ask 24 = .ok (.iconst 1, 1) := by decide +kernel
theorem dX6_ask_25 : decode cX6_ask 25 = .ok (.goto 4, 3) := by decide +kernel
theorem dX6_ask_28 : decode cX6_ask 28 = .ok (.iconst 0, 1) := by decide +kernel
theorem dX6_ask_29 : decode cX6_ask 29 = .ok (.istore_n 3, 1) := by decide +kernel
theorem dX6_ask_30 : decode cX6_ask 30 = .ok (.aload_n 0, 1) := by decide +kernel
theorem dX6_ask_31 : decode cX6_ask 31 = .ok (.iload_n 3, 1) := by decide +kernel
theorem dX6_ask_32 : decode cX6_ask 32 = .ok (.ifCond .eq 7, 3) := by decide +kernel
theorem dX6_ask_35 : decode cX6_ask 35 = .ok (.iconst 0, 1) := by decide +kernel
theorem dX6_ask_36 : decode cX6_ask 36 = .ok (.goto 4, 3) := by decide +kernel
theorem dX6_ask_39 : decode cX6_ask 39 = .ok (.iconst 1, 1) := by decide +kernel
theorem dX6_ask_40 : decode cX6_ask 40 = .ok (.invokevirtual 99, 3) := by decide +kernel
theorem dX6_ask_43 : decode cX6_ask 43 = .ok (.ifCond .eq 16, 3) := by decide +kernel
theorem dX6_ask_46 : decode cX6_ask 46 = .ok (.aload_n 0, 1) := by decide +kernel
theorem dX6_ask_47 : decode cX6_ask 47 = .ok (.iload_n 1, 1) := by decide +kernel
theorem dX6_ask_48 : decode cX6_ask 48 = .ok (.iload_n 2, 1) := by decide +kernel
theorem dX6_ask_49 : decode cX6_ask 49 = .ok (.invokevirtual 230, 3) := by decide +kernel
theorem dX6_ask_52 : decode cX6_ask 52 = .ok (.ifCond .eq 7, 3) := by decide +kernel
theorem dX6_ask_55 : decode cX6_ask 55 = .ok (.iconst 1, 1) := by decide +kernel
theorem dX6_ask_56 : decode cX6_ask 56 = .ok (.goto 4, 3) := by decide +kernel
theorem dX6_ask_59 : decode cX6_ask 59 = .ok (.iconst 0, 1) := by decide +kernel
theorem dX6_ask_60 : decode cX6_ask 60 = .ok (.ireturn, 1) := by decide +kernel
set_option maxRecDepth 20000 in
theorem ggX6_has_X6_ask : GoodIn wsX6_has wsX6_ask := goodIn_r _ [5, 6, 7, 4, 8, 9, 10, 11, 12, 13, 14, 15, 16, 17, 18, 19, 20, 21, 22, 23, 24, 25, 26, 27, 28, 29, 30, 31, 32, 33, 34, 35, 36, 37, 38, 39, 40, 41, 42, 43, 44, 45, 46, 47, 48, 49, 50] (by decide +kernel) (by decide +kernel)
set_option maxRecDepth 20000 in
theorem gX6_has_X6_ask : GoodIn wsX6_has (wsV RX6 234 RX6 yX6_ask wsX6_ask) := goodIn_app (goodIn_of _ (by decide +kernel)) ggX6_has_X6_ask
theorem dX6_has_0 : decode cX6_has 0 = .ok (.aload_n 0, 1) := by decide +kernel
theorem dX6_has_1 : decode cX6_has 1 = .ok (.iload_n 1, 1) := by decide +kernel
theorem dX6_has_2 : decode cX6_has 2 = .ok (.iload_n 2, 1) := by decide +kernel
theorem dX6_has_3 : decode cX6_has 3 = .ok (.invokevirtual 234, 3) := by decide +kernel
theorem dX6_has_6 : decode cX6_has 6 = .ok (.ireturn, 1) := by decide +kernel
set_option maxRecDepth 20000 in
theorem ggX6_hasAnew_X6_ask : GoodIn wsX6_hasAnew wsX6_ask := goodIn_r _ [5, 6, 7, 4, 8, 9, 10, 11, 12, 13, 14, 15, 16, 17, 18, 19, 20, 21, 22, 23, 24, 25, 26, 27, 28, 29, 30, 31, 32, 33, 34, 35, 36, 37, 38, 39, 40, 41, 42, 43, 44, 45, 46, 47, 48, 49, 50] (by decide +kernel) (by decide +kernel)
set_option maxRecDepth 20000 in
theorem gX6_hasAnew_X6_ask : GoodIn wsX6_hasAnew (wsV RX6 234 RX6 yX6_ask wsX6_ask) := goodIn_app (goodIn_of _ (by decide +kernel)) ggX6_hasAnew_X6_ask
theorem dX6_hasAnew_0 : decode cX6_hasAnew 0 = .ok (.aload_n 0, 1) := by decide +kernel
theorem dX6_hasAnew_1 : decode cX6_hasAnew 1 = .ok (.iload_n 1, 1) := by decide +kernel
theorem dX6_hasAnew_2 : decode cX6_hasAnew 2 = .ok (.iload_n 2, 1) := by decide +kernel
theorem dX6_hasAnew_3 : decode cX6_hasAnew 3 = .ok (.invokevirtual 234, 3) := by decide +kernel
theorem dX6_hasAnew_6 : decode cX6_hasAnew 6 = .ok (.ireturn, 1) := by decide +kernel
