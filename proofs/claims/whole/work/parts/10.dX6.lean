theorem dX6_init_0 : decode cX6_init 0 = .ok (.aload_n 0, 1) := by decide +kernel
theorem dX6_init_1 : decode cX6_init 1 = .ok (.invokespecial 1, 3) := by decide +kernel
theorem dX6_init_4 : decode cX6_init 4 = .ok (.aload_n 0, 1) := by decide +kernel
theorem dX6_init_5 : decode cX6_init 5 = .ok (.bipush 40, 2) := by decide +kernel
theorem dX6_init_7 : decode cX6_init 7 = .ok (.newarray .char, 2) := by decide +kernel
theorem dX6_init_9 : decode cX6_init 9 = .ok (.putfield 7, 3) := by decide +kernel
theorem dX6_init_12 : decode cX6_init 12 = .ok (.aload_n 0, 1) := by decide +kernel
theorem dX6_init_13 : decode cX6_init 13 = .ok (.bipush 40, 2) := by decide +kernel
theorem dX6_init_15 : decode cX6_init 15 = .ok (.newarray .int, 2) := by decide +kernel
theorem dX6_init_17 : decode cX6_init 17 = .ok (.putfield 13, 3) := by decide +kernel
theorem dX6_init_20 : decode cX6_init 20 = .ok (.aload_n 0, 1) := by decide +kernel
theorem dX6_init_21 : decode cX6_init 21 = .ok (.bipush 40, 2) := by decide +kernel
theorem dX6_init_23 : decode cX6_init 23 = .ok (.newarray .int, 2) := by decide +kernel
theorem dX6_init_25 : decode cX6_init 25 = .ok (.putfield 17, 3) := by decide +kernel
theorem dX6_init_28 : decode cX6_init 28 = .ok (.aload_n 0, 1) := by decide +kernel
theorem dX6_init_29 : decode cX6_init 29 = .ok (.bipush 40, 2) := by decide +kernel
theorem dX6_init_31 : decode cX6_init 31 = .ok (.newarray .int, 2) := by decide +kernel
theorem dX6_init_33 : decode cX6_init 33 = .ok (.putfield 20, 3) := by decide +kernel
theorem dX6_init_36 : decode cX6_init 36 = .ok (.aload_n 0, 1) := by decide +kernel
theorem dX6_init_37 : decode cX6_init 37 = .ok (.bipush 40, 2) := by decide +kernel
theorem dX6_init_39 : decode cX6_init 39 = .ok (.newarray .int, 2) := by decide +kernel
theorem dX6_init_41 : decode cX6_init 41 = .ok (.putfield 23, 3) := by decide +kernel
theorem dX6_init_44 : decode cX6_init 44 = .ok (.aload_n 0, 1) := by decide +kernel
theorem dX6_init_45 : decode cX6_init 45 = .ok (.bipush 40, 2) := by decide +kernel
theorem dX6_init_47 : decode cX6_init 47 = .ok (.newarray .int, 2) := by decide +kernel
theorem dX6_init_49 : decode cX6_init 49 = .ok (.putfield 26, 3) := by decide +kernel
theorem dX6_init_52 : decode cX6_init 52 = .ok (.aload_n 0, 1) := by decide +kernel
theorem dX6_init_53 : decode cX6_init 53 = .ok (.bipush 40, 2) := by decide +kernel
theorem dX6_init_55 : decode cX6_init 55 = .ok (.newarray .int, 2) := by decide +kernel
theorem dX6_init_57 : decode cX6_init 57 = .ok (.putfield 29, 3) := by decide +kernel
theorem dX6_init_60 : decode cX6_init 60 = .ok (.aload_n 0, 1) := by decide +kernel
theorem dX6_init_61 : decode cX6_init 61 = .ok (.bipush 40, 2) := by decide +kernel
theorem dX6_init_63 : decode cX6_init 63 = .ok (.newarray .int, 2) := by decide +kernel
theorem dX6_init_65 : decode cX6_init 65 = .ok (.putfield 32, 3) := by decide +kernel
theorem dX6_init_68 : decode cX6_init 68 = .ok (.aload_n 0, 1) := by decide +kernel
theorem dX6_init_69 : decode cX6_init 69 = .ok (.bipush 40, 2) := by decide +kernel
theorem dX6_init_71 : decode cX6_init 71 = .ok (.newarray .int, 2) := by decide +kernel
theorem dX6_init_73 : decode cX6_init 73 = .ok (.putfield 35, 3) := by decide +kernel
theorem dX6_init_76 : decode cX6_init 76 = .ok (.aload_n 0, 1) := by decide +kernel
theorem dX6_init_77 : decode cX6_init 77 = .ok (.bipush 41, 2) := by decide +kernel
theorem dX6_init_79 : decode cX6_init 79 = .ok (.newarray .int, 2) := by decide +kernel
theorem dX6_init_81 : decode cX6_init 81 = .ok (.putfield 38, 3) := by decide +kernel
theorem dX6_init_84 : decode cX6_init 84 = .ok (.aload_n 0, 1) := by decide +kernel
theorem dX6_init_85 : decode cX6_init 85 = .ok (.bipush 41, 2) := by decide +kernel
theorem dX6_init_87 : decode cX6_init 87 = .ok (.newarray .int, 2) := by decide +kernel
theorem dX6_init_89 : decode cX6_init 89 = .ok (.putfield 41, 3) := by decide +kernel
theorem dX6_init_92 : decode cX6_init 92 = .ok (.aload_n 0, 1) := by decide +kernel
theorem dX6_init_93 : decode cX6_init 93 = .ok (.bipush 41, 2) := by decide +kernel
theorem dX6_init_95 : decode cX6_init 95 = .ok (.newarray .int, 2) := by decide +kernel
theorem dX6_init_97 : decode cX6_init 97 = .ok (.putfield 44, 3) := by decide +kernel
theorem dX6_init_100 : decode cX6_init 100 = .ok (.aload_n 0, 1) := by decide +kernel
theorem dX6_init_101 : decode cX6_init 101 = .ok (.sipush 5000, 3) := by decide +kernel
theorem dX6_init_104 : decode cX6_init 104 = .ok (.newarray .boolean, 2) := by decide +kernel
theorem dX6_init_106 : decode cX6_init 106 = .ok (.putfield 47, 3) := by decide +kernel
theorem dX6_init_109 : decode cX6_init 109 = .ok (.aload_n 0, 1) := by decide +kernel
theorem dX6_init_110 : decode cX6_init 110 = .ok (.bipush 10, 2) := by decide +kernel
theorem dX6_init_112 : decode cX6_init 112 = .ok (.newarray .int, 2) := by decide +kernel
theorem dX6_init_114 : decode cX6_init 114 = .ok (.putfield 51, 3) := by decide +kernel
theorem dX6_init_117 : decode cX6_init 117 = .ok (.aload_n 0, 1) := by decide +kernel
theorem dX6_init_118 : decode cX6_init 118 = .ok (.bipush 10, 2) := by decide +kernel
theorem dX6_init_120 : decode cX6_init 120 = .ok (.newarray .int, 2) := by decide +kernel
theorem dX6_init_122 : decode cX6_init 122 = .ok (.putfield 54, 3) := by decide +kernel
theorem dX6_init_125 : decode cX6_init 125 = .ok (.aload_n 0, 1) := by decide +kernel
theorem dX6_init_126 : decode cX6_init 126 = .ok (.bipush 30, 2) := by decide +kernel
theorem dX6_init_128 : decode cX6_init 128 = .ok (.newarray .int, 2) := by decide +kernel
theorem dX6_init_130 : decode cX6_init 130 = .ok (.putfield 57, 3) := by decide +kernel
theorem dX6_init_133 : decode cX6_init 133 = .ok (.aload_n 0, 1) := by decide +kernel
theorem dX6_init_134 : decode cX6_init 134 = .ok (.bipush 30, 2) := by decide +kernel
theorem dX6_init_136 : decode cX6_init 136 = .ok (.newarray .int, 2) := by decide +kernel
theorem dX6_init_138 : decode cX6_init 138 = .ok (.putfield 60, 3) := by decide +kernel
theorem dX6_init_141 : decode cX6_init 141 = .ok (.aload_n 0, 1) := by decide +kernel
theorem dX6_init_142 : decode cX6_init 142 = .ok (.bipush 10, 2) := by decide +kernel
theorem dX6_init_144 : decode cX6_init 144 = .ok (.newarray .int, 2) := by decide +kernel
theorem dX6_init_146 : decode cX6_init 146 = .ok (.putfield 63, 3) := by decide +kernel
theorem dX6_init_149 : decode cX6_init 149 = .ok (.aload_n 0, 1) := by decide +kernel
theorem dX6_init_150 : decode cX6_init 150 = .ok (.bipush 30, 2) := by decide +kernel
theorem dX6_init_152 : decode cX6_init 152 = .ok (.newarray .int, 2) := by decide +kernel
theorem dX6_init_154 : decode cX6_init 154 = .ok (.putfield 66, 3) := by decide +kernel
theorem dX6_init_157 : decode cX6_init 157 = .ok (.aload_n 0, 1) := by decide +kernel
theorem dX6_init_158 : decode cX6_init 158 = .ok (.bipush 6, 2) := by decide +kernel
theorem dX6_init_160 : decode cX6_init 160 = .ok (.newarray .int, 2) := by decide +kernel
theorem dX6_init_162 : decode cX6_init 162 = .ok (.putfield 69, 3) := by decide +kernel
theorem dX6_init_165 : decode cX6_init 165 = .ok (.aload_n 0, 1) := by decide +kernel
theorem dX6_init_166 : decode cX6_init 166 = .ok (.bipush 6, 2) := by decide +kernel
theorem dX6_init_168 : decode cX6_init 168 = .ok (.newarray .int, 2) := by decide +kernel
theorem dX6_init_170 : decode cX6_init 170 = .ok (.putfield 72, 3) := by decide +kernel
theorem dX6_init_173 : decode cX6_init 173 = .ok (.aload_n 0, 1) := by decide +kernel
theorem dX6_init_174 : decode cX6_init 174 = .ok (.bipush 6, 2) := by decide +kernel
theorem dX6_init_176 : decode cX6_init 176 = .ok (.newarray .int, 2) := by decide +kernel
theorem dX6_init_178 : decode cX6_init 178 = .ok (.putfield 75, 3) := by decide +kernel
theorem dX6_init_181 : decode cX6_init 181 = .ok (.aload_n 0, 1) := by decide +kernel
theorem dX6_init_182 : decode cX6_init 182 = .ok (.bipush 16, 2) := by decide +kernel
theorem dX6_init_184 : decode cX6_init 184 = .ok (.newarray .boolean, 2) := by decide +kernel
theorem dX6_init_186 : decode cX6_init 186 = .ok (.putfield 78, 3) := by decide +kernel
theorem dX6_init_189 : decode cX6_init 189 = .ok (.return_, 1) := by decide +kernel
theorem dX6_thrown_0 : decode cX6_thrown 0 = .ok (.aload_n 0, 1) := by decide +kernel
theorem dX6_thrown_1 : decode cX6_thrown 1 = .ok (.getfield 81, 3) := by decide +kernel
theorem dX6_thrown_4 : decode cX6_thrown 4 = .ok (.ireturn, 1) := by decide +kernel
theorem dX6_goesWell_0 : decode cX6_goesWell 0 = .ok (.aload_n 0, 1) := by decide +kernel
theorem dX6_goesWell_1 : decode cX6_goesWell 1 = .ok (.iload_n 1, 1) := by decide +kernel
theorem dX6_goesWell_2 : decode cX6_goesWell 2 = .ok (.putfield 81, 3) := by decide +kernel
theorem dX6_goesWell_5 : decode cX6_goesWell 5 = .ok (.iload_n 1, 1) := by decide +kernel
theorem dX6_goesWell_6 : decode cX6_goesWell 6 = .ok (.ifCond .ne 7, 3) := by decide +kernel
theorem dX6_goesWell_9 : decode cX6_goesWell 9 = .ok (.iconst 1, 1) := by decide +kernel
theorem dX6_goesWell_10 : decode cX6_goesWell 10 = .ok (.goto 4, 3) := by decide +kernel
theorem dX6_goesWell_13 : decode cX6_goesWell 13 = .ok (.iconst 0, 1) := by decide +kernel
theorem dX6_goesWell_14 : decode cX6_goesWell 14 = .ok (.ireturn, 1) := by decide +kernel
theorem dX6_in_0 : decode cX6_in 0 = .ok (.iload_n 0, 1) := by decide +kernel
theorem dX6_in_1 : decode cX6_in 1 = .ok (.iload_n 1, 1) := by decide +kernel
theorem dX6_in_2 : decode cX6_in 2 = .ok (.if_icmp .lt 12, 3) := by decide +kernel
theorem dX6_in_5 : decode cX6_in 5 = .ok (.iload_n 0, 1) := by decide +kernel
theorem dX6_in_6 : decode cX6_in 6 = .ok (.iload_n 2, 1) := by decide +kernel
theorem dX6_in_7 : decode cX6_in 7 = .ok (.if_icmp .gt 7, 3) := by decide +kernel
theorem dX6_in_10 : decode cX6_in 10 = .ok (.iconst 1, 1) := by decide +kernel
theorem dX6_in_11 : decode cX6_in 11 = .ok (.goto 4, 3) := by decide +kernel
theorem dX6_in_14 : decode cX6_in 14 = .ok (.iconst 0, 1) := by decide +kernel
theorem dX6_in_15 : decode cX6_in 15 = .ok (.ireturn, 1) := by decide +kernel
set_option maxRecDepth 20000 in
theorem ggX6_variableOf_X6_in : GoodIn wsX6_variableOf wsX6_in := goodIn_r _ [4] (by decide +kernel) (by decide +kernel)
set_option maxRecDepth 20000 in
theorem gX6_variableOf_X6_in : GoodIn wsX6_variableOf (va_wsS RX6 85 yX6_in wsX6_in) := goodIn_app (goodIn_of _ (by decide +kernel)) ggX6_variableOf_X6_in
theorem dX6_variableOf_0 : decode cX6_variableOf 0 = .ok (.iload_n 0, 1) := by decide +kernel
theorem dX6_variableOf_1 : decode cX6_variableOf 1 = .ok (.bipush 120, 2) := by decide +kernel
theorem dX6_variableOf_3 : decode cX6_variableOf 3 = .ok (.bipush 122, 2) := by decide +kernel
theorem dX6_variableOf_5 : decode cX6_variableOf 5 = .ok (.invokestatic 85, 3) := by decide +kernel
theorem dX6_variableOf_8 : decode cX6_variableOf 8 = .ok (.ifCond .eq 10, 3) := by decide +kernel
theorem dX6_variableOf_11 : decode cX6_variableOf 11 = .ok (.iload_n 0, 1) := by decide +kernel
theorem dX6_variableOf_12 : decode cX6_variableOf 12 = .ok (.bipush 120, 2) := by decide +kernel
theorem dX6_variableOf_14 : decode cX6_variableOf 14 = .ok (.isub, 1) := by decide +kernel
theorem dX6_variableOf_15 : decode cX6_variableOf 15 = .ok (.goto 4, 3) := by decide +kernel
theorem dX6_variableOf_18 : decode cX6_variableOf 18 = .ok (.iconst (-1), 1) := by decide +kernel
theorem dX6_variableOf_19 : decode cX6_variableOf 19 = .ok (.ireturn, 1) := by decide +kernel
theorem dX6_kindOf_0 : decode cX6_kindOf 0 = .ok (.iload_n 0, 1) := by decide +kernel
theorem dX6_kindOf_1 : decode cX6_kindOf 1 = .ok (.lookupswitch 126 #[(33, 103), (38, 105), (40, 123), (60, 99), (61, 101), (62, 109), (65, 111), (69, 114), (97, 117), (101, 120), (124, 107)], 99) := by decide +kernel
theorem dX6_kindOf_100 : decode cX6_kindOf 100 = .ok (.iconst 0, 1) := by decide +kernel
theorem dX6_kindOf_101 : decode cX6_kindOf 101 = .ok (.ireturn, 1) := by decide +kernel
theorem dX6_kindOf_102 : decode cX6_kindOf 102 = .ok (.iconst 1, 1) := by decide +kernel
theorem dX6_kindOf_103 : decode cX6_kindOf 103 = .ok (.ireturn, 1) := by decide +kernel
theorem dX6_kindOf_104 : decode cX6_kindOf 104 = .ok (.iconst 2, 1) := by decide +kernel
theorem dX6_kindOf_105 : decode cX6_kindOf 105 = .ok (.ireturn, 1) := by decide +kernel
theorem dX6_kindOf_106 : decode cX6_kindOf 106 = .ok (.iconst 3, 1) := by decide +kernel
theorem dX6_kindOf_107 : decode cX6_kindOf 107 = .ok (.ireturn, 1) := by decide +kernel
theorem dX6_kindOf_108 : decode cX6_kindOf 108 = .ok (.iconst 4, 1) := by decide +kernel
theorem dX6_kindOf_109 : decode cX6_kindOf 109 = .ok (.ireturn, 1) := by decide +kernel
theorem dX6_kindOf_110 : decode cX6_kindOf 110 = .ok (.iconst 5, 1) := by decide +kernel
theorem dX6_kindOf_111 : decode cX6_kindOf 111 = .ok (.ireturn, 1) := by decide +kernel
theorem dX6_kindOf_112 : decode cX6_kindOf 112 = .ok (.bipush 6, 2) := by decide +kernel
theorem dX6_kindOf_114 : decode cX6_kindOf 114 = .ok (.ireturn, 1) := by decide +kernel
theorem dX6_kindOf_115 : decode cX6_kindOf 115 = .ok (.bipush 7, 2) := by decide +kernel
theorem dX6_kindOf_117 : decode cX6_kindOf 117 = .ok (.ireturn, 1) := by decide +kernel
theorem dX6_kindOf_118 : decode cX6_kindOf 118 = .ok (.bipush 8, 2) := by decide +kernel
theorem dX6_kindOf_120 : decode cX6_kindOf 120 = .ok (.ireturn, 1) := by decide +kernel
theorem dX6_kindOf_121 : decode cX6_kindOf 121 = .ok (.bipush 9, 2) := by decide +kernel
theorem dX6_kindOf_123 : decode cX6_kindOf 123 = .ok (.ireturn, 1) := by decide +kernel
theorem dX6_kindOf_124 : decode cX6_kindOf 124 = .ok (.bipush 10, 2) := by decide +kernel
theorem dX6_kindOf_126 : decode cX6_kindOf 126 = .ok (.ireturn, 1) := by decide +kernel
theorem dX6_kindOf_127 : decode cX6_kindOf 127 = .ok (.iconst (-1), 1) := by decide +kernel
theorem dX6_kindOf_128 : decode cX6_kindOf 128 = .ok (.ireturn, 1) := by decide +kernel
set_option maxRecDepth 20000 in
theorem ggX6_letter_X6_variableOf : GoodIn wsX6_letter wsX6_variableOf := goodIn_r _ [6, 7, 8, 5, 9] (by decide +kernel) (by decide +kernel)
set_option maxRecDepth 20000 in
theorem gX6_letter_X6_variableOf : GoodIn wsX6_letter (va_wsS RX6 89 yX6_variableOf wsX6_variableOf) := goodIn_app (goodIn_of _ (by decide +kernel)) ggX6_letter_X6_variableOf
set_option maxRecDepth 20000 in
theorem ggX6_letter_X6_kindOf : GoodIn wsX6_letter wsX6_kindOf := goodIn_r _ [12] (by decide +kernel) (by decide +kernel)
set_option maxRecDepth 20000 in
theorem gX6_letter_X6_kindOf : GoodIn wsX6_letter (va_wsS RX6 93 yX6_kindOf wsX6_kindOf) := goodIn_app (goodIn_of _ (by decide +kernel)) ggX6_letter_X6_kindOf
set_option maxRecDepth 20000 in
theorem ggX6_letter_X6_goesWell : GoodIn wsX6_letter wsX6_goesWell := goodIn_r _ [16, 17, 18, 19, 20, 21, 22, 23, 24, 25, 26, 27, 28, 29, 30, 31, 32, 33, 34, 35, 36, 37, 38, 39, 40, 41, 42, 43, 44, 45, 46, 47, 48, 49] (by decide +kernel) (by decide +kernel)
set_option maxRecDepth 20000 in
theorem gX6_letter_X6_goesWell : GoodIn wsX6_letter (wsV RX6 99 RX6 yX6_goesWell wsX6_goesWell) := goodIn_app (goodIn_of _ (by decide +kernel)) ggX6_letter_X6_goesWell
theorem dX6_letter_0 : decode cX6_letter 0 = .ok (.iload_n 1, 1) := by decide +kernel
theorem dX6_letter_1 : decode cX6_letter 1 = .ok (.invokestatic 89, 3) := by decide +kernel
theorem dX6_letter_4 : decode cX6_letter 4 = .ok (.iconst (-1), 1) := by decide +kernel
theorem dX6_letter_5 : decode cX6_letter 5 = .ok (.if_icmp .ne 17, 3) := by decide +kernel
theorem dX6_letter_8 : decode cX6_letter 8 = .ok (.iload_n 1, 1) := by decide +kernel
theorem dX6_letter_9 : decode cX6_letter 9 = .ok (.invokestatic 93, 3) := by decide +kernel
theorem dX6_letter_12 : decode cX6_letter 12 = .ok (.iconst (-1), 1) := by decide +kernel
theorem dX6_letter_13 : decode cX6_letter 13 = .ok (.if_icmp .ne 9, 3) := by decide +kernel
theorem dX6_letter_16 : decode cX6_letter 16 = .ok (.iload_n 1, 1) := by decide +kernel
theorem dX6_letter_17 : decode cX6_letter 17 = .ok (.bipush 41, 2) := by decide +kernel
theorem dX6_letter_19 : decode cX6_letter 19 = .ok (.if_icmp .ne 7, 3) := by decide +kernel
theorem dX6_letter_22 : decode cX6_letter 22 = .ok (.iconst 1, 1) := by decide +kernel
theorem dX6_letter_23 : decode cX6_letter 23 = .ok (.goto 4, 3) := by decide +kernel
theorem dX6_letter_26 : decode cX6_letter 26 = .ok (.iconst 0, 1) := by decide +kernel
theorem dX6_letter_27 : decode cX6_letter 27 = .ok (.istore_n 2, 1) := by decide +kernel
theorem dX6_letter_28 : decode cX6_letter 28 = .ok (.aload_n 0, 1) := by decide +kernel
theorem dX6_letter_29 : decode cX6_letter 29 = .ok (.iload_n 2, 1) := by decide +kernel
theorem dX6_letter_30 : decode cX6_letter 30 = .ok (.ifCond .ne 7, 3) := by decide +kernel
theorem dX6_letter_33 : decode cX6_letter 33 = .ok (.iconst 1, 1) := by decide +kernel
theorem dX6_letter_34 : decode cX6_letter 34 = .ok (.goto 17, 3) := by decide +kernel
theorem dX6_letter_37 : decode cX6_letter 37 = .ok (.aload_n 0, 1) := by decide +kernel
theorem dX6_letter_38 : decode cX6_letter 38 = .ok (.getfield 96, 3) := by decide +kernel
theorem dX6_letter_41 : decode cX6_letter 41 = .ok (.bipush 40, 2) := by decide +kernel
theorem dX6_letter_43 : decode cX6_letter 43 = .ok (.if_icmp .ne 7, 3) := by decide +kernel
theorem dX6_letter_46 : decode cX6_letter 46 = .ok (.iconst 2, 1) := by decide +kernel
theorem dX6_letter_47 : decode cX6_letter 47 = .ok (.goto 4, 3) := by decide +kernel
theorem dX6_letter_50 : decode cX6_letter 50 = .ok (.iconst 0, 1) := by decide +kernel
theorem dX6_letter_51 : decode cX6_letter 51 = .ok (.invokevirtual 99, 3) := by decide +kernel
theorem dX6_letter_54 : decode cX6_letter 54 = .ok (.ifCond .ne 5, 3) := by decide +kernel
theorem dX6_letter_57 : decode cX6_letter 57 = .ok (.iconst 0, 1) := by decide +kernel
theorem dX6_letter_58 : decode cX6_letter 58 = .ok (.ireturn, 1) := by decide +kernel
theorem dX6_letter_59 : decode cX6_letter 59 = .ok (.aload_n 0, 1) := by decide +kernel
theorem dX6_letter_60 : decode cX6_letter 60 = .ok (.getfield 7, 3) := by decide +kernel
theorem dX6_letter_63 : decode cX6_letter 63 = .ok (.aload_n 0, 1) := by decide +kernel
theorem dX6_letter_64 : decode cX6_letter 64 = .ok (.getfield 96, 3) := by decide +kernel
theorem dX6_letter_67 : decode cX6_letter 67 = .ok (.iload_n 1, 1) := by decide +kernel
theorem dX6_letter_68 : decode cX6_letter 68 = .ok (.castore, 1) := by decide +kernel
theorem dX6_letter_69 : decode cX6_letter 69 = .ok (.aload_n 0, 1) := by decide +kernel
theorem dX6_letter_70 : decode cX6_letter 70 = .ok (.dup, 1) := by decide +kernel
theorem dX6_letter_71 : decode cX6_letter 71 = .ok (.getfield 96, 3) := by decide +kernel
theorem dX6_letter_74 : decode cX6_letter 74 = .ok (.iconst 1, 1) := by decide +kernel
theorem dX6_letter_75 : decode cX6_letter 75 = .ok (.iadd, 1) := by decide +kernel
theorem dX6_letter_76 : decode cX6_letter 76 = .ok (.putfield 96, 3) := by decide +kernel
theorem dX6_letter_79 : decode cX6_letter 79 = .ok (.aload_n 0, 1) := by decide +kernel
theorem dX6_letter_80 : decode cX6_letter 80 = .ok (.getfield 96, 3) := by decide +kernel
theorem dX6_letter_83 : decode cX6_letter 83 = .ok (.ireturn, 1) := by decide +kernel
theorem dX6_blank_0 : decode cX6_blank 0 = .ok (.aload_n 0, 1) := by decide +kernel
theorem dX6_blank_1 : decode cX6_blank 1 = .ok (.iconst 0, 1) := by decide +kernel
theorem dX6_blank_2 : decode cX6_blank 2 = .ok (.putfield 81, 3) := by decide +kernel
theorem dX6_blank_5 : decode cX6_blank 5 = .ok (.aload_n 0, 1) := by decide +kernel
theorem dX6_blank_6 : decode cX6_blank 6 = .ok (.getfield 96, 3) := by decide +kernel
theorem dX6_blank_9 : decode cX6_blank 9 = .ok (.istore_n 1, 1) := by decide +kernel
theorem dX6_blank_10 : decode cX6_blank 10 = .ok (.aload_n 0, 1) := by decide +kernel
theorem dX6_blank_11 : decode cX6_blank 11 = .ok (.iconst 0, 1) := by decide +kernel
theorem dX6_blank_12 : decode cX6_blank 12 = .ok (.putfield 96, 3) := by decide +kernel
theorem dX6_blank_15 : decode cX6_blank 15 = .ok (.iload_n 1, 1) := by decide +kernel
theorem dX6_blank_16 : decode cX6_blank 16 = .ok (.ireturn, 1) := by decide +kernel
set_option maxRecDepth 20000 in
theorem ggX6_make_X6_measure : GoodIn wsX6_make wsX6_measure := goodIn_r _ [11, 3, 4, 12, 13, 14, 5, 6, 1, 15, 16, 10, 17, 18, 19, 20, 21, 22, 23, 24, 25, 26, 27, 28, 29, 30, 31, 32, 33, 34, 35, 36, 37, 38, 39, 40, 41, 42, 43, 44, 45, 46, 47, 48, 49] (by decide +kernel) (by decide +kernel)
set_option maxRecDepth 20000 in
theorem gX6_make_X6_measure : GoodIn wsX6_make (wsV RX6 106 RX6 yX6_measure wsX6_measure) := goodIn_app (goodIn_of _ (by decide +kernel)) ggX6_make_X6_measure
theorem dX6_make_0 : decode cX6_make 0 = .ok (.aload_n 0, 1) := by decide +kernel
theorem dX6_make_1 : decode cX6_make 1 = .ok (.getfield 13, 3) := by decide +kernel
theorem dX6_make_4 : decode cX6_make 4 = .ok (.aload_n 0, 1) := by decide +kernel
theorem dX6_make_5 : decode cX6_make 5 = .ok (.getfield 103, 3) := by decide +kernel
theorem dX6_make_8 : decode cX6_make 8 = .ok (.iload_n 1, 1) := by decide +kernel
theorem dX6_make_9 : decode cX6_make 9 = .ok (.iastore, 1) := by decide +kernel
theorem dX6_make_10 : decode cX6_make 10 = .ok (.aload_n 0, 1) := by decide +kernel
theorem dX6_make_11 : decode cX6_make 11 = .ok (.getfield 17, 3) := by decide +kernel
theorem dX6_make_14 : decode cX6_make 14 = .ok (.aload_n 0, 1) := by decide +kernel
theorem dX6_make_15 : decode cX6_make 15 = .ok (.getfield 103, 3) := by decide +kernel
theorem dX6_make_18 : decode cX6_make 18 = .ok (.iload_n 2, 1) := by decide +kernel
theorem dX6_make_19 : decode cX6_make 19 = .ok (.iastore, 1) := by decide +kernel
theorem dX6_make_20 : decode cX6_make 20 = .ok (.aload_n 0, 1) := by decide +kernel
theorem dX6_make_21 : decode cX6_make 21 = .ok (.getfield 20, 3) := by decide +kernel
theorem dX6_make_24 : decode cX6_make 24 = .ok (.aload_n 0, 1) := by decide +kernel
theorem dX6_make_25 : decode cX6_make 25 = .ok (.getfield 103, 3) := by decide +kernel
theorem dX6_make_28 : decode cX6_make 28 = .ok (.iload_n 3, 1) := by decide +kernel
theorem dX6_make_29 : decode cX6_make 29 = .ok (.iastore, 1) := by decide +kernel
theorem dX6_make_30 : decode cX6_make 30 = .ok (.aload_n 0, 1) := by decide +kernel
theorem dX6_make_31 : decode cX6_make 31 = .ok (.getfield 23, 3) := by decide +kernel
theorem dX6_make_34 : decode cX6_make 34 = .ok (.aload_n 0, 1) := by decide +kernel
theorem dX6_make_35 : decode cX6_make 35 = .ok (.getfield 103, 3) := by decide +kernel
theorem dX6_make_38 : decode cX6_make 38 = .ok (.iload 4, 2) := by decide +kernel
theorem dX6_make_40 : decode cX6_make 40 = .ok (.iastore, 1) := by decide +kernel
theorem dX6_make_41 : decode cX6_make 41 = .ok (.aload_n 0, 1) := by decide +kernel
theorem dX6_make_42 : decode cX6_make 42 = .ok (.getfield 26, 3) := by decide +kernel
theorem dX6_make_45 : decode cX6_make 45 = .ok (.aload_n 0, 1) := by decide +kernel
theorem dX6_make_46 : decode cX6_make 46 = .ok (.getfield 103, 3) := by decide +kernel
theorem dX6_make_49 : decode cX6_make 49 = .ok (.iload 5, 2) := by decide +kernel
theorem dX6_make_51 : decode cX6_make 51 = .ok (.iastore, 1) := by decide +kernel
theorem dX6_make_52 : decode cX6_make 52 = .ok (.aload_n 0, 1) := by decide +kernel
theorem dX6_make_53 : decode cX6_make 53 = .ok (.aload_n 0, 1) := by decide +kernel
theorem dX6_make_54 : decode cX6_make 54 = .ok (.getfield 103, 3) := by decide +kernel
theorem dX6_make_57 : decode cX6_make 57 = .ok (.invokevirtual 106, 3) := by decide +kernel
theorem dX6_make_60 : decode cX6_make 60 = .ok (.aload_n 0, 1) := by decide +kernel
theorem dX6_make_61 : decode cX6_make 61 = .ok (.dup, 1) := by decide +kernel
theorem dX6_make_62 : decode cX6_make 62 = .ok (.getfield 103, 3) := by decide +kernel
theorem dX6_make_65 : decode cX6_make 65 = .ok (.iconst 1, 1) := by decide +kernel
theorem dX6_make_66 : decode cX6_make 66 = .ok (.iadd, 1) := by decide +kernel
theorem dX6_make_67 : decode cX6_make 67 = .ok (.putfield 103, 3) := by decide +kernel
theorem dX6_make_70 : decode cX6_make 70 = .ok (.aload_n 0, 1) := by decide +kernel
theorem dX6_make_71 : decode cX6_make 71 = .ok (.getfield 103, 3) := by decide +kernel
theorem dX6_make_74 : decode cX6_make 74 = .ok (.iconst 1, 1) := by decide +kernel
theorem dX6_make_75 : decode cX6_make 75 = .ok (.isub, 1) := by decide +kernel
theorem dX6_make_76 : decode cX6_make 76 = .ok (.ireturn, 1) := by decide +kernel
set_option maxRecDepth 20000 in
theorem ggX6_measure_X6_lesser : GoodIn wsX6_measure wsX6_lesser := goodIn_r _ [12] (by decide +kernel) (by decide +kernel)
set_option maxRecDepth 20000 in
theorem gX6_measure_X6_lesser : GoodIn wsX6_measure (va_wsS RX6 110 yX6_lesser wsX6_lesser) := goodIn_app (goodIn_of _ (by decide +kernel)) ggX6_measure_X6_lesser
theorem dX6_measure_0 : decode cX6_measure 0 = .ok (.aload_n 0, 1) := by decide +kernel
theorem dX6_measure_1 : decode cX6_measure 1 = .ok (.getfield 17, 3) := by decide +kernel
theorem dX6_measure_4 : decode cX6_measure 4 = .ok (.iload_n 1, 1) := by decide +kernel
theorem dX6_measure_5 : decode cX6_measure 5 = .ok (.iaload, 1) := by decide +kernel
theorem dX6_measure_6 : decode cX6_measure 6 = .ok (.istore_n 2, 1) := by decide +kernel
theorem dX6_measure_7 : decode cX6_measure 7 = .ok (.aload_n 0, 1) := by decide +kernel
theorem dX6_measure_8 : decode cX6_measure 8 = .ok (.getfield 20, 3) := by decide +kernel
theorem dX6_measure_11 : decode cX6_measure 11 = .ok (.iload_n 1, 1) := by decide +kernel
theorem dX6_measure_12 : decode cX6_measure 12 = .ok (.iaload, 1) := by decide +kernel
theorem dX6_measure_13 : decode cX6_measure 13 = .ok (.istore_n 3, 1) := by decide +kernel
theorem dX6_measure_14 : decode cX6_measure 14 = .ok (.iload_n 2, 1) := by decide +kernel
theorem dX6_measure_15 : decode cX6_measure 15 = .ok (.iconst (-1), 1) := by decide +kernel
theorem dX6_measure_16 : decode cX6_measure 16 = .ok (.if_icmp .ne 7, 3) := by decide +kernel
theorem dX6_measure_19 : decode cX6_measure 19 = .ok (.iconst 0, 1) := by decide +kernel
theorem dX6_measure_20 : decode cX6_measure 20 = .ok (.goto 9, 3) := by decide +kernel
theorem dX6_measure_23 : decode cX6_measure 23 = .ok (.aload_n 0, 1) := by decide +kernel
theorem dX6_measure_24 : decode cX6_measure 24 = .ok (.getfield 29, 3) := by decide +kernel
theorem dX6_measure_27 : decode cX6_measure 27 = .ok (.iload_n 2, 1) := by decide +kernel
theorem dX6_measure_28 : decode cX6_measure 28 = .ok (.iaload, 1) := by decide +kernel
theorem dX6_measure_29 : decode cX6_measure 29 = .ok (.istore 4, 2) := by decide +kernel
theorem dX6_measure_31 : decode cX6_measure 31 = .ok (.iload_n 2, 1) := by decide +kernel
theorem dX6_measure_32 : decode cX6_measure 32 = .ok (.iconst (-1), 1) := by decide +kernel
theorem dX6_measure_33 : decode cX6_measure 33 = .ok (.if_icmp .ne 7, 3) := by decide +kernel
theorem dX6_measure_36 : decode cX6_measure 36 = .ok (.iconst 0, 1) := by decide +kernel
theorem dX6_measure_37 : decode cX6_measure 37 = .ok (.goto 9, 3) := by decide +kernel
theorem dX6_measure_40 : decode cX6_measure 40 = .ok (.aload_n 0, 1) := by decide +kernel
theorem dX6_measure_41 : decode cX6_measure 41 = .ok (.getfield 32, 3) := by decide +kernel
theorem dX6_measure_44 : decode cX6_measure 44 = .ok (.iload_n 2, 1) := by decide +kernel
theorem dX6_measure_45 : decode cX6_measure 45 = .ok (.iaload, 1) := by decide +kernel
theorem dX6_measure_46 : decode cX6_measure 46 = .ok (.istore 5, 2) := by decide +kernel
theorem dX6_measure_48 : decode cX6_measure 48 = .ok (.iload_n 2, 1) := by decide +kernel
theorem dX6_measure_49 : decode cX6_measure 49 = .ok (.iconst (-1), 1) := by decide +kernel
theorem dX6_measure_50 : decode cX6_measure 50 = .ok (.if_icmp .ne 7, 3) := by decide +kernel
theorem dX6_measure_53 : decode cX6_measure 53 = .ok (.iconst 0, 1) := by decide +kernel
theorem dX6_measure_54 : decode cX6_measure 54 = .ok (.goto 9, 3) := by decide +kernel
theorem dX6_measure_57 : decode cX6_measure 57 = .ok (.aload_n 0, 1) := by decide +kernel
theorem dX6_measure_58 : decode cX6_measure 58 = .ok (.getfield 35, 3) := by decide +kernel
theorem dX6_measure_61 : decode cX6_measure 61 = .ok (.iload_n 2, 1) := by decide +kernel
theorem dX6_measure_62 : decode cX6_measure 62 = .ok (.iaload, 1) := by decide +kernel
theorem dX6_measure_63 : decode cX6_measure 63 = .ok (.istore 6, 2) := by decide +kernel
theorem dX6_measure_65 : decode cX6_measure 65 = .ok (.aload_n 0, 1) := by decide +kernel
theorem dX6_measure_66 : decode cX6_measure 66 = .ok (.getfield 23, 3) := by decide +kernel
theorem dX6_measure_69 : decode cX6_measure 69 = .ok (.iload_n 1, 1) := by decide +kernel
theorem dX6_measure_70 : decode cX6_measure 70 = .ok (.iaload, 1) := by decide +kernel
theorem dX6_measure_71 : decode cX6_measure 71 = .ok (.iconst (-1), 1) := by decide +kernel
theorem dX6_measure_72 : decode cX6_measure 72 = .ok (.if_icmp .ne 7, 3) := by decide +kernel
theorem dX6_measure_75 : decode cX6_measure 75 = .ok (.iconst 0, 1) := by decide +kernel
theorem dX6_measure_76 : decode cX6_measure 76 = .ok (.goto 11, 3) := by decide +kernel
theorem dX6_measure_79 : decode cX6_measure 79 = .ok (.iconst 1, 1) := by decide +kernel
theorem dX6_measure_80 : decode cX6_measure 80 = .ok (.aload_n 0, 1) := by decide +kernel
theorem dX6_measure_81 : decode cX6_measure 81 = .ok (.getfield 23, 3) := by decide +kernel
theorem dX6_measure_84 : decode cX6_measure 84 = .ok (.iload_n 1, 1) := by decide +kernel
theorem dX6_measure_85 : decode cX6_measure 85 = .ok (.iaload, 1) := by decide +kernel
theorem dX6_measure_86 : decode cX6_measure 86 = .ok (.ishl, 1) := by decide +kernel
theorem dX6_measure_87 : decode cX6_measure 87 = .ok (.istore 7, 2) := by decide +kernel
theorem dX6_measure_89 : decode cX6_measure 89 = .ok (.aload_n 0, 1) := by decide +kernel
theorem dX6_measure_90 : decode cX6_measure 90 = .ok (.getfield 26, 3) := by decide +kernel
theorem dX6_measure_93 : decode cX6_measure 93 = .ok (.iload_n 1, 1) := by decide +kernel
theorem dX6_measure_94 : decode cX6_measure 94 = .ok (.iaload, 1) := by decide +kernel
theorem dX6_measure_95 : decode cX6_measure 95 = .ok (.iconst (-1), 1) := by decide +kernel
theorem dX6_measure_96 : decode cX6_measure 96 = .ok (.if_icmp .ne 7, 3) := by decide +kernel
theorem dX6_measure_99 : decode cX6_measure 99 = .ok (.iconst 0, 1) := by decide +kernel
theorem dX6_measure_100 : decode cX6_measure 100 = .ok (.goto 11, 3) := by decide +kernel
theorem dX6_measure_103 : decode cX6_measure 103 = .ok (.iconst 1, 1) := by decide +kernel
theorem dX6_measure_104 : decode cX6_measure 104 = .ok (.aload_n 0, 1) := by decide +kernel
theorem dX6_measure_105 : decode cX6_measure 105 = .ok (.getfield 26, 3) := by decide +kernel
theorem dX6_measure_108 : decode cX6_measure 108 = .ok (.iload_n 1, 1) := by decide +kernel
theorem dX6_measure_109 : decode cX6_measure 109 = .ok (.iaload, 1) := by decide +kernel
theorem dX6_measure_110 : decode cX6_measure 110 = .ok (.ishl, 1) := by decide +kernel
theorem dX6_measure_111 : decode cX6_measure 111 = .ok (.istore 8, 2) := by decide +kernel
theorem dX6_measure_113 : decode cX6_measure 113 = .ok (.aload_n 0, 1) := by decide +kernel
theorem dX6_measure_114 : decode cX6_measure 114 = .ok (.getfield 13, 3) := by decide +kernel
theorem dX6_measure_117 : decode cX6_measure 117 = .ok (.iload_n 1, 1) := by decide +kernel
theorem dX6_measure_118 : decode cX6_measure 118 = .ok (.iaload, 1) := by decide +kernel
theorem dX6_measure_119 : decode cX6_measure 119 = .ok (.tableswitch 236 0 7 #[45, 45, 55, 74, 74, 74, 209, 182], 45) := by decide +kernel
theorem dX6_measure_164 : decode cX6_measure 164 = .ok (.iload 7, 2) := by decide +kernel
theorem dX6_measure_166 : decode cX6_measure 166 = .ok (.iload 8, 2) := by decide +kernel
theorem dX6_measure_168 : decode cX6_measure 168 = .ok (.ior, 1) := by decide +kernel
theorem dX6_measure_169 : decode cX6_measure 169 = .ok (.istore 6, 2) := by decide +kernel
theorem dX6_measure_171 : decode cX6_measure 171 = .ok (.goto 196, 3) := by decide +kernel
theorem dX6_measure_174 : decode cX6_measure 174 = .ok (.aload_n 0, 1) := by decide +kernel
theorem dX6_measure_175 : decode cX6_measure 175 = .ok (.getfield 32, 3) := by decide +kernel
theorem dX6_measure_178 : decode cX6_measure 178 = .ok (.iload_n 2, 1) := by decide +kernel
theorem dX6_measure_179 : decode cX6_measure 179 = .ok (.iaload, 1) := by decide +kernel
theorem dX6_measure_180 : decode cX6_measure 180 = .ok (.istore 4, 2) := by decide +kernel
theorem dX6_measure_182 : decode cX6_measure 182 = .ok (.aload_n 0, 1) := by decide +kernel
theorem dX6_measure_183 : decode cX6_measure 183 = .ok (.getfield 29, 3) := by decide +kernel
theorem dX6_measure_186 : decode cX6_measure 186 = .ok (.iload_n 2, 1) := by decide +kernel
theorem dX6_measure_187 : decode cX6_measure 187 = .ok (.iaload, 1) := by decide +kernel
theorem dX6_measure_188 : decode cX6_measure 188 = .ok (.istore 5, 2) := by decide +kernel
theorem dX6_measure_190 : decode cX6_measure 190 = .ok (.goto 177, 3) := by decide +kernel
theorem dX6_measure_193 : decode cX6_measure 193 = .ok (.aload_n 0, 1) := by decide +kernel
theorem dX6_measure_194 : decode cX6_measure 194 = .ok (.getfield 13, 3) := by decide +kernel
theorem dX6_measure_197 : decode cX6_measure 197 = .ok (.iload_n 1, 1) := by decide +kernel
theorem dX6_measure_198 : decode cX6_measure 198 = .ok (.iaload, 1) := by decide +kernel
theorem dX6_measure_199 : decode cX6_measure 199 = .ok (.iconst 5, 1) := by decide +kernel
theorem dX6_measure_200 : decode cX6_measure 200 = .ok (.if_icmp .ne 12, 3) := by decide +kernel
theorem dX6_measure_203 : decode cX6_measure 203 = .ok (.aload_n 0, 1) := by decide +kernel
theorem dX6_measure_204 : decode cX6_measure 204 = .ok (.getfield 32, 3) := by decide +kernel
theorem dX6_measure_207 : decode cX6_measure 207 = .ok (.iload_n 2, 1) := by decide +kernel
theorem dX6_measure_208 : decode cX6_measure 208 = .ok (.iaload, 1) := by decide +kernel
theorem dX6_measure_209 : decode cX6_measure 209 = .ok (.goto 5, 3) := by decide +kernel
theorem dX6_measure_212 : decode cX6_measure 212 = .ok (.iload 4, 2) := by decide +kernel
theorem dX6_measure_214 : decode cX6_measure 214 = .ok (.istore 4, 2) := by decide +kernel
theorem dX6_measure_216 : decode cX6_measure 216 = .ok (.aload_n 0, 1) := by decide +kernel
theorem dX6_measure_217 : decode cX6_measure 217 = .ok (.getfield 13, 3) := by decide +kernel
theorem dX6_measure_220 : decode cX6_measure 220 = .ok (.iload_n 1, 1) := by decide +kernel
theorem dX6_measure_221 : decode cX6_measure 221 = .ok (.iaload, 1) := by decide +kernel
theorem dX6_measure_222 : decode cX6_measure 222 = .ok (.iconst 5, 1) := by decide +kernel
theorem dX6_measure_223 : decode cX6_measure 223 = .ok (.if_icmp .ne 12, 3) := by decide +kernel
theorem dX6_measure_226 : decode cX6_measure 226 = .ok (.aload_n 0, 1) := by decide +kernel
theorem dX6_measure_227 : decode cX6_measure 227 = .ok (.getfield 29, 3) := by decide +kernel
theorem dX6_measure_230 : decode cX6_measure 230 = .ok (.iload_n 2, 1) := by decide +kernel
theorem dX6_measure_231 : decode cX6_measure 231 = .ok (.iaload, 1) := by decide +kernel
theorem dX6_measure_232 : decode cX6_measure 232 = .ok (.goto 5, 3) := by decide +kernel
theorem dX6_measure_235 : decode cX6_measure 235 = .ok (.iload 5, 2) := by decide +kernel
theorem dX6_measure_237 : decode cX6_measure 237 = .ok (.istore 5, 2) := by decide +kernel
theorem dX6_measure_239 : decode cX6_measure 239 = .ok (.aload_n 0, 1) := by decide +kernel
theorem dX6_measure_240 : decode cX6_measure 240 = .ok (.getfield 29, 3) := by decide +kernel
theorem dX6_measure_243 : decode cX6_measure 243 = .ok (.iload_n 3, 1) := by decide +kernel
theorem dX6_measure_244 : decode cX6_measure 244 = .ok (.iaload, 1) := by decide +kernel
theorem dX6_measure_245 : decode cX6_measure 245 = .ok (.iload 4, 2) := by decide +kernel
theorem dX6_measure_247 : decode cX6_measure 247 = .ok (.if_icmp .le 12, 3) := by decide +kernel
theorem dX6_measure_250 : decode cX6_measure 250 = .ok (.aload_n 0, 1) := by decide +kernel
theorem dX6_measure_251 : decode cX6_measure 251 = .ok (.getfield 29, 3) := by decide +kernel
theorem dX6_measure_254 : decode cX6_measure 254 = .ok (.iload_n 3, 1) := by decide +kernel
theorem dX6_measure_255 : decode cX6_measure 255 = .ok (.iaload, 1) := by decide +kernel
theorem dX6_measure_256 : decode cX6_measure 256 = .ok (.goto 5, 3) := by decide +kernel
theorem dX6_measure_259 : decode cX6_measure 259 = .ok (.iload 4, 2) := by decide +kernel
theorem dX6_measure_261 : decode cX6_measure 261 = .ok (.istore 4, 2) := by decide +kernel
theorem dX6_measure_263 : decode cX6_measure 263 = .ok (.aload_n 0, 1) := by decide +kernel
theorem dX6_measure_264 : decode cX6_measure 264 = .ok (.getfield 32, 3) := by decide +kernel
theorem dX6_measure_267 : decode cX6_measure 267 = .ok (.iload_n 3, 1) := by decide +kernel
theorem dX6_measure_268 : decode cX6_measure 268 = .ok (.iaload, 1) := by decide +kernel
theorem dX6_measure_269 : decode cX6_measure 269 = .ok (.iload 5, 2) := by decide +kernel
theorem dX6_measure_271 : decode cX6_measure 271 = .ok (.if_icmp .le 12, 3) := by decide +kernel
theorem dX6_measure_274 : decode cX6_measure 274 = .ok (.aload_n 0, 1) := by decide +kernel
theorem dX6_measure_275 : decode cX6_measure 275 = .ok (.getfield 32, 3) := by decide +kernel
theorem dX6_measure_278 : decode cX6_measure 278 = .ok (.iload_n 3, 1) := by decide +kernel
theorem dX6_measure_279 : decode cX6_measure 279 = .ok (.iaload, 1) := by decide +kernel
theorem dX6_measure_280 : decode cX6_measure 280 = .ok (.goto 5, 3) := by decide +kernel
theorem dX6_measure_283 : decode cX6_measure 283 = .ok (.iload 5, 2) := by decide +kernel
theorem dX6_measure_285 : decode cX6_measure 285 = .ok (.istore 5, 2) := by decide +kernel
theorem dX6_measure_287 : decode cX6_measure 287 = .ok (.iload 6, 2) := by decide +kernel
theorem dX6_measure_289 : decode cX6_measure 289 = .ok (.aload_n 0, 1) := by decide +kernel
theorem dX6_measure_290 : decode cX6_measure 290 = .ok (.getfield 35, 3) := by decide +kernel
theorem dX6_measure_293 : decode cX6_measure 293 = .ok (.iload_n 3, 1) := by decide +kernel
theorem dX6_measure_294 : decode cX6_measure 294 = .ok (.iaload, 1) := by decide +kernel
theorem dX6_measure_295 : decode cX6_measure 295 = .ok (.ior, 1) := by decide +kernel
theorem dX6_measure_296 : decode cX6_measure 296 = .ok (.istore 6, 2) := by decide +kernel
theorem dX6_measure_298 : decode cX6_measure 298 = .ok (.goto 69, 3) := by decide +kernel
theorem dX6_measure_301 : decode cX6_measure 301 = .ok (.iload 4, 2) := by decide +kernel
theorem dX6_measure_303 : decode cX6_measure 303 = .ok (.iload 5, 2) := by decide +kernel
theorem dX6_measure_305 : decode cX6_measure 305 = .ok (.invokestatic 110, 3) := by decide +kernel
theorem dX6_measure_308 : decode cX6_measure 308 = .ok (.istore 4, 2) := by decide +kernel
theorem dX6_measure_310 : decode cX6_measure 310 = .ok (.iload 4, 2) := by decide +kernel
theorem dX6_measure_312 : decode cX6_measure 312 = .ok (.iconst 1, 1) := by decide +kernel
theorem dX6_measure_313 : decode cX6_measure 313 = .ok (.iadd, 1) := by decide +kernel
theorem dX6_measure_314 : decode cX6_measure 314 = .ok (.istore 5, 2) := by decide +kernel
theorem dX6_measure_316 : decode cX6_measure 316 = .ok (.iload 6, 2) := by decide +kernel
theorem dX6_measure_318 : decode cX6_measure 318 = .ok (.iload 7, 2) := by decide +kernel
theorem dX6_measure_320 : decode cX6_measure 320 = .ok (.iconst (-1), 1) := by decide +kernel
theorem dX6_measure_321 : decode cX6_measure 321 = .ok (.ixor, 1) := by decide +kernel
theorem dX6_measure_322 : decode cX6_measure 322 = .ok (.iand, 1) := by decide +kernel
theorem dX6_measure_323 : decode cX6_measure 323 = .ok (.istore 6, 2) := by decide +kernel
theorem dX6_measure_325 : decode cX6_measure 325 = .ok (.goto 42, 3) := by decide +kernel
theorem dX6_measure_328 : decode cX6_measure 328 = .ok (.iload 5, 2) := by decide +kernel
theorem dX6_measure_330 : decode cX6_measure 330 = .ok (.iload 4, 2) := by decide +kernel
theorem dX6_measure_332 : decode cX6_measure 332 = .ok (.invokestatic 110, 3) := by decide +kernel
theorem dX6_measure_335 : decode cX6_measure 335 = .ok (.istore 5, 2) := by decide +kernel
theorem dX6_measure_337 : decode cX6_measure 337 = .ok (.iload 5, 2) := by decide +kernel
theorem dX6_measure_339 : decode cX6_measure 339 = .ok (.iconst 1, 1) := by decide +kernel
theorem dX6_measure_340 : decode cX6_measure 340 = .ok (.iadd, 1) := by decide +kernel
theorem dX6_measure_341 : decode cX6_measure 341 = .ok (.istore 4, 2) := by decide +kernel
theorem dX6_measure_343 : decode cX6_measure 343 = .ok (.iload 6, 2) := by decide +kernel
theorem dX6_measure_345 : decode cX6_measure 345 = .ok (.iload 7, 2) := by decide +kernel
theorem dX6_measure_347 : decode cX6_measure 347 = .ok (.iconst (-1), 1) := by decide +kernel
theorem dX6_measure_348 : decode cX6_measure 348 = .ok (.ixor, 1) := by decide +kernel
theorem dX6_measure_349 : decode cX6_measure 349 = .ok (.iand, 1) := by decide +kernel
theorem dX6_measure_350 : decode cX6_measure 350 = .ok (.istore 6, 2) := by decide +kernel
theorem dX6_measure_352 : decode cX6_measure 352 = .ok (.goto 15, 3) := by decide +kernel
theorem dX6_measure_355 : decode cX6_measure 355 = .ok (.iload 6, 2) := by decide +kernel
theorem dX6_measure_357 : decode cX6_measure 357 = .ok (.iload 7, 2) := by decide +kernel
theorem dX6_measure_359 : decode cX6_measure 359 = .ok (.iconst (-1), 1) := by decide +kernel
theorem dX6_measure_360 : decode cX6_measure 360 = .ok (.ixor, 1) := by decide +kernel
theorem dX6_measure_361 : decode cX6_measure 361 = .ok (.iand, 1) := by decide +kernel
theorem dX6_measure_362 : decode cX6_measure 362 = .ok (.iload 8, 2) := by decide +kernel
theorem dX6_measure_364 : decode cX6_measure 364 = .ok (.ior, 1) := by decide +kernel
theorem dX6_measure_365 : decode cX6_measure 365 = .ok (.istore 6, 2) := by decide +kernel
theorem dX6_measure_367 : decode cX6_measure 367 = .ok (.aload_n 0, 1) := by decide +kernel
theorem dX6_measure_368 : decode cX6_measure 368 = .ok (.getfield 29, 3) := by decide +kernel
theorem dX6_measure_371 : decode cX6_measure 371 = .ok (.iload_n 1, 1) := by decide +kernel
theorem dX6_measure_372 : decode cX6_measure 372 = .ok (.iload 4, 2) := by decide +kernel
theorem dX6_measure_374 : decode cX6_measure 374 = .ok (.iastore, 1) := by decide +kernel
theorem dX6_measure_375 : decode cX6_measure 375 = .ok (.aload_n 0, 1) := by decide +kernel
theorem dX6_measure_376 : decode cX6_measure 376 = .ok (.getfield 32, 3) := by decide +kernel
theorem dX6_measure_379 : decode cX6_measure 379 = .ok (.iload_n 1, 1) := by decide +kernel
theorem dX6_measure_380 : decode cX6_measure 380 = .ok (.iload 5, 2) := by decide +kernel
theorem dX6_measure_382 : decode cX6_measure 382 = .ok (.iastore, 1) := by decide +kernel
theorem dX6_measure_383 : decode cX6_measure 383 = .ok (.aload_n 0, 1) := by decide +kernel
theorem dX6_measure_384 : decode cX6_measure 384 = .ok (.getfield 35, 3) := by decide +kernel
theorem dX6_measure_387 : decode cX6_measure 387 = .ok (.iload_n 1, 1) := by decide +kernel
theorem dX6_measure_388 : decode cX6_measure 388 = .ok (.iload 6, 2) := by decide +kernel
theorem dX6_measure_390 : decode cX6_measure 390 = .ok (.iastore, 1) := by decide +kernel
theorem dX6_measure_391 : decode cX6_measure 391 = .ok (.return_, 1) := by decide +kernel
theorem dX6_lesser_0 : decode cX6_lesser 0 = .ok (.iload_n 0, 1) := by decide +kernel
theorem dX6_lesser_1 : decode cX6_lesser 1 = .ok (.iconst 1, 1) := by decide +kernel
theorem dX6_lesser_2 : decode cX6_lesser 2 = .ok (.if_icmp .ge 7, 3) := by decide +kernel
theorem dX6_lesser_5 : decode cX6_lesser 5 = .ok (.iconst 1, 1) := by decide +kernel
theorem dX6_lesser_6 : decode cX6_lesser 6 = .ok (.goto 4, 3) := by decide +kernel
theorem dX6_lesser_9 : decode cX6_lesser 9 = .ok (.iload_n 0, 1) := by decide +kernel
theorem dX6_lesser_10 : decode cX6_lesser 10 = .ok (.istore_n 2, 1) := by decide +kernel
theorem dX6_lesser_11 : decode cX6_lesser 11 = .ok (.iload_n 2, 1) := by decide +kernel
theorem dX6_lesser_12 : decode cX6_lesser 12 = .ok (.iload_n 1, 1) := by decide +kernel
theorem dX6_lesser_13 : decode cX6_lesser 13 = .ok (.iconst 1, 1) := by decide +kernel
theorem dX6_lesser_14 : decode cX6_lesser 14 = .ok (.iadd, 1) := by decide +kernel
theorem dX6_lesser_15 : decode cX6_lesser 15 = .ok (.if_icmp .ge 7, 3) := by decide +kernel
theorem dX6_lesser_18 : decode cX6_lesser 18 = .ok (.iload_n 2, 1) := by decide +kernel
theorem dX6_lesser_19 : decode cX6_lesser 19 = .ok (.goto 6, 3) := by decide +kernel
theorem dX6_lesser_22 : decode cX6_lesser 22 = .ok (.iload_n 1, 1) := by decide +kernel
theorem dX6_lesser_23 : decode cX6_lesser 23 = .ok (.iconst 1, 1) := by decide +kernel
theorem dX6_lesser_24 : decode cX6_lesser 24 = .ok (.iadd, 1) := by decide +kernel
theorem dX6_lesser_25 : decode cX6_lesser 25 = .ok (.ireturn, 1) := by decide +kernel
theorem dX6_begin_0 : decode cX6_begin 0 = .ok (.aload_n 0, 1) := by decide +kernel
theorem dX6_begin_1 : decode cX6_begin 1 = .ok (.getfield 38, 3) := by decide +kernel
theorem dX6_begin_4 : decode cX6_begin 4 = .ok (.aload_n 0, 1) := by decide +kernel
theorem dX6_begin_5 : decode cX6_begin 5 = .ok (.getfield 114, 3) := by decide +kernel
theorem dX6_begin_8 : decode cX6_begin 8 = .ok (.iload_n 1, 1) := by decide +kernel
theorem dX6_begin_9 : decode cX6_begin 9 = .ok (.iastore, 1) := by decide +kernel
theorem dX6_begin_10 : decode cX6_begin 10 = .ok (.aload_n 0, 1) := by decide +kernel
theorem dX6_begin_11 : decode cX6_begin 11 = .ok (.getfield 41, 3) := by decide +kernel
theorem dX6_begin_14 : decode cX6_begin 14 = .ok (.aload_n 0, 1) := by decide +kernel
theorem dX6_begin_15 : decode cX6_begin 15 = .ok (.getfield 114, 3) := by decide +kernel
theorem dX6_begin_18 : decode cX6_begin 18 = .ok (.iload_n 2, 1) := by decide +kernel
theorem dX6_begin_19 : decode cX6_begin 19 = .ok (.iastore, 1) := by decide +kernel
theorem dX6_begin_20 : decode cX6_begin 20 = .ok (.aload_n 0, 1) := by decide +kernel
theorem dX6_begin_21 : decode cX6_begin 21 = .ok (.getfield 44, 3) := by decide +kernel
theorem dX6_begin_24 : decode cX6_begin 24 = .ok (.aload_n 0, 1) := by decide +kernel
theorem dX6_begin_25 : decode cX6_begin 25 = .ok (.getfield 114, 3) := by decide +kernel
theorem dX6_begin_28 : decode cX6_begin 28 = .ok (.iload_n 3, 1) := by decide +kernel
theorem dX6_begin_29 : decode cX6_begin 29 = .ok (.iastore, 1) := by decide +kernel
theorem dX6_begin_30 : decode cX6_begin 30 = .ok (.aload_n 0, 1) := by decide +kernel
theorem dX6_begin_31 : decode cX6_begin 31 = .ok (.dup, 1) := by decide +kernel
theorem dX6_begin_32 : decode cX6_begin 32 = .ok (.getfield 114, 3) := by decide +kernel
theorem dX6_begin_35 : decode cX6_begin 35 = .ok (.iconst 1, 1) := by decide +kernel
theorem dX6_begin_36 : decode cX6_begin 36 = .ok (.iadd, 1) := by decide +kernel
theorem dX6_begin_37 : decode cX6_begin 37 = .ok (.putfield 114, 3) := by decide +kernel
theorem dX6_begin_40 : decode cX6_begin 40 = .ok (.return_, 1) := by decide +kernel
set_option maxRecDepth 20000 in
theorem ggX6_end_X6_in : GoodIn wsX6_end wsX6_in := goodIn_r _ [9] (by decide +kernel) (by decide +kernel)
set_option maxRecDepth 20000 in
theorem gX6_end_X6_in : GoodIn wsX6_end (va_wsS RX6 85 yX6_in wsX6_in) := goodIn_app (goodIn_of _ (by decide +kernel)) ggX6_end_X6_in
set_option maxRecDepth 20000 in
theorem ggX6_end_X6_make : GoodIn wsX6_end wsX6_make := goodIn_r _ [13, 14, 15, 16, 17, 18, 19, 20, 21, 22, 8, 23, 24, 25, 26, 27, 28, 29, 30, 31, 32, 33, 34, 35, 36, 37, 38, 39, 40, 41, 42, 43, 44, 45, 46, 47, 48, 49, 50, 51, 52, 53, 54, 55, 56, 57, 58, 59, 60, 61] (by decide +kernel) (by decide +kernel)
set_option maxRecDepth 20000 in
theorem gX6_end_X6_make : GoodIn wsX6_end (wsV RX6 117 RX6 yX6_make wsX6_make) := goodIn_app (goodIn_of _ (by decide +kernel)) ggX6_end_X6_make
theorem dX6_end_0 : decode cX6_end 0 = .ok (.iload_n 1, 1) := by decide +kernel
theorem dX6_end_1 : decode cX6_end 1 = .ok (.istore_n 2, 1) := by decide +kernel
theorem dX6_end_2 : decode cX6_end 2 = .ok (.aload_n 0, 1) := by decide +kernel
theorem dX6_end_3 : decode cX6_end 3 = .ok (.getfield 114, 3) := by decide +kernel
theorem dX6_end_6 : decode cX6_end 6 = .ok (.ifCond .le 86, 3) := by decide +kernel
theorem dX6_end_9 : decode cX6_end 9 = .ok (.aload_n 0, 1) := by decide +kernel
theorem dX6_end_10 : decode cX6_end 10 = .ok (.getfield 38, 3) := by decide +kernel
theorem dX6_end_13 : decode cX6_end 13 = .ok (.aload_n 0, 1) := by decide +kernel
theorem dX6_end_14 : decode cX6_end 14 = .ok (.getfield 114, 3) := by decide +kernel
theorem dX6_end_17 : decode cX6_end 17 = .ok (.iconst 1, 1) := by decide +kernel
theorem dX6_end_18 : decode cX6_end 18 = .ok (.isub, 1) := by decide +kernel
theorem dX6_end_19 : decode cX6_end 19 = .ok (.iaload, 1) := by decide +kernel
theorem dX6_end_20 : decode cX6_end 20 = .ok (.iconst 2, 1) := by decide +kernel
theorem dX6_end_21 : decode cX6_end 21 = .ok (.if_icmp .eq 24, 3) := by decide +kernel
theorem dX6_end_24 : decode cX6_end 24 = .ok (.aload_n 0, 1) := by decide +kernel
theorem dX6_end_25 : decode cX6_end 25 = .ok (.getfield 38, 3) := by decide +kernel
theorem dX6_end_28 : decode cX6_end 28 = .ok (.aload_n 0, 1) := by decide +kernel
theorem dX6_end_29 : decode cX6_end 29 = .ok (.getfield 114, 3) := by decide +kernel
theorem dX6_end_32 : decode cX6_end 32 = .ok (.iconst 1, 1) := by decide +kernel
theorem dX6_end_33 : decode cX6_end 33 = .ok (.isub, 1) := by decide +kernel
theorem dX6_end_34 : decode cX6_end 34 = .ok (.iaload, 1) := by decide +kernel
theorem dX6_end_35 : decode cX6_end 35 = .ok (.bipush 6, 2) := by decide +kernel
theorem dX6_end_37 : decode cX6_end 37 = .ok (.bipush 9, 2) := by decide +kernel
theorem dX6_end_39 : decode cX6_end 39 = .ok (.invokestatic 85, 3) := by decide +kernel
theorem dX6_end_42 : decode cX6_end 42 = .ok (.ifCond .eq 50, 3) := by decide +kernel
theorem dX6_end_45 : decode cX6_end 45 = .ok (.aload_n 0, 1) := by decide +kernel
theorem dX6_end_46 : decode cX6_end 46 = .ok (.dup, 1) := by decide +kernel
theorem dX6_end_47 : decode cX6_end 47 = .ok (.getfield 114, 3) := by decide +kernel
theorem dX6_end_50 : decode cX6_end 50 = .ok (.iconst 1, 1) := by decide +kernel
theorem dX6_end_51 : decode cX6_end 51 = .ok (.isub, 1) := by decide +kernel
theorem dX6_end_52 : decode cX6_end 52 = .ok (.putfield 114, 3) := by decide +kernel
theorem dX6_end_55 : decode cX6_end 55 = .ok (.aload_n 0, 1) := by decide +kernel
theorem dX6_end_56 : decode cX6_end 56 = .ok (.aload_n 0, 1) := by decide +kernel
theorem dX6_end_57 : decode cX6_end 57 = .ok (.getfield 38, 3) := by decide +kernel
theorem dX6_end_60 : decode cX6_end 60 = .ok (.aload_n 0, 1) := by decide +kernel
theorem dX6_end_61 : decode cX6_end 61 = .ok (.getfield 114, 3) := by decide +kernel
theorem dX6_end_64 : decode cX6_end 64 = .ok (.iaload, 1) := by decide +kernel
theorem dX6_end_65 : decode cX6_end 65 = .ok (.iload_n 2, 1) := by decide +kernel
theorem dX6_end_66 : decode cX6_end 66 = .ok (.iconst (-1), 1) := by decide +kernel
theorem dX6_end_67 : decode cX6_end 67 = .ok (.aload_n 0, 1) := by decide +kernel
theorem dX6_end_68 : decode cX6_end 68 = .ok (.getfield 41, 3) := by decide +kernel
theorem dX6_end_71 : decode cX6_end 71 = .ok (.aload_n 0, 1) := by decide +kernel
theorem dX6_end_72 : decode cX6_end 72 = .ok (.getfield 114, 3) := by decide +kernel
theorem dX6_end_75 : decode cX6_end 75 = .ok (.iaload, 1) := by decide +kernel
theorem dX6_end_76 : decode cX6_end 76 = .ok (.aload_n 0, 1) := by decide +kernel
theorem dX6_end_77 : decode cX6_end 77 = .ok (.getfield 44, 3) := by decide +kernel
theorem dX6_end_80 : decode cX6_end 80 = .ok (.aload_n 0, 1) := by decide +kernel
theorem dX6_end_81 : decode cX6_end 81 = .ok (.getfield 114, 3) := by decide +kernel
theorem dX6_end_84 : decode cX6_end 84 = .ok (.iaload, 1) := by decide +kernel
theorem dX6_end_85 : decode cX6_end 85 = .ok (.invokevirtual 117, 3) := by decide +kernel
theorem dX6_end_88 : decode cX6_end 88 = .ok (.istore_n 2, 1) := by decide +kernel
theorem dX6_end_89 : decode cX6_end 89 = .ok (.goto (-87), 3) := by decide +kernel
theorem dX6_end_92 : decode cX6_end 92 = .ok (.aload_n 0, 1) := by decide +kernel
theorem dX6_end_93 : decode cX6_end 93 = .ok (.getfield 114, 3) := by decide +kernel
theorem dX6_end_96 : decode cX6_end 96 = .ok (.ifCond .ne 12, 3) := by decide +kernel
theorem dX6_end_99 : decode cX6_end 99 = .ok (.aload_n 0, 1) := by decide +kernel
theorem dX6_end_100 : decode cX6_end 100 = .ok (.bipush 8, 2) := by decide +kernel
theorem dX6_end_102 : decode cX6_end 102 = .ok (.putfield 121, 3) := by decide +kernel
theorem dX6_end_105 : decode cX6_end 105 = .ok (.goto 58, 3) := by decide +kernel
theorem dX6_end_108 : decode cX6_end 108 = .ok (.aload_n 0, 1) := by decide +kernel
theorem dX6_end_109 : decode cX6_end 109 = .ok (.getfield 38, 3) := by decide +kernel
theorem dX6_end_112 : decode cX6_end 112 = .ok (.aload_n 0, 1) := by decide +kernel
theorem dX6_end_113 : decode cX6_end 113 = .ok (.getfield 114, 3) := by decide +kernel
theorem dX6_end_116 : decode cX6_end 116 = .ok (.iconst 1, 1) := by decide +kernel
theorem dX6_end_117 : decode cX6_end 117 = .ok (.isub, 1) := by decide +kernel
theorem dX6_end_118 : decode cX6_end 118 = .ok (.iaload, 1) := by decide +kernel
theorem dX6_end_119 : decode cX6_end 119 = .ok (.bipush 10, 2) := by decide +kernel
theorem dX6_end_121 : decode cX6_end 121 = .ok (.if_icmp .ne 24, 3) := by decide +kernel
theorem dX6_end_124 : decode cX6_end 124 = .ok (.aload_n 0, 1) := by decide +kernel
theorem dX6_end_125 : decode cX6_end 125 = .ok (.getfield 41, 3) := by decide +kernel
theorem dX6_end_128 : decode cX6_end 128 = .ok (.aload_n 0, 1) := by decide +kernel
theorem dX6_end_129 : decode cX6_end 129 = .ok (.getfield 114, 3) := by decide +kernel
theorem dX6_end_132 : decode cX6_end 132 = .ok (.iconst 1, 1) := by decide +kernel
theorem dX6_end_133 : decode cX6_end 133 = .ok (.isub, 1) := by decide +kernel
theorem dX6_end_134 : decode cX6_end 134 = .ok (.iload_n 2, 1) := by decide +kernel
theorem dX6_end_135 : decode cX6_end 135 = .ok (.iastore, 1) := by decide +kernel
theorem dX6_end_136 : decode cX6_end 136 = .ok (.aload_n 0, 1) := by decide +kernel
theorem dX6_end_137 : decode cX6_end 137 = .ok (.bipush 6, 2) := by decide +kernel
theorem dX6_end_139 : decode cX6_end 139 = .ok (.putfield 121, 3) := by decide +kernel
theorem dX6_end_142 : decode cX6_end 142 = .ok (.goto 21, 3) := by decide +kernel
theorem dX6_end_145 : decode cX6_end 145 = .ok (.aload_n 0, 1) := by decide +kernel
theorem dX6_end_146 : decode cX6_end 146 = .ok (.getfield 44, 3) := by decide +kernel
theorem dX6_end_149 : decode cX6_end 149 = .ok (.aload_n 0, 1) := by decide +kernel
theorem dX6_end_150 : decode cX6_end 150 = .ok (.getfield 114, 3) := by decide +kernel
theorem dX6_end_153 : decode cX6_end 153 = .ok (.iconst 1, 1) := by decide +kernel
theorem dX6_end_154 : decode cX6_end 154 = .ok (.isub, 1) := by decide +kernel
theorem dX6_end_155 : decode cX6_end 155 = .ok (.iload_n 2, 1) := by decide +kernel
theorem dX6_end_156 : decode cX6_end 156 = .ok (.iastore, 1) := by decide +kernel
theorem dX6_end_157 : decode cX6_end 157 = .ok (.aload_n 0, 1) := by decide +kernel
theorem dX6_end_158 : decode cX6_end 158 = .ok (.bipush 7, 2) := by decide +kernel
theorem dX6_end_160 : decode cX6_end 160 = .ok (.putfield 121, 3) := by decide +kernel
theorem dX6_end_163 : decode cX6_end 163 = .ok (.return_, 1) := by decide +kernel
set_option maxRecDepth 20000 in
theorem ggX6_startsWith_X6_kindOf : GoodIn wsX6_startsWith wsX6_kindOf := goodIn_r _ [5] (by decide +kernel) (by decide +kernel)
set_option maxRecDepth 20000 in
theorem gX6_startsWith_X6_kindOf : GoodIn wsX6_startsWith (va_wsS RX6 93 yX6_kindOf wsX6_kindOf) := goodIn_app (goodIn_of _ (by decide +kernel)) ggX6_startsWith_X6_kindOf
set_option maxRecDepth 20000 in
theorem ggX6_startsWith_X6_variableOf : GoodIn wsX6_startsWith wsX6_variableOf := goodIn_r _ [8, 9, 10, 4, 11] (by decide +kernel) (by decide +kernel)
set_option maxRecDepth 20000 in
theorem gX6_startsWith_X6_variableOf : GoodIn wsX6_startsWith (va_wsS RX6 89 yX6_variableOf wsX6_variableOf) := goodIn_app (goodIn_of _ (by decide +kernel)) ggX6_startsWith_X6_variableOf
set_option maxRecDepth 20000 in
theorem ggX6_startsWith_X6_begin : GoodIn wsX6_startsWith wsX6_begin := goodIn_r _ [15, 16, 17, 18, 19, 20, 21, 22, 23, 24, 25, 26, 27, 28, 29, 30, 31, 32, 33, 34, 35, 36, 37, 38, 39, 40, 41, 42, 43, 44, 45, 46, 47, 48, 49, 50, 51] (by decide +kernel) (by decide +kernel)
set_option maxRecDepth 20000 in
theorem gX6_startsWith_X6_begin : GoodIn wsX6_startsWith (wsV RX6 124 RX6 yX6_begin wsX6_begin) := goodIn_app (goodIn_of _ (by decide +kernel)) ggX6_startsWith_X6_begin
set_option maxRecDepth 20000 in
theorem ggX6_startsWith_X6_in : GoodIn wsX6_startsWith wsX6_in := goodIn_r _ [11] (by decide +kernel) (by decide +kernel)
set_option maxRecDepth 20000 in
theorem gX6_startsWith_X6_in : GoodIn wsX6_startsWith (va_wsS RX6 85 yX6_in wsX6_in) := goodIn_app (goodIn_of _ (by decide +kernel)) ggX6_startsWith_X6_in
theorem dX6_startsWith_0 : decode cX6_startsWith 0 = .ok (.iload_n 1, 1) := by decide +kernel
theorem dX6_startsWith_1 : decode cX6_startsWith 1 = .ok (.invokestatic 93, 3) := by decide +kernel
theorem dX6_startsWith_4 : decode cX6_startsWith 4 = .ok (.istore_n 2, 1) := by decide +kernel
theorem dX6_startsWith_5 : decode cX6_startsWith 5 = .ok (.iload_n 1, 1) := by decide +kernel
theorem dX6_startsWith_6 : decode cX6_startsWith 6 = .ok (.invokestatic 89, 3) := by decide +kernel
theorem dX6_startsWith_9 : decode cX6_startsWith 9 = .ok (.iconst (-1), 1) := by decide +kernel
theorem dX6_startsWith_10 : decode cX6_startsWith 10 = .ok (.if_icmp .eq 21, 3) := by decide +kernel
theorem dX6_startsWith_13 : decode cX6_startsWith 13 = .ok (.aload_n 0, 1) := by decide +kernel
theorem dX6_startsWith_14 : decode cX6_startsWith 14 = .ok (.iconst 0, 1) := by decide +kernel
theorem dX6_startsWith_15 : decode cX6_startsWith 15 = .ok (.iload_n 1, 1) := by decide +kernel
theorem dX6_startsWith_16 : decode cX6_startsWith 16 = .ok (.invokestatic 89, 3) := by decide +kernel
theorem dX6_startsWith_19 : decode cX6_startsWith 19 = .ok (.iconst (-1), 1) := by decide +kernel
theorem dX6_startsWith_20 : decode cX6_startsWith 20 = .ok (.invokevirtual 124, 3) := by decide +kernel
theorem dX6_startsWith_23 : decode cX6_startsWith 23 = .ok (.aload_n 0, 1) := by decide +kernel
theorem dX6_startsWith_24 : decode cX6_startsWith 24 = .ok (.iconst 1, 1) := by decide +kernel
theorem dX6_startsWith_25 : decode cX6_startsWith 25 = .ok (.putfield 121, 3) := by decide +kernel
theorem dX6_startsWith_28 : decode cX6_startsWith 28 = .ok (.goto 62, 3) := by decide +kernel
theorem dX6_startsWith_31 : decode cX6_startsWith 31 = .ok (.iload_n 2, 1) := by decide +kernel
theorem dX6_startsWith_32 : decode cX6_startsWith 32 = .ok (.iconst 2, 1) := by decide +kernel
theorem dX6_startsWith_33 : decode cX6_startsWith 33 = .ok (.if_icmp .eq 9, 3) := by decide +kernel
theorem dX6_startsWith_36 : decode cX6_startsWith 36 = .ok (.iload_n 2, 1) := by decide +kernel
theorem dX6_startsWith_37 : decode cX6_startsWith 37 = .ok (.bipush 10, 2) := by decide +kernel
theorem dX6_startsWith_39 : decode cX6_startsWith 39 = .ok (.if_icmp .ne 13, 3) := by decide +kernel
theorem dX6_startsWith_42 : decode cX6_startsWith 42 = .ok (.aload_n 0, 1) := by decide +kernel
theorem dX6_startsWith_43 : decode cX6_startsWith 43 = .ok (.iload_n 2, 1) := by decide +kernel
theorem dX6_startsWith_44 : decode cX6_startsWith 44 = .ok (.iconst (-1), 1) := by decide +kernel
theorem dX6_startsWith_45 : decode cX6_startsWith 45 = .ok (.iconst (-1), 1) := by decide +kernel
theorem dX6_startsWith_46 : decode cX6_startsWith 46 = .ok (.invokevirtual 124, 3) := by decide +kernel
theorem dX6_startsWith_49 : decode cX6_startsWith 49 = .ok (.goto 41, 3) := by decide +kernel
theorem dX6_startsWith_52 : decode cX6_startsWith 52 = .ok (.iload_n 2, 1) := by decide +kernel
theorem dX6_startsWith_53 : decode cX6_startsWith 53 = .ok (.bipush 6, 2) := by decide +kernel
theorem dX6_startsWith_55 : decode cX6_startsWith 55 = .ok (.bipush 9, 2) := by decide +kernel
theorem dX6_startsWith_57 : decode cX6_startsWith 57 = .ok (.invokestatic 85, 3) := by decide +kernel
theorem dX6_startsWith_60 : decode cX6_startsWith 60 = .ok (.ifCond .eq 28, 3) := by decide +kernel
theorem dX6_startsWith_63 : decode cX6_startsWith 63 = .ok (.aload_n 0, 1) := by decide +kernel
theorem dX6_startsWith_64 : decode cX6_startsWith 64 = .ok (.iload_n 2, 1) := by decide +kernel
theorem dX6_startsWith_65 : decode cX6_startsWith 65 = .ok (.iconst (-1), 1) := by decide +kernel
theorem dX6_startsWith_66 : decode cX6_startsWith 66 = .ok (.iconst (-1), 1) := by decide +kernel
theorem dX6_startsWith_67 : decode cX6_startsWith 67 = .ok (.invokevirtual 124, 3) := by decide +kernel
theorem dX6_startsWith_70 : decode cX6_startsWith 70 = .ok (.aload_n 0, 1) := by decide +kernel
theorem dX6_startsWith_71 : decode cX6_startsWith 71 = .ok (.iload_n 2, 1) := by decide +kernel
theorem dX6_startsWith_72 : decode cX6_startsWith 72 = .ok (.bipush 8, 2) := by decide +kernel
theorem dX6_startsWith_74 : decode cX6_startsWith 74 = .ok (.if_icmp .ge 7, 3) := by decide +kernel
theorem dX6_startsWith_77 : decode cX6_startsWith 77 = .ok (.iconst 3, 1) := by decide +kernel
theorem dX6_startsWith_78 : decode cX6_startsWith 78 = .ok (.goto 4, 3) := by decide +kernel
theorem dX6_startsWith_81 : decode cX6_startsWith 81 = .ok (.iconst 4, 1) := by decide +kernel
theorem dX6_startsWith_82 : decode cX6_startsWith 82 = .ok (.putfield 121, 3) := by decide +kernel
theorem dX6_startsWith_85 : decode cX6_startsWith 85 = .ok (.goto 5, 3) := by decide +kernel
theorem dX6_startsWith_88 : decode cX6_startsWith 88 = .ok (.iconst 0, 1) := by decide +kernel
theorem dX6_startsWith_89 : decode cX6_startsWith 89 = .ok (.ireturn, 1) := by decide +kernel
theorem dX6_startsWith_90 : decode cX6_startsWith 90 = .ok (.iconst 1, 1) := by decide +kernel
theorem dX6_startsWith_91 : decode cX6_startsWith 91 = .ok (.ireturn, 1) := by decide +kernel
set_option maxRecDepth 20000 in
theorem ggX6_names_X6_variableOf : GoodIn wsX6_names wsX6_variableOf := goodIn_r _ [9, 10, 11, 8, 12] (by decide +kernel) (by decide +kernel)
set_option maxRecDepth 20000 in
theorem gX6_names_X6_variableOf : GoodIn wsX6_names (va_wsS RX6 89 yX6_variableOf wsX6_variableOf) := goodIn_app (goodIn_of _ (by decide +kernel)) ggX6_names_X6_variableOf
set_option maxRecDepth 20000 in
theorem ggX6_names_X6_make : GoodIn wsX6_names wsX6_make := goodIn_r _ [16, 17, 18, 19, 20, 21, 22, 23, 24, 25, 8, 26, 27, 28, 29, 30, 31, 32, 37, 38, 39, 40, 41, 42, 43, 44, 45, 46, 47, 48, 49, 50, 51, 52, 53, 54, 55, 56, 57, 58, 59, 60, 61, 62, 63, 64, 65, 66, 67, 68] (by decide +kernel) (by decide +kernel)
set_option maxRecDepth 20000 in
theorem gX6_names_X6_make : GoodIn wsX6_names (wsV RX6 117 RX6 yX6_make wsX6_make) := goodIn_app (goodIn_of _ (by decide +kernel)) ggX6_names_X6_make
set_option maxRecDepth 20000 in
theorem ggX6_names_X6_end : GoodIn wsX6_names wsX6_end := goodIn_r _ [36, 2, 3, 4, 5, 1, 10, 11, 8, 12, 13, 14, 15, 16, 17, 18, 19, 20, 21, 22, 23, 24, 25, 26, 27, 28, 29, 30, 31, 32, 37, 38, 39, 40, 41, 42, 43, 44, 45, 46, 47, 48, 49, 50, 51, 52, 53, 54, 55, 56, 57, 58, 59, 60, 61, 62, 63, 64, 65, 66, 67, 68] (by decide +kernel) (by decide +kernel)
set_option maxRecDepth 20000 in
theorem gX6_names_X6_end : GoodIn wsX6_names (wsV RX6 128 RX6 yX6_end wsX6_end) := goodIn_app (goodIn_of _ (by decide +kernel)) ggX6_names_X6_end
theorem dX6_names_0 : decode cX6_names 0 = .ok (.iload_n 1, 1) := by decide +kernel
theorem dX6_names_1 : decode cX6_names 1 = .ok (.invokestatic 89, 3) := by decide +kernel
theorem dX6_names_4 : decode cX6_names 4 = .ok (.istore_n 2, 1) := by decide +kernel
theorem dX6_names_5 : decode cX6_names 5 = .ok (.iload_n 2, 1) := by decide +kernel
theorem dX6_names_6 : decode cX6_names 6 = .ok (.iconst (-1), 1) := by decide +kernel
theorem dX6_names_7 : decode cX6_names 7 = .ok (.if_icmp .ne 5, 3) := by decide +kernel
theorem dX6_names_10 : decode cX6_names 10 = .ok (.iconst 0, 1) := by decide +kernel
theorem dX6_names_11 : decode cX6_names 11 = .ok (.ireturn, 1) := by decide +kernel
theorem dX6_names_12 : decode cX6_names 12 = .ok (.aload_n 0, 1) := by decide +kernel
theorem dX6_names_13 : decode cX6_names 13 = .ok (.getfield 121, 3) := by decide +kernel
theorem dX6_names_16 : decode cX6_names 16 = .ok (.iconst 2, 1) := by decide +kernel
theorem dX6_names_17 : decode cX6_names 17 = .ok (.if_icmp .ne 45, 3) := by decide +kernel
theorem dX6_names_20 : decode cX6_names 20 = .ok (.aload_n 0, 1) := by decide +kernel
theorem dX6_names_21 : decode cX6_names 21 = .ok (.dup, 1) := by decide +kernel
theorem dX6_names_22 : decode cX6_names 22 = .ok (.getfield 114, 3) := by decide +kernel
theorem dX6_names_25 : decode cX6_names 25 = .ok (.iconst 1, 1) := by decide +kernel
theorem dX6_names_26 : decode cX6_names 26 = .ok (.isub, 1) := by decide +kernel
theorem dX6_names_27 : decode cX6_names 27 = .ok (.putfield 114, 3) := by decide +kernel
theorem dX6_names_30 : decode cX6_names 30 = .ok (.aload_n 0, 1) := by decide +kernel
theorem dX6_names_31 : decode cX6_names 31 = .ok (.aload_n 0, 1) := by decide +kernel
theorem dX6_names_32 : decode cX6_names 32 = .ok (.aload_n 0, 1) := by decide +kernel
theorem dX6_names_33 : decode cX6_names 33 = .ok (.getfield 38, 3) := by decide +kernel
theorem dX6_names_36 : decode cX6_names 36 = .ok (.aload_n 0, 1) := by decide +kernel
theorem dX6_names_37 : decode cX6_names 37 = .ok (.getfield 114, 3) := by decide +kernel
theorem dX6_names_40 : decode cX6_names 40 = .ok (.iaload, 1) := by decide +kernel
theorem dX6_names_41 : decode cX6_names 41 = .ok (.iconst (-1), 1) := by decide +kernel
theorem dX6_names_42 : decode cX6_names 42 = .ok (.iconst (-1), 1) := by decide +kernel
theorem dX6_names_43 : decode cX6_names 43 = .ok (.aload_n 0, 1) := by decide +kernel
theorem dX6_names_44 : decode cX6_names 44 = .ok (.getfield 41, 3) := by decide +kernel
theorem dX6_names_47 : decode cX6_names 47 = .ok (.aload_n 0, 1) := by decide +kernel
theorem dX6_names_48 : decode cX6_names 48 = .ok (.getfield 114, 3) := by decide +kernel
theorem dX6_names_51 : decode cX6_names 51 = .ok (.iaload, 1) := by decide +kernel
theorem dX6_names_52 : decode cX6_names 52 = .ok (.iload_n 2, 1) := by decide +kernel
theorem dX6_names_53 : decode cX6_names 53 = .ok (.invokevirtual 117, 3) := by decide +kernel
theorem dX6_names_56 : decode cX6_names 56 = .ok (.invokevirtual 128, 3) := by decide +kernel
theorem dX6_names_59 : decode cX6_names 59 = .ok (.goto 60, 3) := by decide +kernel
theorem dX6_names_62 : decode cX6_names 62 = .ok (.aload_n 0, 1) := by decide +kernel
theorem dX6_names_63 : decode cX6_names 63 = .ok (.getfield 121, 3) := by decide +kernel
theorem dX6_names_66 : decode cX6_names 66 = .ok (.iconst 5, 1) := by decide +kernel
theorem dX6_names_67 : decode cX6_names 67 = .ok (.if_icmp .ne 23, 3) := by decide +kernel
theorem dX6_names_70 : decode cX6_names 70 = .ok (.aload_n 0, 1) := by decide +kernel
theorem dX6_names_71 : decode cX6_names 71 = .ok (.getfield 44, 3) := by decide +kernel
theorem dX6_names_74 : decode cX6_names 74 = .ok (.aload_n 0, 1) := by decide +kernel
theorem dX6_names_75 : decode cX6_names 75 = .ok (.getfield 114, 3) := by decide +kernel
theorem dX6_names_78 : decode cX6_names 78 = .ok (.iconst 1, 1) := by decide +kernel
theorem dX6_names_79 : decode cX6_names 79 = .ok (.isub, 1) := by decide +kernel
theorem dX6_names_80 : decode cX6_names 80 = .ok (.iload_n 2, 1) := by decide +kernel
theorem dX6_names_81 : decode cX6_names 81 = .ok (.iastore, 1) := by decide +kernel
theorem dX6_names_82 : decode cX6_names 82 = .ok (.aload_n 0, 1) := by decide +kernel
theorem dX6_names_83 : decode cX6_names 83 = .ok (.iconst 0, 1) := by decide +kernel
theorem dX6_names_84 : decode cX6_names 84 = .ok (.putfield 121, 3) := by decide +kernel
theorem dX6_names_87 : decode cX6_names 87 = .ok (.goto 32, 3) := by decide +kernel
theorem dX6_names_90 : decode cX6_names 90 = .ok (.aload_n 0, 1) := by decide +kernel
theorem dX6_names_91 : decode cX6_names 91 = .ok (.getfield 41, 3) := by decide +kernel
theorem dX6_names_94 : decode cX6_names 94 = .ok (.aload_n 0, 1) := by decide +kernel
theorem dX6_names_95 : decode cX6_names 95 = .ok (.getfield 114, 3) := by decide +kernel
theorem dX6_names_98 : decode cX6_names 98 = .ok (.iconst 1, 1) := by decide +kernel
theorem dX6_names_99 : decode cX6_names 99 = .ok (.isub, 1) := by decide +kernel
theorem dX6_names_100 : decode cX6_names 100 = .ok (.iload_n 2, 1) := by decide +kernel
theorem dX6_names_101 : decode cX6_names 101 = .ok (.iastore, 1) := by decide +kernel
theorem dX6_names_102 : decode cX6_names 102 = .ok (.aload_n 0, 1) := by decide +kernel
theorem dX6_names_103 : decode cX6_names 103 = .ok (.aload_n 0, 1) := by decide +kernel
theorem dX6_names_104 : decode cX6_names 104 = .ok (.getfield 121, 3) := by decide +kernel
theorem dX6_names_107 : decode cX6_names 107 = .ok (.iconst 4, 1) := by decide +kernel
theorem dX6_names_108 : decode cX6_names 108 = .ok (.if_icmp .ne 7, 3) := by decide +kernel
theorem dX6_names_111 : decode cX6_names 111 = .ok (.iconst 5, 1) := by decide +kernel
theorem dX6_names_112 : decode cX6_names 112 = .ok (.goto 4, 3) := by decide +kernel
theorem dX6_names_115 : decode cX6_names 115 = .ok (.iconst 0, 1) := by decide +kernel
theorem dX6_names_116 : decode cX6_names 116 = .ok (.putfield 121, 3) := by decide +kernel
theorem dX6_names_119 : decode cX6_names 119 = .ok (.iconst 1, 1) := by decide +kernel
theorem dX6_names_120 : decode cX6_names 120 = .ok (.ireturn, 1) := by decide +kernel
set_option maxRecDepth 20000 in
theorem ggX6_goesOn_X6_kindOf : GoodIn wsX6_goesOn wsX6_kindOf := goodIn_r _ [9] (by decide +kernel) (by decide +kernel)
set_option maxRecDepth 20000 in
theorem gX6_goesOn_X6_kindOf : GoodIn wsX6_goesOn (va_wsS RX6 93 yX6_kindOf wsX6_kindOf) := goodIn_app (goodIn_of _ (by decide +kernel)) ggX6_goesOn_X6_kindOf
set_option maxRecDepth 20000 in
theorem ggX6_goesOn_X6_startsWith : GoodIn wsX6_goesOn wsX6_startsWith := goodIn_r _ [13, 1, 6, 7, 8, 9, 14, 15, 16, 17, 18, 19, 20, 21, 22, 23, 2, 3, 4, 5, 52, 53, 54, 55, 56, 57, 58, 59, 60, 61, 62, 63, 64, 65, 66, 67, 68, 69, 70, 71, 72, 73, 74, 75, 76, 77, 78, 79, 80, 81, 82, 83] (by decide +kernel) (by decide +kernel)
set_option maxRecDepth 20000 in
theorem gX6_goesOn_X6_startsWith : GoodIn wsX6_goesOn (wsV RX6 131 RX6 yX6_startsWith wsX6_startsWith) := goodIn_app (goodIn_of _ (by decide +kernel)) ggX6_goesOn_X6_startsWith
set_option maxRecDepth 20000 in
theorem ggX6_goesOn_X6_in : GoodIn wsX6_goesOn wsX6_in := goodIn_r _ [19] (by decide +kernel) (by decide +kernel)
set_option maxRecDepth 20000 in
theorem gX6_goesOn_X6_in : GoodIn wsX6_goesOn (va_wsS RX6 85 yX6_in wsX6_in) := goodIn_app (goodIn_of _ (by decide +kernel)) ggX6_goesOn_X6_in
set_option maxRecDepth 20000 in
theorem ggX6_goesOn_X6_make : GoodIn wsX6_goesOn wsX6_make := goodIn_r _ [27, 28, 29, 30, 31, 32, 33, 34, 35, 36, 8, 37, 38, 39, 40, 41, 42, 43, 52, 53, 54, 55, 56, 57, 58, 59, 60, 61, 62, 63, 64, 65, 66, 67, 68, 69, 70, 71, 72, 73, 74, 75, 76, 77, 78, 79, 80, 81, 82, 83] (by decide +kernel) (by decide +kernel)
set_option maxRecDepth 20000 in
theorem gX6_goesOn_X6_make : GoodIn wsX6_goesOn (wsV RX6 117 RX6 yX6_make wsX6_make) := goodIn_app (goodIn_of _ (by decide +kernel)) ggX6_goesOn_X6_make
set_option maxRecDepth 20000 in
theorem ggX6_goesOn_X6_end : GoodIn wsX6_goesOn wsX6_end := goodIn_r _ [47, 3, 2, 4, 5, 1, 17, 18, 8, 19, 24, 25, 26, 27, 28, 29, 30, 31, 32, 33, 34, 35, 36, 37, 38, 39, 40, 41, 42, 43, 52, 53, 54, 55, 56, 57, 58, 59, 60, 61, 62, 63, 64, 65, 66, 67, 68, 69, 70, 71, 72, 73, 74, 75, 76, 77, 78, 79, 80, 81, 82, 83] (by decide +kernel) (by decide +kernel)
set_option maxRecDepth 20000 in
theorem gX6_goesOn_X6_end : GoodIn wsX6_goesOn (wsV RX6 128 RX6 yX6_end wsX6_end) := goodIn_app (goodIn_of _ (by decide +kernel)) ggX6_goesOn_X6_end
set_option maxRecDepth 20000 in
theorem ggX6_goesOn_X6_names : GoodIn wsX6_goesOn wsX6_names := goodIn_r _ [51, 1, 3, 2, 4, 5, 14, 15, 8, 16, 17, 18, 19, 24, 25, 26, 27, 28, 29, 30, 31, 32, 33, 34, 35, 36, 37, 38, 39, 40, 41, 42, 43, 44, 45, 46, 47, 52, 53, 54, 55, 56, 57, 58, 59, 60, 61, 62, 63, 64, 65, 66, 67, 68, 69, 70, 71, 72, 73, 74, 75, 76, 77, 78, 79, 80, 81, 82, 83] (by decide +kernel) (by decide +kernel)
set_option maxRecDepth 20000 in
theorem gX6_goesOn_X6_names : GoodIn wsX6_goesOn (wsV RX6 135 RX6 yX6_names wsX6_names) := goodIn_app (goodIn_of _ (by decide +kernel)) ggX6_goesOn_X6_names
theorem dX6_goesOn_0 : decode cX6_goesOn 0 = .ok (.iload_n 1, 1) := by decide +kernel
theorem dX6_goesOn_1 : decode cX6_goesOn 1 = .ok (.invokestatic 93, 3) := by decide +kernel
theorem dX6_goesOn_4 : decode cX6_goesOn 4 = .ok (.istore_n 2, 1) := by decide +kernel
theorem dX6_goesOn_5 : decode cX6_goesOn 5 = .ok (.aload_n 0, 1) := by decide +kernel
theorem dX6_goesOn_6 : decode cX6_goesOn 6 = .ok (.getfield 121, 3) := by decide +kernel
theorem dX6_goesOn_9 : decode cX6_goesOn 9 = .ok (.tableswitch 180 0 8 #[51, 57, 180, 180, 180, 180, 89, 113, 178], 51) := by decide +kernel
theorem dX6_goesOn_60 : decode cX6_goesOn 60 = .ok (.aload_n 0, 1) := by decide +kernel
theorem dX6_goesOn_61 : decode cX6_goesOn 61 = .ok (.iload_n 1, 1) := by decide +kernel
theorem dX6_goesOn_62 : decode cX6_goesOn 62 = .ok (.invokevirtual 131, 3) := by decide +kernel
theorem dX6_goesOn_65 : decode cX6_goesOn 65 = .ok (.ireturn, 1) := by decide +kernel
theorem dX6_goesOn_66 : decode cX6_goesOn 66 = .ok (.aload_n 0, 1) := by decide +kernel
theorem dX6_goesOn_67 : decode cX6_goesOn 67 = .ok (.getfield 38, 3) := by decide +kernel
theorem dX6_goesOn_70 : decode cX6_goesOn 70 = .ok (.aload_n 0, 1) := by decide +kernel
theorem dX6_goesOn_71 : decode cX6_goesOn 71 = .ok (.getfield 114, 3) := by decide +kernel
theorem dX6_goesOn_74 : decode cX6_goesOn 74 = .ok (.iconst 1, 1) := by decide +kernel
theorem dX6_goesOn_75 : decode cX6_goesOn 75 = .ok (.isub, 1) := by decide +kernel
theorem dX6_goesOn_76 : decode cX6_goesOn 76 = .ok (.iload_n 2, 1) := by decide +kernel
theorem dX6_goesOn_77 : decode cX6_goesOn 77 = .ok (.iastore, 1) := by decide +kernel
theorem dX6_goesOn_78 : decode cX6_goesOn 78 = .ok (.aload_n 0, 1) := by decide +kernel
theorem dX6_goesOn_79 : decode cX6_goesOn 79 = .ok (.iconst 2, 1) := by decide +kernel
theorem dX6_goesOn_80 : decode cX6_goesOn 80 = .ok (.putfield 121, 3) := by decide +kernel
theorem dX6_goesOn_83 : decode cX6_goesOn 83 = .ok (.iload_n 2, 1) := by decide +kernel
theorem dX6_goesOn_84 : decode cX6_goesOn 84 = .ok (.ifCond .eq 8, 3) := by decide +kernel
theorem dX6_goesOn_87 : decode cX6_goesOn 87 = .ok (.iload_n 2, 1) := by decide +kernel
theorem dX6_goesOn_88 : decode cX6_goesOn 88 = .ok (.iconst 1, 1) := by decide +kernel
theorem dX6_goesOn_89 : decode cX6_goesOn 89 = .ok (.if_icmp .ne 7, 3) := by decide +kernel
theorem dX6_goesOn_92 : decode cX6_goesOn 92 = .ok (.iconst 1, 1) := by decide +kernel
theorem dX6_goesOn_93 : decode cX6_goesOn 93 = .ok (.goto 4, 3) := by decide +kernel
theorem dX6_goesOn_96 : decode cX6_goesOn 96 = .ok (.iconst 0, 1) := by decide +kernel
theorem dX6_goesOn_97 : decode cX6_goesOn 97 = .ok (.ireturn, 1) := by decide +kernel
theorem dX6_goesOn_98 : decode cX6_goesOn 98 = .ok (.aload_n 0, 1) := by decide +kernel
theorem dX6_goesOn_99 : decode cX6_goesOn 99 = .ok (.getfield 38, 3) := by decide +kernel
theorem dX6_goesOn_102 : decode cX6_goesOn 102 = .ok (.aload_n 0, 1) := by decide +kernel
theorem dX6_goesOn_103 : decode cX6_goesOn 103 = .ok (.getfield 114, 3) := by decide +kernel
theorem dX6_goesOn_106 : decode cX6_goesOn 106 = .ok (.iconst 1, 1) := by decide +kernel
theorem dX6_goesOn_107 : decode cX6_goesOn 107 = .ok (.isub, 1) := by decide +kernel
theorem dX6_goesOn_108 : decode cX6_goesOn 108 = .ok (.iload_n 2, 1) := by decide +kernel
theorem dX6_goesOn_109 : decode cX6_goesOn 109 = .ok (.iastore, 1) := by decide +kernel
theorem dX6_goesOn_110 : decode cX6_goesOn 110 = .ok (.aload_n 0, 1) := by decide +kernel
theorem dX6_goesOn_111 : decode cX6_goesOn 111 = .ok (.iconst 0, 1) := by decide +kernel
theorem dX6_goesOn_112 : decode cX6_goesOn 112 = .ok (.putfield 121, 3) := by decide +kernel
theorem dX6_goesOn_115 : decode cX6_goesOn 115 = .ok (.iload_n 2, 1) := by decide +kernel
theorem dX6_goesOn_116 : decode cX6_goesOn 116 = .ok (.iconst 3, 1) := by decide +kernel
theorem dX6_goesOn_117 : decode cX6_goesOn 117 = .ok (.iconst 5, 1) := by decide +kernel
theorem dX6_goesOn_118 : decode cX6_goesOn 118 = .ok (.invokestatic 85, 3) := by decide +kernel
theorem dX6_goesOn_121 : decode cX6_goesOn 121 = .ok (.ireturn, 1) := by decide +kernel
theorem dX6_goesOn_122 : decode cX6_goesOn 122 = .ok (.iload_n 1, 1) := by decide +kernel
theorem dX6_goesOn_123 : decode cX6_goesOn 123 = .ok (.bipush 41, 2) := by decide +kernel
theorem dX6_goesOn_125 : decode cX6_goesOn 125 = .ok (.if_icmp .ne 50, 3) := by decide +kernel
theorem dX6_goesOn_128 : decode cX6_goesOn 128 = .ok (.aload_n 0, 1) := by decide +kernel
theorem dX6_goesOn_129 : decode cX6_goesOn 129 = .ok (.dup, 1) := by decide +kernel
theorem dX6_goesOn_130 : decode cX6_goesOn 130 = .ok (.getfield 114, 3) := by decide +kernel
theorem dX6_goesOn_133 : decode cX6_goesOn 133 = .ok (.iconst 1, 1) := by decide +kernel
theorem dX6_goesOn_134 : decode cX6_goesOn 134 = .ok (.isub, 1) := by decide +kernel
theorem dX6_goesOn_135 : decode cX6_goesOn 135 = .ok (.putfield 114, 3) := by decide +kernel
theorem dX6_goesOn_138 : decode cX6_goesOn 138 = .ok (.aload_n 0, 1) := by decide +kernel
theorem dX6_goesOn_139 : decode cX6_goesOn 139 = .ok (.aload_n 0, 1) := by decide +kernel
theorem dX6_goesOn_140 : decode cX6_goesOn 140 = .ok (.aload_n 0, 1) := by decide +kernel
theorem dX6_goesOn_141 : decode cX6_goesOn 141 = .ok (.getfield 38, 3) := by decide +kernel
theorem dX6_goesOn_144 : decode cX6_goesOn 144 = .ok (.aload_n 0, 1) := by decide +kernel
theorem dX6_goesOn_145 : decode cX6_goesOn 145 = .ok (.getfield 114, 3) := by decide +kernel
theorem dX6_goesOn_148 : decode cX6_goesOn 148 = .ok (.iaload, 1) := by decide +kernel
theorem dX6_goesOn_149 : decode cX6_goesOn 149 = .ok (.aload_n 0, 1) := by decide +kernel
theorem dX6_goesOn_150 : decode cX6_goesOn 150 = .ok (.getfield 41, 3) := by decide +kernel
theorem dX6_goesOn_153 : decode cX6_goesOn 153 = .ok (.aload_n 0, 1) := by decide +kernel
theorem dX6_goesOn_154 : decode cX6_goesOn 154 = .ok (.getfield 114, 3) := by decide +kernel
theorem dX6_goesOn_157 : decode cX6_goesOn 157 = .ok (.iaload, 1) := by decide +kernel
theorem dX6_goesOn_158 : decode cX6_goesOn 158 = .ok (.aload_n 0, 1) := by decide +kernel
theorem dX6_goesOn_159 : decode cX6_goesOn 159 = .ok (.getfield 44, 3) := by decide +kernel
theorem dX6_goesOn_162 : decode cX6_goesOn 162 = .ok (.aload_n 0, 1) := by decide +kernel
theorem dX6_goesOn_163 : decode cX6_goesOn 163 = .ok (.getfield 114, 3) := by decide +kernel
theorem dX6_goesOn_166 : decode cX6_goesOn 166 = .ok (.iaload, 1) := by decide +kernel
theorem dX6_goesOn_167 : decode cX6_goesOn 167 = .ok (.iconst (-1), 1) := by decide +kernel
theorem dX6_goesOn_168 : decode cX6_goesOn 168 = .ok (.iconst (-1), 1) := by decide +kernel
theorem dX6_goesOn_169 : decode cX6_goesOn 169 = .ok (.invokevirtual 117, 3) := by decide +kernel
theorem dX6_goesOn_172 : decode cX6_goesOn 172 = .ok (.invokevirtual 128, 3) := by decide +kernel
theorem dX6_goesOn_175 : decode cX6_goesOn 175 = .ok (.iload_n 1, 1) := by decide +kernel
theorem dX6_goesOn_176 : decode cX6_goesOn 176 = .ok (.bipush 41, 2) := by decide +kernel
theorem dX6_goesOn_178 : decode cX6_goesOn 178 = .ok (.if_icmp .ne 7, 3) := by decide +kernel
theorem dX6_goesOn_181 : decode cX6_goesOn 181 = .ok (.iconst 1, 1) := by decide +kernel
theorem dX6_goesOn_182 : decode cX6_goesOn 182 = .ok (.goto 4, 3) := by decide +kernel
theorem dX6_goesOn_185 : decode cX6_goesOn 185 = .ok (.iconst 0, 1) := by decide +kernel
theorem dX6_goesOn_186 : decode cX6_goesOn 186 = .ok (.ireturn, 1) := by decide +kernel
theorem dX6_goesOn_187 : decode cX6_goesOn 187 = .ok (.iconst 0, 1) := by decide +kernel
theorem dX6_goesOn_188 : decode cX6_goesOn 188 = .ok (.ireturn, 1) := by decide +kernel
theorem dX6_goesOn_189 : decode cX6_goesOn 189 = .ok (.aload_n 0, 1) := by decide +kernel
theorem dX6_goesOn_190 : decode cX6_goesOn 190 = .ok (.iload_n 1, 1) := by decide +kernel
theorem dX6_goesOn_191 : decode cX6_goesOn 191 = .ok (.invokevirtual 135, 3) := by decide +kernel
theorem dX6_goesOn_194 : decode cX6_goesOn 194 = .ok (.ireturn, 1) := by decide +kernel
set_option maxRecDepth 20000 in
theorem ggX6_read_X6_goesOn : GoodIn wsX6_read wsX6_goesOn := goodIn_r _ [10, 3, 11, 2, 12, 13, 14, 15, 9, 16, 17, 18, 19, 20, 21, 22, 23, 24, 25, 26, 27, 28, 29, 30, 31, 32, 33, 34, 35, 1, 36, 37, 38, 39, 40, 41, 42, 43, 44, 45, 46, 47, 48, 49, 50, 51, 52, 53, 54, 55, 56, 57, 58, 59, 60, 61, 62, 63, 64, 65, 66, 67, 68, 69, 70, 71, 72, 73, 74, 75, 76, 77, 78, 79, 80, 81, 82, 83, 84, 85, 86, 87, 88, 89] (by decide +kernel) (by decide +kernel)
set_option maxRecDepth 20000 in
theorem gX6_read_X6_goesOn : GoodIn wsX6_read (wsV RX6 138 RX6 yX6_goesOn wsX6_goesOn) := goodIn_app (goodIn_of _ (by decide +kernel)) ggX6_read_X6_goesOn
theorem dX6_read_0 : decode cX6_read 0 = .ok (.aload_n 0, 1) := by decide +kernel
theorem dX6_read_1 : decode cX6_read 1 = .ok (.iconst 0, 1) := by decide +kernel
theorem dX6_read_2 : decode cX6_read 2 = .ok (.putfield 103, 3) := by decide +kernel
theorem dX6_read_5 : decode cX6_read 5 = .ok (.aload_n 0, 1) := by decide +kernel
theorem dX6_read_6 : decode cX6_read 6 = .ok (.iconst 0, 1) := by decide +kernel
theorem dX6_read_7 : decode cX6_read 7 = .ok (.putfield 114, 3) := by decide +kernel
theorem dX6_read_10 : decode cX6_read 10 = .ok (.aload_n 0, 1) := by decide +kernel
theorem dX6_read_11 : decode cX6_read 11 = .ok (.iconst 0, 1) := by decide +kernel
theorem dX6_read_12 : decode cX6_read 12 = .ok (.putfield 121, 3) := by decide +kernel
theorem dX6_read_15 : decode cX6_read 15 = .ok (.iconst 0, 1) := by decide +kernel
theorem dX6_read_16 : decode cX6_read 16 = .ok (.istore_n 1, 1) := by decide +kernel
theorem dX6_read_17 : decode cX6_read 17 = .ok (.iload_n 1, 1) := by decide +kernel
theorem dX6_read_18 : decode cX6_read 18 = .ok (.aload_n 0, 1) := by decide +kernel
theorem dX6_read_19 : decode cX6_read 19 = .ok (.getfield 96, 3) := by decide +kernel
theorem dX6_read_22 : decode cX6_read 22 = .ok (.if_icmp .ge 22, 3) := by decide +kernel
theorem dX6_read_25 : decode cX6_read 25 = .ok (.aload_n 0, 1) := by decide +kernel
theorem dX6_read_26 : decode cX6_read 26 = .ok (.aload_n 0, 1) := by decide +kernel
theorem dX6_read_27 : decode cX6_read 27 = .ok (.getfield 7, 3) := by decide +kernel
theorem dX6_read_30 : decode cX6_read 30 = .ok (.iload_n 1, 1) := by decide +kernel
theorem dX6_read_31 : decode cX6_read 31 = .ok (.caload, 1) := by decide +kernel
theorem dX6_read_32 : decode cX6_read 32 = .ok (.invokevirtual 138, 3) := by decide +kernel
theorem dX6_read_35 : decode cX6_read 35 = .ok (.ifCond .eq 9, 3) := by decide +kernel
theorem dX6_read_38 : decode cX6_read 38 = .ok (.iinc 1 1, 3) := by decide +kernel
theorem dX6_read_41 : decode cX6_read 41 = .ok (.goto (-24), 3) := by decide +kernel
theorem dX6_read_44 : decode cX6_read 44 = .ok (.iload_n 1, 1) := by decide +kernel
theorem dX6_read_45 : decode cX6_read 45 = .ok (.ireturn, 1) := by decide +kernel
set_option maxRecDepth 20000 in
theorem ggX6_isFormula_X6_read : GoodIn wsX6_isFormula wsX6_read := goodIn_r _ [7, 8, 9, 2, 1, 10, 11, 12, 13, 6, 14, 15, 16, 17, 18, 19, 20, 21, 22, 23, 24, 25, 26, 27, 28, 29, 30, 31, 32, 33, 34, 35, 36, 37, 38, 39, 40, 41, 42, 43, 44, 45, 46, 47, 48, 49, 50, 51, 52, 53, 54, 55, 56, 57, 58, 59, 60, 61, 62, 63, 64, 65, 66, 67, 68, 69, 70, 71, 72, 73, 74, 75, 76, 77, 78, 79, 80, 81, 82, 83, 84, 85, 86, 87, 88, 89, 90, 91, 92, 93] (by decide +kernel) (by decide +kernel)
set_option maxRecDepth 20000 in
theorem gX6_isFormula_X6_read : GoodIn wsX6_isFormula (wsV RX6 141 RX6 yX6_read wsX6_read) := goodIn_app (goodIn_of _ (by decide +kernel)) ggX6_isFormula_X6_read
theorem dX6_isFormula_0 : decode cX6_isFormula 0 = .ok (.aload_n 0, 1) := by decide +kernel
theorem dX6_isFormula_1 : decode cX6_isFormula 1 = .ok (.invokevirtual 141, 3) := by decide +kernel
theorem dX6_isFormula_4 : decode cX6_isFormula 4 = .ok (.aload_n 0, 1) := by decide +kernel
theorem dX6_isFormula_5 : decode cX6_isFormula 5 = .ok (.getfield 96, 3) := by decide +kernel
theorem dX6_isFormula_8 : decode cX6_isFormula 8 = .ok (.if_icmp .ne 16, 3) := by decide +kernel
theorem dX6_isFormula_11 : decode cX6_isFormula 11 = .ok (.aload_n 0, 1) := by decide +kernel
theorem dX6_isFormula_12 : decode cX6_isFormula 12 = .ok (.getfield 121, 3) := by decide +kernel
theorem dX6_isFormula_15 : decode cX6_isFormula 15 = .ok (.bipush 8, 2) := by decide +kernel
theorem dX6_isFormula_17 : decode cX6_isFormula 17 = .ok (.if_icmp .ne 7, 3) := by decide +kernel
theorem dX6_isFormula_20 : decode cX6_isFormula 20 = .ok (.iconst 1, 1) := by decide +kernel
theorem dX6_isFormula_21 : decode cX6_isFormula 21 = .ok (.goto 4, 3) := by decide +kernel
theorem dX6_isFormula_24 : decode cX6_isFormula 24 = .ok (.iconst 0, 1) := by decide +kernel
theorem dX6_isFormula_25 : decode cX6_isFormula 25 = .ok (.ireturn, 1) := by decide +kernel
set_option maxRecDepth 20000 in
theorem ggX6_fault_X6_read : GoodIn wsX6_fault wsX6_read := goodIn_r _ [6, 7, 8, 9, 10, 11, 12, 13, 14, 5, 15, 16, 17, 18, 19, 20, 21, 22, 23, 24, 25, 26, 27, 28, 29, 30, 31, 32, 33, 34, 35, 36, 37, 38, 39, 40, 41, 42, 43, 44, 45, 46, 47, 48, 49, 50, 51, 52, 53, 54, 55, 56, 57, 58, 59, 60, 61, 62, 63, 64, 65, 66, 67, 68, 69, 70, 71, 72, 73, 74, 75, 76, 77, 78, 79, 80, 81, 82, 83, 84, 85, 86, 87, 88, 89, 90, 91, 92, 93, 94] (by decide +kernel) (by decide +kernel)
set_option maxRecDepth 20000 in
theorem gX6_fault_X6_read : GoodIn wsX6_fault (wsV RX6 141 RX6 yX6_read wsX6_read) := goodIn_app (goodIn_of _ (by decide +kernel)) ggX6_fault_X6_read
theorem dX6_fault_0 : decode cX6_fault 0 = .ok (.aload_n 0, 1) := by decide +kernel
theorem dX6_fault_1 : decode cX6_fault 1 = .ok (.iconst 0, 1) := by decide +kernel
theorem dX6_fault_2 : decode cX6_fault 2 = .ok (.putfield 81, 3) := by decide +kernel
theorem dX6_fault_5 : decode cX6_fault 5 = .ok (.aload_n 0, 1) := by decide +kernel
theorem dX6_fault_6 : decode cX6_fault 6 = .ok (.invokevirtual 141, 3) := by decide +kernel
theorem dX6_fault_9 : decode cX6_fault 9 = .ok (.ireturn, 1) := by decide +kernel
set_option maxRecDepth 20000 in
theorem ggX6_sigma_X6_isFormula : GoodIn wsX6_sigma wsX6_isFormula := goodIn_r _ [8, 9, 10, 11, 12, 13, 7, 14, 3, 15, 16, 17, 18, 19, 20, 21, 22, 23, 24, 25, 26, 27, 28, 29, 30, 31, 32, 33, 34, 35, 36, 37, 38, 39, 40, 41, 42, 43, 44, 45, 46, 47, 48, 49, 50, 51, 52, 53, 2, 54, 55, 56, 57, 58, 59, 60, 61, 62, 63, 64, 65, 66, 67, 68, 69, 70, 71, 72, 73, 74, 75, 76, 77, 78, 79, 80, 81, 82, 83, 84, 85, 86, 87, 88, 89, 90, 91, 92, 93, 94, 95, 96, 97, 98] (by decide +kernel) (by decide +kernel)
set_option maxRecDepth 20000 in
theorem gX6_sigma_X6_isFormula : GoodIn wsX6_sigma (wsV RX6 145 RX6 yX6_isFormula wsX6_isFormula) := goodIn_app (goodIn_of _ (by decide +kernel)) ggX6_sigma_X6_isFormula
theorem dX6_sigma_0 : decode cX6_sigma 0 = .ok (.aload_n 0, 1) := by decide +kernel
theorem dX6_sigma_1 : decode cX6_sigma 1 = .ok (.iconst 0, 1) := by decide +kernel
theorem dX6_sigma_2 : decode cX6_sigma 2 = .ok (.putfield 81, 3) := by decide +kernel
theorem dX6_sigma_5 : decode cX6_sigma 5 = .ok (.aload_n 0, 1) := by decide +kernel
theorem dX6_sigma_6 : decode cX6_sigma 6 = .ok (.invokevirtual 145, 3) := by decide +kernel
theorem dX6_sigma_9 : decode cX6_sigma 9 = .ok (.ifCond .eq 17, 3) := by decide +kernel
theorem dX6_sigma_12 : decode cX6_sigma 12 = .ok (.aload_n 0, 1) := by decide +kernel
theorem dX6_sigma_13 : decode cX6_sigma 13 = .ok (.getfield 29, 3) := by decide +kernel
theorem dX6_sigma_16 : decode cX6_sigma 16 = .ok (.aload_n 0, 1) := by decide +kernel
theorem dX6_sigma_17 : decode cX6_sigma 17 = .ok (.getfield 103, 3) := by decide +kernel
theorem dX6_sigma_20 : decode cX6_sigma 20 = .ok (.iconst 1, 1) := by decide +kernel
theorem dX6_sigma_21 : decode cX6_sigma 21 = .ok (.isub, 1) := by decide +kernel
theorem dX6_sigma_22 : decode cX6_sigma 22 = .ok (.iaload, 1) := by decide +kernel
theorem dX6_sigma_23 : decode cX6_sigma 23 = .ok (.goto 4, 3) := by decide +kernel
theorem dX6_sigma_26 : decode cX6_sigma 26 = .ok (.iconst (-1), 1) := by decide +kernel
theorem dX6_sigma_27 : decode cX6_sigma 27 = .ok (.ireturn, 1) := by decide +kernel
set_option maxRecDepth 20000 in
theorem ggX6_pi_X6_isFormula : GoodIn wsX6_pi wsX6_isFormula := goodIn_r _ [8, 9, 10, 11, 12, 13, 7, 14, 3, 15, 16, 17, 18, 19, 20, 21, 22, 23, 24, 25, 26, 27, 28, 29, 30, 31, 32, 33, 34, 35, 36, 37, 38, 39, 40, 41, 42, 43, 44, 45, 46, 47, 48, 49, 50, 51, 52, 53, 54, 2, 55, 56, 57, 58, 59, 60, 61, 62, 63, 64, 65, 66, 67, 68, 69, 70, 71, 72, 73, 74, 75, 76, 77, 78, 79, 80, 81, 82, 83, 84, 85, 86, 87, 88, 89, 90, 91, 92, 93, 94, 95, 96, 97, 98] (by decide +kernel) (by decide +kernel)
set_option maxRecDepth 20000 in
theorem gX6_pi_X6_isFormula : GoodIn wsX6_pi (wsV RX6 145 RX6 yX6_isFormula wsX6_isFormula) := goodIn_app (goodIn_of _ (by decide +kernel)) ggX6_pi_X6_isFormula
theorem dX6_pi_0 : decode cX6_pi 0 = .ok (.aload_n 0, 1) := by decide +kernel
theorem dX6_pi_1 : decode cX6_pi 1 = .ok (.iconst 0, 1) := by decide +kernel
theorem dX6_pi_2 : decode cX6_pi 2 = .ok (.putfield 81, 3) := by decide +kernel
theorem dX6_pi_5 : decode cX6_pi 5 = .ok (.aload_n 0, 1) := by decide +kernel
theorem dX6_pi_6 : decode cX6_pi 6 = .ok (.invokevirtual 145, 3) := by decide +kernel
theorem dX6_pi_9 : decode cX6_pi 9 = .ok (.ifCond .eq 17, 3) := by decide +kernel
theorem dX6_pi_12 : decode cX6_pi 12 = .ok (.aload_n 0, 1) := by decide +kernel
theorem dX6_pi_13 : decode cX6_pi 13 = .ok (.getfield 32, 3) := by decide +kernel
theorem dX6_pi_16 : decode cX6_pi 16 = .ok (.aload_n 0, 1) := by decide +kernel
theorem dX6_pi_17 : decode cX6_pi 17 = .ok (.getfield 103, 3) := by decide +kernel
theorem dX6_pi_20 : decode cX6_pi 20 = .ok (.iconst 1, 1) := by decide +kernel
theorem dX6_pi_21 : decode cX6_pi 21 = .ok (.isub, 1) := by decide +kernel
theorem dX6_pi_22 : decode cX6_pi 22 = .ok (.iaload, 1) := by decide +kernel
theorem dX6_pi_23 : decode cX6_pi 23 = .ok (.goto 4, 3) := by decide +kernel
theorem dX6_pi_26 : decode cX6_pi 26 = .ok (.iconst (-1), 1) := by decide +kernel
theorem dX6_pi_27 : decode cX6_pi 27 = .ok (.ireturn, 1) := by decide +kernel
set_option maxRecDepth 20000 in
theorem ggX6_free_X6_isFormula : GoodIn wsX6_free wsX6_isFormula := goodIn_r _ [8, 9, 10, 11, 12, 13, 7, 14, 3, 15, 16, 17, 18, 19, 20, 21, 22, 23, 24, 25, 26, 27, 28, 29, 30, 31, 32, 33, 34, 35, 36, 37, 38, 39, 40, 41, 42, 43, 44, 45, 46, 47, 48, 49, 50, 51, 52, 53, 54, 55, 2, 56, 57, 58, 59, 60, 61, 62, 63, 64, 65, 66, 67, 68, 69, 70, 71, 72, 73, 74, 75, 76, 77, 78, 79, 80, 81, 82, 83, 84, 85, 86, 87, 88, 89, 90, 91, 92, 93, 94, 95, 96, 97, 98] (by decide +kernel) (by decide +kernel)
set_option maxRecDepth 20000 in
theorem gX6_free_X6_isFormula : GoodIn wsX6_free (wsV RX6 145 RX6 yX6_isFormula wsX6_isFormula) := goodIn_app (goodIn_of _ (by decide +kernel)) ggX6_free_X6_isFormula
theorem dX6_free_0 : decode cX6_free 0 = .ok (.aload_n 0, 1) := by decide +kernel
theorem dX6_free_1 : decode cX6_free 1 = .ok (.iconst 0, 1) := by decide +kernel
theorem dX6_free_2 : decode cX6_free 2 = .ok (.putfield 81, 3) := by decide +kernel
theorem dX6_free_5 : decode cX6_free 5 = .ok (.aload_n 0, 1) := by decide +kernel
theorem dX6_free_6 : decode cX6_free 6 = .ok (.invokevirtual 145, 3) := by decide +kernel
theorem dX6_free_9 : decode cX6_free 9 = .ok (.ifCond .eq 17, 3) := by decide +kernel
theorem dX6_free_12 : decode cX6_free 12 = .ok (.aload_n 0, 1) := by decide +kernel
theorem dX6_free_13 : decode cX6_free 13 = .ok (.getfield 35, 3) := by decide +kernel
theorem dX6_free_16 : decode cX6_free 16 = .ok (.aload_n 0, 1) := by decide +kernel
theorem dX6_free_17 : decode cX6_free 17 = .ok (.getfield 103, 3) := by decide +kernel
theorem dX6_free_20 : decode cX6_free 20 = .ok (.iconst 1, 1) := by decide +kernel
theorem dX6_free_21 : decode cX6_free 21 = .ok (.isub, 1) := by decide +kernel
theorem dX6_free_22 : decode cX6_free 22 = .ok (.iaload, 1) := by decide +kernel
theorem dX6_free_23 : decode cX6_free 23 = .ok (.goto 4, 3) := by decide +kernel
theorem dX6_free_26 : decode cX6_free 26 = .ok (.iconst (-1), 1) := by decide +kernel
theorem dX6_free_27 : decode cX6_free 27 = .ok (.ireturn, 1) := by decide +kernel
theorem dX6_power_0 : decode cX6_power 0 = .ok (.iload_n 0, 1) := by decide +kernel
theorem dX6_power_1 : decode cX6_power 1 = .ok (.ifCond .ne 7, 3) := by decide +kernel
theorem dX6_power_4 : decode cX6_power 4 = .ok (.iconst 1, 1) := by decide +kernel
theorem dX6_power_5 : decode cX6_power 5 = .ok (.goto 14, 3) := by decide +kernel
theorem dX6_power_8 : decode cX6_power 8 = .ok (.iload_n 0, 1) := by decide +kernel
theorem dX6_power_9 : decode cX6_power 9 = .ok (.iconst 1, 1) := by decide +kernel
theorem dX6_power_10 : decode cX6_power 10 = .ok (.if_icmp .ne 7, 3) := by decide +kernel
theorem dX6_power_13 : decode cX6_power 13 = .ok (.iconst 5, 1) := by decide +kernel
theorem dX6_power_14 : decode cX6_power 14 = .ok (.goto 5, 3) := by decide +kernel
theorem dX6_power_17 : decode cX6_power 17 = .ok (.bipush 25, 2) := by decide +kernel
theorem dX6_power_19 : decode cX6_power 19 = .ok (.ireturn, 1) := by decide +kernel
set_option maxRecDepth 20000 in
theorem ggX6_numberAt_X6_power : GoodIn wsX6_numberAt wsX6_power := goodIn_r _ [4] (by decide +kernel) (by decide +kernel)
set_option maxRecDepth 20000 in
theorem gX6_numberAt_X6_power : GoodIn wsX6_numberAt (va_wsS RX6 149 yX6_power wsX6_power) := goodIn_app (goodIn_of _ (by decide +kernel)) ggX6_numberAt_X6_power
theorem dX6_numberAt_0 : decode cX6_numberAt 0 = .ok (.iload_n 0, 1) := by decide +kernel
theorem dX6_numberAt_1 : decode cX6_numberAt 1 = .ok (.iload_n 1, 1) := by decide +kernel
theorem dX6_numberAt_2 : decode cX6_numberAt 2 = .ok (.invokestatic 149, 3) := by decide +kernel
theorem dX6_numberAt_5 : decode cX6_numberAt 5 = .ok (.idiv, 1) := by decide +kernel
theorem dX6_numberAt_6 : decode cX6_numberAt 6 = .ok (.iconst 5, 1) := by decide +kernel
theorem dX6_numberAt_7 : decode cX6_numberAt 7 = .ok (.irem, 1) := by decide +kernel
theorem dX6_numberAt_8 : decode cX6_numberAt 8 = .ok (.ireturn, 1) := by decide +kernel
set_option maxRecDepth 20000 in
theorem ggX6_isPartSo_X6_numberAt : GoodIn wsX6_isPartSo wsX6_numberAt := goodIn_r _ [10, 11, 12, 9, 13] (by decide +kernel) (by decide +kernel)
set_option maxRecDepth 20000 in
theorem gX6_isPartSo_X6_numberAt : GoodIn wsX6_isPartSo (va_wsS RX6 153 yX6_numberAt wsX6_numberAt) := goodIn_app (goodIn_of _ (by decide +kernel)) ggX6_isPartSo_X6_numberAt
set_option maxRecDepth 20000 in
theorem ggX6_isPartSo_X6_isSoFor : GoodIn wsX6_isPartSo wsX6_isSoFor := goodIn_r _ [17, 4, 6, 5, 2, 1, 7, 8, 9, 10, 11, 12, 13, 18, 19, 20, 21, 22, 23, 24, 25, 26, 27, 28, 29, 30, 31, 32, 33, 34, 35, 36, 37, 38, 39, 40, 41, 42, 43, 44, 45, 46, 47, 48, 49] (by decide +kernel) (by decide +kernel)
set_option maxRecDepth 20000 in
theorem gX6_isPartSo_X6_isSoFor : GoodIn wsX6_isPartSo (wsV RX6 156 RX6 yX6_isSoFor wsX6_isSoFor) := goodIn_app (goodIn_of _ (by decide +kernel)) ggX6_isPartSo_X6_isSoFor
theorem dX6_isPartSo_0 : decode cX6_isPartSo 0 = .ok (.aload_n 0, 1) := by decide +kernel
theorem dX6_isPartSo_1 : decode cX6_isPartSo 1 = .ok (.getfield 17, 3) := by decide +kernel
theorem dX6_isPartSo_4 : decode cX6_isPartSo 4 = .ok (.iload_n 1, 1) := by decide +kernel
theorem dX6_isPartSo_5 : decode cX6_isPartSo 5 = .ok (.iaload, 1) := by decide +kernel
theorem dX6_isPartSo_6 : decode cX6_isPartSo 6 = .ok (.iconst (-1), 1) := by decide +kernel
theorem dX6_isPartSo_7 : decode cX6_isPartSo 7 = .ok (.if_icmp .eq 26, 3) := by decide +kernel
theorem dX6_isPartSo_10 : decode cX6_isPartSo 10 = .ok (.aload_n 0, 1) := by decide +kernel
theorem dX6_isPartSo_11 : decode cX6_isPartSo 11 = .ok (.getfield 47, 3) := by decide +kernel
theorem dX6_isPartSo_14 : decode cX6_isPartSo 14 = .ok (.bipush 125, 2) := by decide +kernel
theorem dX6_isPartSo_16 : decode cX6_isPartSo 16 = .ok (.aload_n 0, 1) := by decide +kernel
theorem dX6_isPartSo_17 : decode cX6_isPartSo 17 = .ok (.getfield 17, 3) := by decide +kernel
theorem dX6_isPartSo_20 : decode cX6_isPartSo 20 = .ok (.iload_n 1, 1) := by decide +kernel
theorem dX6_isPartSo_21 : decode cX6_isPartSo 21 = .ok (.iaload, 1) := by decide +kernel
theorem dX6_isPartSo_22 : decode cX6_isPartSo 22 = .ok (.imul, 1) := by decide +kernel
theorem dX6_isPartSo_23 : decode cX6_isPartSo 23 = .ok (.iload_n 2, 1) := by decide +kernel
theorem dX6_isPartSo_24 : decode cX6_isPartSo 24 = .ok (.iadd, 1) := by decide +kernel
theorem dX6_isPartSo_25 : decode cX6_isPartSo 25 = .ok (.baload, 1) := by decide +kernel
theorem dX6_isPartSo_26 : decode cX6_isPartSo 26 = .ok (.ifCond .eq 7, 3) := by decide +kernel
theorem dX6_isPartSo_29 : decode cX6_isPartSo 29 = .ok (.iconst 1, 1) := by decide +kernel
theorem dX6_isPartSo_30 : decode cX6_isPartSo 30 = .ok (.goto 4, 3) := by decide +kernel
theorem dX6_isPartSo_33 : decode cX6_isPartSo 33 = .ok (.iconst 0, 1) := by decide +kernel
theorem dX6_isPartSo_34 : decode cX6_isPartSo 34 = .ok (.istore 4, 2) := by decide +kernel
theorem dX6_isPartSo_36 : decode cX6_isPartSo 36 = .ok (.aload_n 0, 1) := by decide +kernel
theorem dX6_isPartSo_37 : decode cX6_isPartSo 37 = .ok (.getfield 20, 3) := by decide +kernel
theorem dX6_isPartSo_40 : decode cX6_isPartSo 40 = .ok (.iload_n 1, 1) := by decide +kernel
theorem dX6_isPartSo_41 : decode cX6_isPartSo 41 = .ok (.iaload, 1) := by decide +kernel
theorem dX6_isPartSo_42 : decode cX6_isPartSo 42 = .ok (.iconst (-1), 1) := by decide +kernel
theorem dX6_isPartSo_43 : decode cX6_isPartSo 43 = .ok (.if_icmp .eq 26, 3) := by decide +kernel
theorem dX6_isPartSo_46 : decode cX6_isPartSo 46 = .ok (.aload_n 0, 1) := by decide +kernel
theorem dX6_isPartSo_47 : decode cX6_isPartSo 47 = .ok (.getfield 47, 3) := by decide +kernel
theorem dX6_isPartSo_50 : decode cX6_isPartSo 50 = .ok (.bipush 125, 2) := by decide +kernel
theorem dX6_isPartSo_52 : decode cX6_isPartSo 52 = .ok (.aload_n 0, 1) := by decide +kernel
theorem dX6_isPartSo_53 : decode cX6_isPartSo 53 = .ok (.getfield 20, 3) := by decide +kernel
theorem dX6_isPartSo_56 : decode cX6_isPartSo 56 = .ok (.iload_n 1, 1) := by decide +kernel
theorem dX6_isPartSo_57 : decode cX6_isPartSo 57 = .ok (.iaload, 1) := by decide +kernel
theorem dX6_isPartSo_58 : decode cX6_isPartSo 58 = .ok (.imul, 1) := by decide +kernel
theorem dX6_isPartSo_59 : decode cX6_isPartSo 59 = .ok (.iload_n 2, 1) := by decide +kernel
theorem dX6_isPartSo_60 : decode cX6_isPartSo 60 = .ok (.iadd, 1) := by decide +kernel
theorem dX6_isPartSo_61 : decode cX6_isPartSo 61 = .ok (.baload, 1) := by decide +kernel
theorem dX6_isPartSo_62 : decode cX6_isPartSo 62 = .ok (.ifCond .eq 7, 3) := by decide +kernel
theorem dX6_isPartSo_65 : decode cX6_isPartSo 65 = .ok (.iconst 1, 1) := by decide +kernel
theorem dX6_isPartSo_66 : decode cX6_isPartSo 66 = .ok (.goto 4, 3) := by decide +kernel
theorem dX6_isPartSo_69 : decode cX6_isPartSo 69 = .ok (.iconst 0, 1) := by decide +kernel
theorem dX6_isPartSo_70 : decode cX6_isPartSo 70 = .ok (.istore 5, 2) := by decide +kernel
theorem dX6_isPartSo_72 : decode cX6_isPartSo 72 = .ok (.aload_n 0, 1) := by decide +kernel
theorem dX6_isPartSo_73 : decode cX6_isPartSo 73 = .ok (.getfield 13, 3) := by decide +kernel
theorem dX6_isPartSo_76 : decode cX6_isPartSo 76 = .ok (.iload_n 1, 1) := by decide +kernel
theorem dX6_isPartSo_77 : decode cX6_isPartSo 77 = .ok (.iaload, 1) := by decide +kernel
theorem dX6_isPartSo_78 : decode cX6_isPartSo 78 = .ok (.tableswitch 155 0 5 #[38, 67, 96, 107, 123, 139], 38) := by decide +kernel
theorem dX6_isPartSo_116 : decode cX6_isPartSo 116 = .ok (.iload_n 2, 1) := by decide +kernel
theorem dX6_isPartSo_117 : decode cX6_isPartSo 117 = .ok (.aload_n 0, 1) := by decide +kernel
theorem dX6_isPartSo_118 : decode cX6_isPartSo 118 = .ok (.getfield 23, 3) := by decide +kernel
theorem dX6_isPartSo_121 : decode cX6_isPartSo 121 = .ok (.iload_n 1, 1) := by decide +kernel
theorem dX6_isPartSo_122 : decode cX6_isPartSo 122 = .ok (.iaload, 1) := by decide +kernel
theorem dX6_isPartSo_123 : decode cX6_isPartSo 123 = .ok (.invokestatic 153, 3) := by decide +kernel
theorem dX6_isPartSo_126 : decode cX6_isPartSo 126 = .ok (.iload_n 2, 1) := by decide +kernel
theorem dX6_isPartSo_127 : decode cX6_isPartSo 127 = .ok (.aload_n 0, 1) := by decide +kernel
theorem dX6_isPartSo_128 : decode cX6_isPartSo 128 = .ok (.getfield 26, 3) := by decide +kernel
theorem dX6_isPartSo_131 : decode cX6_isPartSo 131 = .ok (.iload_n 1, 1) := by decide +kernel
theorem dX6_isPartSo_132 : decode cX6_isPartSo 132 = .ok (.iaload, 1) := by decide +kernel
theorem dX6_isPartSo_133 : decode cX6_isPartSo 133 = .ok (.invokestatic 153, 3) := by decide +kernel
theorem dX6_isPartSo_136 : decode cX6_isPartSo 136 = .ok (.if_icmp .ge 7, 3) := by decide +kernel
theorem dX6_isPartSo_139 : decode cX6_isPartSo 139 = .ok (.iconst 1, 1) := by decide +kernel
theorem dX6_isPartSo_140 : decode cX6_isPartSo 140 = .ok (.goto 4, 3) := by decide +kernel
theorem dX6_isPartSo_143 : decode cX6_isPartSo 143 = .ok (.iconst 0, 1) := by decide +kernel
theorem dX6_isPartSo_144 : decode cX6_isPartSo 144 = .ok (.ireturn, 1) := by decide +kernel
theorem dX6_isPartSo_145 : decode cX6_isPartSo 145 = .ok (.iload_n 2, 1) := by decide +kernel
theorem dX6_isPartSo_146 : decode cX6_isPartSo 146 = .ok (.aload_n 0, 1) := by decide +kernel
theorem dX6_isPartSo_147 : decode cX6_isPartSo 147 = .ok (.getfield 23, 3) := by decide +kernel
theorem dX6_isPartSo_150 : decode cX6_isPartSo 150 = .ok (.iload_n 1, 1) := by decide +kernel
theorem dX6_isPartSo_151 : decode cX6_isPartSo 151 = .ok (.iaload, 1) := by decide +kernel
theorem dX6_isPartSo_152 : decode cX6_isPartSo 152 = .ok (.invokestatic 153, 3) := by decide +kernel
theorem dX6_isPartSo_155 : decode cX6_isPartSo 155 = .ok (.iload_n 2, 1) := by decide +kernel
theorem dX6_isPartSo_156 : decode cX6_isPartSo 156 = .ok (.aload_n 0, 1) := by decide +kernel
theorem dX6_isPartSo_157 : decode cX6_isPartSo 157 = .ok (.getfield 26, 3) := by decide +kernel
theorem dX6_isPartSo_160 : decode cX6_isPartSo 160 = .ok (.iload_n 1, 1) := by decide +kernel
theorem dX6_isPartSo_161 : decode cX6_isPartSo 161 = .ok (.iaload, 1) := by decide +kernel
theorem dX6_isPartSo_162 : decode cX6_isPartSo 162 = .ok (.invokestatic 153, 3) := by decide +kernel
theorem dX6_isPartSo_165 : decode cX6_isPartSo 165 = .ok (.if_icmp .ne 7, 3) := by decide +kernel
theorem dX6_isPartSo_168 : decode cX6_isPartSo 168 = .ok (.iconst 1, 1) := by decide +kernel
theorem dX6_isPartSo_169 : decode cX6_isPartSo 169 = .ok (.goto 4, 3) := by decide +kernel
theorem dX6_isPartSo_172 : decode cX6_isPartSo 172 = .ok (.iconst 0, 1) := by decide +kernel
theorem dX6_isPartSo_173 : decode cX6_isPartSo 173 = .ok (.ireturn, 1) := by decide +kernel
theorem dX6_isPartSo_174 : decode cX6_isPartSo 174 = .ok (.iload 4, 2) := by decide +kernel
theorem dX6_isPartSo_176 : decode cX6_isPartSo 176 = .ok (.ifCond .ne 7, 3) := by decide +kernel
theorem dX6_isPartSo_179 : decode cX6_isPartSo 179 = .ok (.iconst 1, 1) := by decide +kernel
theorem dX6_isPartSo_180 : decode cX6_isPartSo 180 = .ok (.goto 4, 3) := by decide +kernel
theorem dX6_isPartSo_183 : decode cX6_isPartSo 183 = .ok (.iconst 0, 1) := by decide +kernel
theorem dX6_isPartSo_184 : decode cX6_isPartSo 184 = .ok (.ireturn, 1) := by decide +kernel
theorem dX6_isPartSo_185 : decode cX6_isPartSo 185 = .ok (.iload 4, 2) := by decide +kernel
theorem dX6_isPartSo_187 : decode cX6_isPartSo 187 = .ok (.ifCond .eq 12, 3) := by decide +kernel
theorem dX6_isPartSo_190 : decode cX6_isPartSo 190 = .ok (.iload 5, 2) := by decide +kernel
theorem dX6_isPartSo_192 : decode cX6_isPartSo 192 = .ok (.ifCond .eq 7, 3) := by decide +kernel
theorem dX6_isPartSo_195 : decode cX6_isPartSo 195 = .ok (.iconst 1, 1) := by decide +kernel
theorem dX6_isPartSo_196 : decode cX6_isPartSo 196 = .ok (.goto 4, 3) := by decide +kernel
theorem dX6_isPartSo_199 : decode cX6_isPartSo 199 = .ok (.iconst 0, 1) := by decide +kernel
theorem dX6_isPartSo_200 : decode cX6_isPartSo 200 = .ok (.ireturn, 1) := by decide +kernel
theorem dX6_isPartSo_201 : decode cX6_isPartSo 201 = .ok (.iload 4, 2) := by decide +kernel
theorem dX6_isPartSo_203 : decode cX6_isPartSo 203 = .ok (.ifCond .ne 8, 3) := by decide +kernel
theorem dX6_isPartSo_206 : decode cX6_isPartSo 206 = .ok (.iload 5, 2) := by decide +kernel
theorem dX6_isPartSo_208 : decode cX6_isPartSo 208 = .ok (.ifCond .eq 7, 3) := by decide +kernel
theorem dX6_isPartSo_211 : decode cX6_isPartSo 211 = .ok (.iconst 1, 1) := by decide +kernel
theorem dX6_isPartSo_212 : decode cX6_isPartSo 212 = .ok (.goto 4, 3) := by decide +kernel
theorem dX6_isPartSo_215 : decode cX6_isPartSo 215 = .ok (.iconst 0, 1) := by decide +kernel
theorem dX6_isPartSo_216 : decode cX6_isPartSo 216 = .ok (.ireturn, 1) := by decide +kernel
theorem dX6_isPartSo_217 : decode cX6_isPartSo 217 = .ok (.iload 4, 2) := by decide +kernel
theorem dX6_isPartSo_219 : decode cX6_isPartSo 219 = .ok (.ifCond .eq 8, 3) := by decide +kernel
theorem dX6_isPartSo_222 : decode cX6_isPartSo 222 = .ok (.iload 5, 2) := by decide +kernel
theorem dX6_isPartSo_224 : decode cX6_isPartSo 224 = .ok (.ifCond .eq 7, 3) := by decide +kernel
theorem dX6_isPartSo_227 : decode cX6_isPartSo 227 = .ok (.iconst 1, 1) := by decide +kernel
theorem dX6_isPartSo_228 : decode cX6_isPartSo 228 = .ok (.goto 4, 3) := by decide +kernel
theorem dX6_isPartSo_231 : decode cX6_isPartSo 231 = .ok (.iconst 0, 1) := by decide +kernel
theorem dX6_isPartSo_232 : decode cX6_isPartSo 232 = .ok (.ireturn, 1) := by decide +kernel
theorem dX6_isPartSo_233 : decode cX6_isPartSo 233 = .ok (.aload_n 0, 1) := by decide +kernel
theorem dX6_isPartSo_234 : decode cX6_isPartSo 234 = .ok (.iload_n 1, 1) := by decide +kernel
theorem dX6_isPartSo_235 : decode cX6_isPartSo 235 = .ok (.iload_n 2, 1) := by decide +kernel
theorem dX6_isPartSo_236 : decode cX6_isPartSo 236 = .ok (.iload_n 3, 1) := by decide +kernel
theorem dX6_isPartSo_237 : decode cX6_isPartSo 237 = .ok (.invokevirtual 156, 3) := by decide +kernel
theorem dX6_isPartSo_240 : decode cX6_isPartSo 240 = .ok (.ireturn, 1) := by decide +kernel
set_option maxRecDepth 20000 in
theorem ggX6_isSoFor_X6_numberAt : GoodIn wsX6_isSoFor wsX6_numberAt := goodIn_r _ [9, 10, 11, 8, 12] (by decide +kernel) (by decide +kernel)
set_option maxRecDepth 20000 in
theorem gX6_isSoFor_X6_numberAt : GoodIn wsX6_isSoFor (va_wsS RX6 153 yX6_numberAt wsX6_numberAt) := goodIn_app (goodIn_of _ (by decide +kernel)) ggX6_isSoFor_X6_numberAt
set_option maxRecDepth 20000 in
theorem ggX6_isSoFor_X6_power : GoodIn wsX6_isSoFor wsX6_power := goodIn_r _ [12] (by decide +kernel) (by decide +kernel)
set_option maxRecDepth 20000 in
theorem gX6_isSoFor_X6_power : GoodIn wsX6_isSoFor (va_wsS RX6 149 yX6_power wsX6_power) := goodIn_app (goodIn_of _ (by decide +kernel)) ggX6_isSoFor_X6_power
theorem dX6_isSoFor_0 : decode cX6_isSoFor 0 = .ok (.aload_n 0, 1) := by decide +kernel
theorem dX6_isSoFor_1 : decode cX6_isSoFor 1 = .ok (.getfield 13, 3) := by decide +kernel
theorem dX6_isSoFor_4 : decode cX6_isSoFor 4 = .ok (.iload_n 1, 1) := by decide +kernel
theorem dX6_isSoFor_5 : decode cX6_isSoFor 5 = .ok (.iaload, 1) := by decide +kernel
theorem dX6_isSoFor_6 : decode cX6_isSoFor 6 = .ok (.bipush 6, 2) := by decide +kernel
theorem dX6_isSoFor_8 : decode cX6_isSoFor 8 = .ok (.if_icmp .eq 14, 3) := by decide +kernel
theorem dX6_isSoFor_11 : decode cX6_isSoFor 11 = .ok (.aload_n 0, 1) := by decide +kernel
theorem dX6_isSoFor_12 : decode cX6_isSoFor 12 = .ok (.getfield 13, 3) := by decide +kernel
theorem dX6_isSoFor_15 : decode cX6_isSoFor 15 = .ok (.iload_n 1, 1) := by decide +kernel
theorem dX6_isSoFor_16 : decode cX6_isSoFor 16 = .ok (.iaload, 1) := by decide +kernel
theorem dX6_isSoFor_17 : decode cX6_isSoFor 17 = .ok (.bipush 8, 2) := by decide +kernel
theorem dX6_isSoFor_19 : decode cX6_isSoFor 19 = .ok (.if_icmp .ne 7, 3) := by decide +kernel
theorem dX6_isSoFor_22 : decode cX6_isSoFor 22 = .ok (.iconst 1, 1) := by decide +kernel
theorem dX6_isSoFor_23 : decode cX6_isSoFor 23 = .ok (.goto 4, 3) := by decide +kernel
theorem dX6_isSoFor_26 : decode cX6_isSoFor 26 = .ok (.iconst 0, 1) := by decide +kernel
theorem dX6_isSoFor_27 : decode cX6_isSoFor 27 = .ok (.istore 4, 2) := by decide +kernel
theorem dX6_isSoFor_29 : decode cX6_isSoFor 29 = .ok (.aload_n 0, 1) := by decide +kernel
theorem dX6_isSoFor_30 : decode cX6_isSoFor 30 = .ok (.getfield 13, 3) := by decide +kernel
theorem dX6_isSoFor_33 : decode cX6_isSoFor 33 = .ok (.iload_n 1, 1) := by decide +kernel
theorem dX6_isSoFor_34 : decode cX6_isSoFor 34 = .ok (.iaload, 1) := by decide +kernel
theorem dX6_isSoFor_35 : decode cX6_isSoFor 35 = .ok (.bipush 8, 2) := by decide +kernel
theorem dX6_isSoFor_37 : decode cX6_isSoFor 37 = .ok (.if_icmp .ge 7, 3) := by decide +kernel
theorem dX6_isSoFor_40 : decode cX6_isSoFor 40 = .ok (.iload_n 3, 1) := by decide +kernel
theorem dX6_isSoFor_41 : decode cX6_isSoFor 41 = .ok (.goto 13, 3) := by decide +kernel
theorem dX6_isSoFor_44 : decode cX6_isSoFor 44 = .ok (.iload_n 2, 1) := by decide +kernel
theorem dX6_isSoFor_45 : decode cX6_isSoFor 45 = .ok (.aload_n 0, 1) := by decide +kernel
theorem dX6_isSoFor_46 : decode cX6_isSoFor 46 = .ok (.getfield 26, 3) := by decide +kernel
theorem dX6_isSoFor_49 : decode cX6_isSoFor 49 = .ok (.iload_n 1, 1) := by decide +kernel
theorem dX6_isSoFor_50 : decode cX6_isSoFor 50 = .ok (.iaload, 1) := by decide +kernel
theorem dX6_isSoFor_51 : decode cX6_isSoFor 51 = .ok (.invokestatic 153, 3) := by decide +kernel
theorem dX6_isSoFor_54 : decode cX6_isSoFor 54 = .ok (.istore 5, 2) := by decide +kernel
theorem dX6_isSoFor_56 : decode cX6_isSoFor 56 = .ok (.iload_n 2, 1) := by decide +kernel
theorem dX6_isSoFor_57 : decode cX6_isSoFor 57 = .ok (.iload_n 2, 1) := by decide +kernel
theorem dX6_isSoFor_58 : decode cX6_isSoFor 58 = .ok (.aload_n 0, 1) := by decide +kernel
theorem dX6_isSoFor_59 : decode cX6_isSoFor 59 = .ok (.getfield 23, 3) := by decide +kernel
theorem dX6_isSoFor_62 : decode cX6_isSoFor 62 = .ok (.iload_n 1, 1) := by decide +kernel
theorem dX6_isSoFor_63 : decode cX6_isSoFor 63 = .ok (.iaload, 1) := by decide +kernel
theorem dX6_isSoFor_64 : decode cX6_isSoFor 64 = .ok (.invokestatic 153, 3) := by decide +kernel
theorem dX6_isSoFor_67 : decode cX6_isSoFor 67 = .ok (.aload_n 0, 1) := by decide +kernel
theorem dX6_isSoFor_68 : decode cX6_isSoFor 68 = .ok (.getfield 23, 3) := by decide +kernel
theorem dX6_isSoFor_71 : decode cX6_isSoFor 71 = .ok (.iload_n 1, 1) := by decide +kernel
theorem dX6_isSoFor_72 : decode cX6_isSoFor 72 = .ok (.iaload, 1) := by decide +kernel
theorem dX6_isSoFor_73 : decode cX6_isSoFor 73 = .ok (.invokestatic 149, 3) := by decide +kernel
theorem dX6_isSoFor_76 : decode cX6_isSoFor 76 = .ok (.imul, 1) := by decide +kernel
theorem dX6_isSoFor_77 : decode cX6_isSoFor 77 = .ok (.isub, 1) := by decide +kernel
theorem dX6_isSoFor_78 : decode cX6_isSoFor 78 = .ok (.istore 6, 2) := by decide +kernel
theorem dX6_isSoFor_80 : decode cX6_isSoFor 80 = .ok (.iload 4, 2) := by decide +kernel
theorem dX6_isSoFor_82 : decode cX6_isSoFor 82 = .ok (.istore 7, 2) := by decide +kernel
theorem dX6_isSoFor_84 : decode cX6_isSoFor 84 = .ok (.iconst 0, 1) := by decide +kernel
theorem dX6_isSoFor_85 : decode cX6_isSoFor 85 = .ok (.istore 8, 2) := by decide +kernel
theorem dX6_isSoFor_87 : decode cX6_isSoFor 87 = .ok (.iload 8, 2) := by decide +kernel
theorem dX6_isSoFor_89 : decode cX6_isSoFor 89 = .ok (.iload 5, 2) := by decide +kernel
theorem dX6_isSoFor_91 : decode cX6_isSoFor 91 = .ok (.if_icmp .ge 81, 3) := by decide +kernel
theorem dX6_isSoFor_94 : decode cX6_isSoFor 94 = .ok (.aload_n 0, 1) := by decide +kernel
theorem dX6_isSoFor_95 : decode cX6_isSoFor 95 = .ok (.getfield 47, 3) := by decide +kernel
theorem dX6_isSoFor_98 : decode cX6_isSoFor 98 = .ok (.bipush 125, 2) := by decide +kernel
theorem dX6_isSoFor_100 : decode cX6_isSoFor 100 = .ok (.aload_n 0, 1) := by decide +kernel
theorem dX6_isSoFor_101 : decode cX6_isSoFor 101 = .ok (.getfield 17, 3) := by decide +kernel
theorem dX6_isSoFor_104 : decode cX6_isSoFor 104 = .ok (.iload_n 1, 1) := by decide +kernel
theorem dX6_isSoFor_105 : decode cX6_isSoFor 105 = .ok (.iaload, 1) := by decide +kernel
theorem dX6_isSoFor_106 : decode cX6_isSoFor 106 = .ok (.imul, 1) := by decide +kernel
theorem dX6_isSoFor_107 : decode cX6_isSoFor 107 = .ok (.iload 6, 2) := by decide +kernel
theorem dX6_isSoFor_109 : decode cX6_isSoFor 109 = .ok (.iadd, 1) := by decide +kernel
theorem dX6_isSoFor_110 : decode cX6_isSoFor 110 = .ok (.iload 8, 2) := by decide +kernel
theorem dX6_isSoFor_112 : decode cX6_isSoFor 112 = .ok (.aload_n 0, 1) := by decide +kernel
theorem dX6_isSoFor_113 : decode cX6_isSoFor 113 = .ok (.getfield 23, 3) := by decide +kernel
theorem dX6_isSoFor_116 : decode cX6_isSoFor 116 = .ok (.iload_n 1, 1) := by decide +kernel
theorem dX6_isSoFor_117 : decode cX6_isSoFor 117 = .ok (.iaload, 1) := by decide +kernel
theorem dX6_isSoFor_118 : decode cX6_isSoFor 118 = .ok (.invokestatic 149, 3) := by decide +kernel
theorem dX6_isSoFor_121 : decode cX6_isSoFor 121 = .ok (.imul, 1) := by decide +kernel
theorem dX6_isSoFor_122 : decode cX6_isSoFor 122 = .ok (.iadd, 1) := by decide +kernel
theorem dX6_isSoFor_123 : decode cX6_isSoFor 123 = .ok (.baload, 1) := by decide +kernel
theorem dX6_isSoFor_124 : decode cX6_isSoFor 124 = .ok (.istore 9, 2) := by decide +kernel
theorem dX6_isSoFor_126 : decode cX6_isSoFor 126 = .ok (.iload 4, 2) := by decide +kernel
theorem dX6_isSoFor_128 : decode cX6_isSoFor 128 = .ok (.ifCond .eq 21, 3) := by decide +kernel
theorem dX6_isSoFor_131 : decode cX6_isSoFor 131 = .ok (.iload 7, 2) := by decide +kernel
theorem dX6_isSoFor_133 : decode cX6_isSoFor 133 = .ok (.ifCond .eq 12, 3) := by decide +kernel
theorem dX6_isSoFor_136 : decode cX6_isSoFor 136 = .ok (.iload 9, 2) := by decide +kernel
theorem dX6_isSoFor_138 : decode cX6_isSoFor 138 = .ok (.ifCond .eq 7, 3) := by decide +kernel
theorem dX6_isSoFor_141 : decode cX6_isSoFor 141 = .ok (.iconst 1, 1) := by decide +kernel
theorem dX6_isSoFor_142 : decode cX6_isSoFor 142 = .ok (.goto 22, 3) := by decide +kernel
theorem dX6_isSoFor_145 : decode cX6_isSoFor 145 = .ok (.iconst 0, 1) := by decide +kernel
theorem dX6_isSoFor_146 : decode cX6_isSoFor 146 = .ok (.goto 18, 3) := by decide +kernel
theorem dX6_isSoFor_149 : decode cX6_isSoFor 149 = .ok (.iload 7, 2) := by decide +kernel
theorem dX6_isSoFor_151 : decode cX6_isSoFor 151 = .ok (.ifCond .ne 8, 3) := by decide +kernel
theorem dX6_isSoFor_154 : decode cX6_isSoFor 154 = .ok (.iload 9, 2) := by decide +kernel
theorem dX6_isSoFor_156 : decode cX6_isSoFor 156 = .ok (.ifCond .eq 7, 3) := by decide +kernel
theorem dX6_isSoFor_159 : decode cX6_isSoFor 159 = .ok (.iconst 1, 1) := by decide +kernel
theorem dX6_isSoFor_160 : decode cX6_isSoFor 160 = .ok (.goto 4, 3) := by decide +kernel
theorem dX6_isSoFor_163 : decode cX6_isSoFor 163 = .ok (.iconst 0, 1) := by decide +kernel
theorem dX6_isSoFor_164 : decode cX6_isSoFor 164 = .ok (.istore 7, 2) := by decide +kernel
theorem dX6_isSoFor_166 : decode cX6_isSoFor 166 = .ok (.iinc 8 1, 3) := by decide +kernel
theorem dX6_isSoFor_169 : decode cX6_isSoFor 169 = .ok (.goto (-82), 3) := by decide +kernel
theorem dX6_isSoFor_172 : decode cX6_isSoFor 172 = .ok (.iload 7, 2) := by decide +kernel
theorem dX6_isSoFor_174 : decode cX6_isSoFor 174 = .ok (.ireturn, 1) := by decide +kernel
set_option maxRecDepth 20000 in
theorem ggX6_fill_X6_numberAt : GoodIn wsX6_fill wsX6_numberAt := goodIn_r _ [6, 7, 8, 5, 9] (by decide +kernel) (by decide +kernel)
set_option maxRecDepth 20000 in
theorem gX6_fill_X6_numberAt : GoodIn wsX6_fill (va_wsS RX6 153 yX6_numberAt wsX6_numberAt) := goodIn_app (goodIn_of _ (by decide +kernel)) ggX6_fill_X6_numberAt
set_option maxRecDepth 20000 in
theorem ggX6_fill_X6_isPartSo : GoodIn wsX6_fill wsX6_isPartSo := goodIn_r _ [13, 14, 2, 15, 16, 17, 18, 3, 4, 5, 6, 7, 8, 9, 19, 20, 21, 22, 23, 24, 25, 26, 27, 28, 29, 30, 31, 32, 33, 34, 35, 36, 37, 38, 39, 40, 41, 42, 43, 44, 45, 46, 47, 48, 49, 50, 51, 52, 53, 54] (by decide +kernel) (by decide +kernel)
set_option maxRecDepth 20000 in
theorem gX6_fill_X6_isPartSo : GoodIn wsX6_fill (wsV RX6 159 RX6 yX6_isPartSo wsX6_isPartSo) := goodIn_app (goodIn_of _ (by decide +kernel)) ggX6_fill_X6_isPartSo
theorem dX6_fill_0 : decode cX6_fill 0 = .ok (.iconst 0, 1) := by decide +kernel
theorem dX6_fill_1 : decode cX6_fill 1 = .ok (.istore_n 2, 1) := by decide +kernel
theorem dX6_fill_2 : decode cX6_fill 2 = .ok (.iload_n 2, 1) := by decide +kernel
theorem dX6_fill_3 : decode cX6_fill 3 = .ok (.aload_n 0, 1) := by decide +kernel
theorem dX6_fill_4 : decode cX6_fill 4 = .ok (.getfield 103, 3) := by decide +kernel
theorem dX6_fill_7 : decode cX6_fill 7 = .ok (.if_icmp .ge 88, 3) := by decide +kernel
theorem dX6_fill_10 : decode cX6_fill 10 = .ok (.iconst 0, 1) := by decide +kernel
theorem dX6_fill_11 : decode cX6_fill 11 = .ok (.istore_n 3, 1) := by decide +kernel
theorem dX6_fill_12 : decode cX6_fill 12 = .ok (.iload_n 3, 1) := by decide +kernel
theorem dX6_fill_13 : decode cX6_fill 13 = .ok (.bipush 125, 2) := by decide +kernel
theorem dX6_fill_15 : decode cX6_fill 15 = .ok (.if_icmp .ge 74, 3) := by decide +kernel
theorem dX6_fill_18 : decode cX6_fill 18 = .ok (.iload_n 3, 1) := by decide +kernel
theorem dX6_fill_19 : decode cX6_fill 19 = .ok (.iconst 0, 1) := by decide +kernel
theorem dX6_fill_20 : decode cX6_fill 20 = .ok (.invokestatic 153, 3) := by decide +kernel
theorem dX6_fill_23 : decode cX6_fill 23 = .ok (.iload_n 1, 1) := by decide +kernel
theorem dX6_fill_24 : decode cX6_fill 24 = .ok (.if_icmp .ge 25, 3) := by decide +kernel
theorem dX6_fill_27 : decode cX6_fill 27 = .ok (.iload_n 3, 1) := by decide +kernel
theorem dX6_fill_28 : decode cX6_fill 28 = .ok (.iconst 1, 1) := by decide +kernel
theorem dX6_fill_29 : decode cX6_fill 29 = .ok (.invokestatic 153, 3) := by decide +kernel
theorem dX6_fill_32 : decode cX6_fill 32 = .ok (.iload_n 1, 1) := by decide +kernel
theorem dX6_fill_33 : decode cX6_fill 33 = .ok (.if_icmp .ge 16, 3) := by decide +kernel
theorem dX6_fill_36 : decode cX6_fill 36 = .ok (.iload_n 3, 1) := by decide +kernel
theorem dX6_fill_37 : decode cX6_fill 37 = .ok (.iconst 2, 1) := by decide +kernel
theorem dX6_fill_38 : decode cX6_fill 38 = .ok (.invokestatic 153, 3) := by decide +kernel
theorem dX6_fill_41 : decode cX6_fill 41 = .ok (.iload_n 1, 1) := by decide +kernel
theorem dX6_fill_42 : decode cX6_fill 42 = .ok (.if_icmp .ge 7, 3) := by decide +kernel
theorem dX6_fill_45 : decode cX6_fill 45 = .ok (.iconst 1, 1) := by decide +kernel
theorem dX6_fill_46 : decode cX6_fill 46 = .ok (.goto 4, 3) := by decide +kernel
theorem dX6_fill_49 : decode cX6_fill 49 = .ok (.iconst 0, 1) := by decide +kernel
theorem dX6_fill_50 : decode cX6_fill 50 = .ok (.istore 4, 2) := by decide +kernel
theorem dX6_fill_52 : decode cX6_fill 52 = .ok (.aload_n 0, 1) := by decide +kernel
theorem dX6_fill_53 : decode cX6_fill 53 = .ok (.getfield 47, 3) := by decide +kernel
theorem dX6_fill_56 : decode cX6_fill 56 = .ok (.bipush 125, 2) := by decide +kernel
theorem dX6_fill_58 : decode cX6_fill 58 = .ok (.iload_n 2, 1) := by decide +kernel
theorem dX6_fill_59 : decode cX6_fill 59 = .ok (.imul, 1) := by decide +kernel
theorem dX6_fill_60 : decode cX6_fill 60 = .ok (.iload_n 3, 1) := by decide +kernel
theorem dX6_fill_61 : decode cX6_fill 61 = .ok (.iadd, 1) := by decide +kernel
theorem dX6_fill_62 : decode cX6_fill 62 = .ok (.iload 4, 2) := by decide +kernel
theorem dX6_fill_64 : decode cX6_fill 64 = .ok (.ifCond .eq 17, 3) := by decide +kernel
theorem dX6_fill_67 : decode cX6_fill 67 = .ok (.aload_n 0, 1) := by decide +kernel
theorem dX6_fill_68 : decode cX6_fill 68 = .ok (.iload_n 2, 1) := by decide +kernel
theorem dX6_fill_69 : decode cX6_fill 69 = .ok (.iload_n 3, 1) := by decide +kernel
theorem dX6_fill_70 : decode cX6_fill 70 = .ok (.iload_n 1, 1) := by decide +kernel
theorem dX6_fill_71 : decode cX6_fill 71 = .ok (.invokevirtual 159, 3) := by decide +kernel
theorem dX6_fill_74 : decode cX6_fill 74 = .ok (.ifCond .eq 7, 3) := by decide +kernel
theorem dX6_fill_77 : decode cX6_fill 77 = .ok (.iconst 1, 1) := by decide +kernel
theorem dX6_fill_78 : decode cX6_fill 78 = .ok (.goto 4, 3) := by decide +kernel
theorem dX6_fill_81 : decode cX6_fill 81 = .ok (.iconst 0, 1) := by decide +kernel
theorem dX6_fill_82 : decode cX6_fill 82 = .ok (.bastore, 1) := by decide +kernel
theorem dX6_fill_83 : decode cX6_fill 83 = .ok (.iinc 3 1, 3) := by decide +kernel
theorem dX6_fill_86 : decode cX6_fill 86 = .ok (.goto (-74), 3) := by decide +kernel
theorem dX6_fill_89 : decode cX6_fill 89 = .ok (.iinc 2 1, 3) := by decide +kernel
theorem dX6_fill_92 : decode cX6_fill 92 = .ok (.goto (-90), 3) := by decide +kernel
theorem dX6_fill_95 : decode cX6_fill 95 = .ok (.return_, 1) := by decide +kernel
set_option maxRecDepth 20000 in
theorem ggX6_quantifiers_X6_kindOf : GoodIn wsX6_quantifiers wsX6_kindOf := goodIn_r _ [6] (by decide +kernel) (by decide +kernel)
set_option maxRecDepth 20000 in
theorem gX6_quantifiers_X6_kindOf : GoodIn wsX6_quantifiers (va_wsS RX6 93 yX6_kindOf wsX6_kindOf) := goodIn_app (goodIn_of _ (by decide +kernel)) ggX6_quantifiers_X6_kindOf
set_option maxRecDepth 20000 in
theorem ggX6_quantifiers_X6_in : GoodIn wsX6_quantifiers wsX6_in := goodIn_r _ [9] (by decide +kernel) (by decide +kernel)
set_option maxRecDepth 20000 in
theorem gX6_quantifiers_X6_in : GoodIn wsX6_quantifiers (va_wsS RX6 85 yX6_in wsX6_in) := goodIn_app (goodIn_of _ (by decide +kernel)) ggX6_quantifiers_X6_in
theorem dX6_quantifiers_0 : decode cX6_quantifiers 0 = .ok (.iconst 0, 1) := by decide +kernel
theorem dX6_quantifiers_1 : decode cX6_quantifiers 1 = .ok (.istore_n 1, 1) := by decide +kernel
theorem dX6_quantifiers_2 : decode cX6_quantifiers 2 = .ok (.iconst 0, 1) := by decide +kernel
theorem dX6_quantifiers_3 : decode cX6_quantifiers 3 = .ok (.istore_n 2, 1) := by decide +kernel
theorem dX6_quantifiers_4 : decode cX6_quantifiers 4 = .ok (.iload_n 2, 1) := by decide +kernel
theorem dX6_quantifiers_5 : decode cX6_quantifiers 5 = .ok (.aload_n 0, 1) := by decide +kernel
theorem dX6_quantifiers_6 : decode cX6_quantifiers 6 = .ok (.getfield 96, 3) := by decide +kernel
theorem dX6_quantifiers_9 : decode cX6_quantifiers 9 = .ok (.if_icmp .ge 36, 3) := by decide +kernel
theorem dX6_quantifiers_12 : decode cX6_quantifiers 12 = .ok (.iload_n 1, 1) := by decide +kernel
theorem dX6_quantifiers_13 : decode cX6_quantifiers 13 = .ok (.aload_n 0, 1) := by decide +kernel
theorem dX6_quantifiers_14 : decode cX6_quantifiers 14 = .ok (.getfield 7, 3) := by decide +kernel
theorem dX6_quantifiers_17 : decode cX6_quantifiers 17 = .ok (.iload_n 2, 1) := by decide +kernel
theorem dX6_quantifiers_18 : decode cX6_quantifiers 18 = .ok (.caload, 1) := by decide +kernel
theorem dX6_quantifiers_19 : decode cX6_quantifiers 19 = .ok (.invokestatic 93, 3) := by decide +kernel
theorem dX6_quantifiers_22 : decode cX6_quantifiers 22 = .ok (.bipush 6, 2) := by decide +kernel
theorem dX6_quantifiers_24 : decode cX6_quantifiers 24 = .ok (.bipush 9, 2) := by decide +kernel
theorem dX6_quantifiers_26 : decode cX6_quantifiers 26 = .ok (.invokestatic 85, 3) := by decide +kernel
theorem dX6_quantifiers_29 : decode cX6_quantifiers 29 = .ok (.ifCond .eq 7, 3) := by decide +kernel
theorem dX6_quantifiers_32 : decode cX6_quantifiers 32 = .ok (.iconst 1, 1) := by decide +kernel
theorem dX6_quantifiers_33 : decode cX6_quantifiers 33 = .ok (.goto 4, 3) := by decide +kernel
theorem dX6_quantifiers_36 : decode cX6_quantifiers 36 = .ok (.iconst 0, 1) := by decide +kernel
theorem dX6_quantifiers_37 : decode cX6_quantifiers 37 = .ok (.iadd, 1) := by decide +kernel
theorem dX6_quantifiers_38 : decode cX6_quantifiers 38 = .ok (.istore_n 1, 1) := by decide +kernel
theorem dX6_quantifiers_39 : decode cX6_quantifiers 39 = .ok (.iinc 2 1, 3) := by decide +kernel
theorem dX6_quantifiers_42 : decode cX6_quantifiers 42 = .ok (.goto (-38), 3) := by decide +kernel
theorem dX6_quantifiers_45 : decode cX6_quantifiers 45 = .ok (.iload_n 1, 1) := by decide +kernel
theorem dX6_quantifiers_46 : decode cX6_quantifiers 46 = .ok (.ireturn, 1) := by decide +kernel
set_option maxRecDepth 20000 in
theorem ggX6_isSo_X6_in : GoodIn wsX6_isSo wsX6_in := goodIn_r _ [6] (by decide +kernel) (by decide +kernel)
set_option maxRecDepth 20000 in
theorem gX6_isSo_X6_in : GoodIn wsX6_isSo (va_wsS RX6 85 yX6_in wsX6_in) := goodIn_app (goodIn_of _ (by decide +kernel)) ggX6_isSo_X6_in
set_option maxRecDepth 20000 in
theorem ggX6_isSo_X6_isFormula : GoodIn wsX6_isSo wsX6_isFormula := goodIn_r _ [10, 11, 12, 13, 14, 15, 5, 16, 2, 17, 18, 19, 20, 21, 22, 23, 24, 25, 26, 27, 28, 29, 30, 31, 32, 33, 34, 35, 3, 4, 6, 36, 37, 38, 39, 40, 41, 42, 43, 44, 45, 46, 47, 48, 49, 50, 51, 52, 53, 54, 55, 56, 57, 58, 59, 60, 61, 62, 63, 64, 65, 66, 94, 95, 96, 97, 98, 99, 100, 101, 102, 103, 104, 105, 106, 107, 108, 109, 110, 111, 112, 113, 114, 115, 116, 117, 118, 119, 120, 121, 122, 123, 124, 125] (by decide +kernel) (by decide +kernel)
set_option maxRecDepth 20000 in
theorem gX6_isSo_X6_isFormula : GoodIn wsX6_isSo (wsV RX6 145 RX6 yX6_isFormula wsX6_isFormula) := goodIn_app (goodIn_of _ (by decide +kernel)) ggX6_isSo_X6_isFormula
set_option maxRecDepth 20000 in
theorem ggX6_isSo_X6_quantifiers : GoodIn wsX6_isSo wsX6_quantifiers := goodIn_r _ [70, 11, 18, 26, 27, 5, 28, 3, 4, 6, 94, 95, 96, 97, 98, 99, 100, 101, 102, 103, 104, 105, 106, 107, 108, 109, 110, 111, 112, 113, 114, 115, 116, 117, 118, 119, 120, 121, 122, 123, 124, 125] (by decide +kernel) (by decide +kernel)
set_option maxRecDepth 20000 in
theorem gX6_isSo_X6_quantifiers : GoodIn wsX6_isSo (wsV RX6 162 RX6 yX6_quantifiers wsX6_quantifiers) := goodIn_app (goodIn_of _ (by decide +kernel)) ggX6_isSo_X6_quantifiers
set_option maxRecDepth 20000 in
theorem ggX6_isSo_X6_goesWell : GoodIn wsX6_isSo wsX6_goesWell := goodIn_r _ [74, 75, 94, 95, 96, 97, 98, 99, 100, 101, 102, 103, 104, 105, 106, 107, 108, 109, 110, 111, 112, 113, 114, 115, 116, 117, 118, 119, 120, 121, 122, 123, 124, 125] (by decide +kernel) (by decide +kernel)
set_option maxRecDepth 20000 in
theorem gX6_isSo_X6_goesWell : GoodIn wsX6_isSo (wsV RX6 99 RX6 yX6_goesWell wsX6_goesWell) := goodIn_app (goodIn_of _ (by decide +kernel)) ggX6_isSo_X6_goesWell
set_option maxRecDepth 20000 in
theorem ggX6_isSo_X6_fill : GoodIn wsX6_isSo wsX6_fill := goodIn_r _ [79, 2, 1, 80, 81, 5, 82, 83, 84, 85, 86, 87, 88, 89, 45, 46, 44, 47, 48, 90, 91, 92, 93, 94, 95, 96, 97, 98, 99, 100, 101, 102, 103, 104, 105, 106, 107, 108, 109, 110, 111, 112, 113, 114, 115, 116, 117, 118, 119, 120, 121, 122, 123, 124, 125] (by decide +kernel) (by decide +kernel)
set_option maxRecDepth 20000 in
theorem gX6_isSo_X6_fill : GoodIn wsX6_isSo (wsV RX6 165 RX6 yX6_fill wsX6_fill) := goodIn_app (goodIn_of _ (by decide +kernel)) ggX6_isSo_X6_fill
theorem dX6_isSo_0 : decode cX6_isSo 0 = .ok (.iload_n 1, 1) := by decide +kernel
theorem dX6_isSo_1 : decode cX6_isSo 1 = .ok (.iconst 1, 1) := by decide +kernel
theorem dX6_isSo_2 : decode cX6_isSo 2 = .ok (.iconst 5, 1) := by decide +kernel
theorem dX6_isSo_3 : decode cX6_isSo 3 = .ok (.invokestatic 85, 3) := by decide +kernel
theorem dX6_isSo_6 : decode cX6_isSo 6 = .ok (.ifCond .eq 41, 3) := by decide +kernel
theorem dX6_isSo_9 : decode cX6_isSo 9 = .ok (.iload_n 2, 1) := by decide +kernel
theorem dX6_isSo_10 : decode cX6_isSo 10 = .ok (.iconst 0, 1) := by decide +kernel
theorem dX6_isSo_11 : decode cX6_isSo 11 = .ok (.iload_n 1, 1) := by decide +kernel
theorem dX6_isSo_12 : decode cX6_isSo 12 = .ok (.iconst 1, 1) := by decide +kernel
theorem dX6_isSo_13 : decode cX6_isSo 13 = .ok (.isub, 1) := by decide +kernel
theorem dX6_isSo_14 : decode cX6_isSo 14 = .ok (.invokestatic 85, 3) := by decide +kernel
theorem dX6_isSo_17 : decode cX6_isSo 17 = .ok (.ifCond .eq 30, 3) := by decide +kernel
theorem dX6_isSo_20 : decode cX6_isSo 20 = .ok (.iload_n 3, 1) := by decide +kernel
theorem dX6_isSo_21 : decode cX6_isSo 21 = .ok (.iconst 0, 1) := by decide +kernel
theorem dX6_isSo_22 : decode cX6_isSo 22 = .ok (.iload_n 1, 1) := by decide +kernel
theorem dX6_isSo_23 : decode cX6_isSo 23 = .ok (.iconst 1, 1) := by decide +kernel
theorem dX6_isSo_24 : decode cX6_isSo 24 = .ok (.isub, 1) := by decide +kernel
theorem dX6_isSo_25 : decode cX6_isSo 25 = .ok (.invokestatic 85, 3) := by decide +kernel
theorem dX6_isSo_28 : decode cX6_isSo 28 = .ok (.ifCond .eq 19, 3) := by decide +kernel
theorem dX6_isSo_31 : decode cX6_isSo 31 = .ok (.iload 4, 2) := by decide +kernel
theorem dX6_isSo_33 : decode cX6_isSo 33 = .ok (.iconst 0, 1) := by decide +kernel
theorem dX6_isSo_34 : decode cX6_isSo 34 = .ok (.iload_n 1, 1) := by decide +kernel
theorem dX6_isSo_35 : decode cX6_isSo 35 = .ok (.iconst 1, 1) := by decide +kernel
theorem dX6_isSo_36 : decode cX6_isSo 36 = .ok (.isub, 1) := by decide +kernel
theorem dX6_isSo_37 : decode cX6_isSo 37 = .ok (.invokestatic 85, 3) := by decide +kernel
theorem dX6_isSo_40 : decode cX6_isSo 40 = .ok (.ifCond .eq 7, 3) := by decide +kernel
theorem dX6_isSo_43 : decode cX6_isSo 43 = .ok (.iconst 1, 1) := by decide +kernel
theorem dX6_isSo_44 : decode cX6_isSo 44 = .ok (.goto 4, 3) := by decide +kernel
theorem dX6_isSo_47 : decode cX6_isSo 47 = .ok (.iconst 0, 1) := by decide +kernel
theorem dX6_isSo_48 : decode cX6_isSo 48 = .ok (.istore 5, 2) := by decide +kernel
theorem dX6_isSo_50 : decode cX6_isSo 50 = .ok (.aload_n 0, 1) := by decide +kernel
theorem dX6_isSo_51 : decode cX6_isSo 51 = .ok (.iload 5, 2) := by decide +kernel
theorem dX6_isSo_53 : decode cX6_isSo 53 = .ok (.ifCond .ne 7, 3) := by decide +kernel
theorem dX6_isSo_56 : decode cX6_isSo 56 = .ok (.iconst 1, 1) := by decide +kernel
theorem dX6_isSo_57 : decode cX6_isSo 57 = .ok (.goto 24, 3) := by decide +kernel
theorem dX6_isSo_60 : decode cX6_isSo 60 = .ok (.aload_n 0, 1) := by decide +kernel
theorem dX6_isSo_61 : decode cX6_isSo 61 = .ok (.invokevirtual 145, 3) := by decide +kernel
theorem dX6_isSo_64 : decode cX6_isSo 64 = .ok (.ifCond .eq 16, 3) := by decide +kernel
theorem dX6_isSo_67 : decode cX6_isSo 67 = .ok (.aload_n 0, 1) := by decide +kernel
theorem dX6_isSo_68 : decode cX6_isSo 68 = .ok (.invokevirtual 162, 3) := by decide +kernel
theorem dX6_isSo_71 : decode cX6_isSo 71 = .ok (.bipush 6, 2) := by decide +kernel
theorem dX6_isSo_73 : decode cX6_isSo 73 = .ok (.if_icmp .gt 7, 3) := by decide +kernel
theorem dX6_isSo_76 : decode cX6_isSo 76 = .ok (.iconst 0, 1) := by decide +kernel
theorem dX6_isSo_77 : decode cX6_isSo 77 = .ok (.goto 4, 3) := by decide +kernel
theorem dX6_isSo_80 : decode cX6_isSo 80 = .ok (.iconst 2, 1) := by decide +kernel
theorem dX6_isSo_81 : decode cX6_isSo 81 = .ok (.invokevirtual 99, 3) := by decide +kernel
theorem dX6_isSo_84 : decode cX6_isSo 84 = .ok (.ifCond .ne 5, 3) := by decide +kernel
theorem dX6_isSo_87 : decode cX6_isSo 87 = .ok (.iconst 0, 1) := by decide +kernel
theorem dX6_isSo_88 : decode cX6_isSo 88 = .ok (.ireturn, 1) := by decide +kernel
theorem dX6_isSo_89 : decode cX6_isSo 89 = .ok (.aload_n 0, 1) := by decide +kernel
theorem dX6_isSo_90 : decode cX6_isSo 90 = .ok (.iload_n 1, 1) := by decide +kernel
theorem dX6_isSo_91 : decode cX6_isSo 91 = .ok (.invokevirtual 165, 3) := by decide +kernel
theorem dX6_isSo_94 : decode cX6_isSo 94 = .ok (.aload_n 0, 1) := by decide +kernel
theorem dX6_isSo_95 : decode cX6_isSo 95 = .ok (.getfield 47, 3) := by decide +kernel
theorem dX6_isSo_98 : decode cX6_isSo 98 = .ok (.bipush 125, 2) := by decide +kernel
theorem dX6_isSo_100 : decode cX6_isSo 100 = .ok (.aload_n 0, 1) := by decide +kernel
theorem dX6_isSo_101 : decode cX6_isSo 101 = .ok (.getfield 103, 3) := by decide +kernel
theorem dX6_isSo_104 : decode cX6_isSo 104 = .ok (.iconst 1, 1) := by decide +kernel
theorem dX6_isSo_105 : decode cX6_isSo 105 = .ok (.isub, 1) := by decide +kernel
theorem dX6_isSo_106 : decode cX6_isSo 106 = .ok (.imul, 1) := by decide +kernel
theorem dX6_isSo_107 : decode cX6_isSo 107 = .ok (.iload_n 2, 1) := by decide +kernel
theorem dX6_isSo_108 : decode cX6_isSo 108 = .ok (.iadd, 1) := by decide +kernel
theorem dX6_isSo_109 : decode cX6_isSo 109 = .ok (.iconst 5, 1) := by decide +kernel
theorem dX6_isSo_110 : decode cX6_isSo 110 = .ok (.iload_n 3, 1) := by decide +kernel
theorem dX6_isSo_111 : decode cX6_isSo 111 = .ok (.imul, 1) := by decide +kernel
theorem dX6_isSo_112 : decode cX6_isSo 112 = .ok (.iadd, 1) := by decide +kernel
theorem dX6_isSo_113 : decode cX6_isSo 113 = .ok (.bipush 25, 2) := by decide +kernel
theorem dX6_isSo_115 : decode cX6_isSo 115 = .ok (.iload 4, 2) := by decide +kernel
theorem dX6_isSo_117 : decode cX6_isSo 117 = .ok (.imul, 1) := by decide +kernel
theorem dX6_isSo_118 : decode cX6_isSo 118 = .ok (.iadd, 1) := by decide +kernel
theorem dX6_isSo_119 : decode cX6_isSo 119 = .ok (.baload, 1) := by decide +kernel
theorem dX6_isSo_120 : decode cX6_isSo 120 = .ok (.ireturn, 1) := by decide +kernel
set_option maxRecDepth 20000 in
theorem ggX6_principle_X6_isFormula : GoodIn wsX6_principle wsX6_isFormula := goodIn_r _ [13, 8, 14, 15, 16, 17, 12, 18, 2, 19, 20, 21, 22, 23, 24, 25, 26, 27, 28, 29, 30, 31, 32, 33, 34, 35, 36, 37, 38, 39, 40, 41, 42, 43, 44, 45, 46, 47, 48, 49, 50, 51, 52, 53, 54, 55, 56, 57, 5, 7, 1, 58, 59, 60, 61, 62, 63, 64, 65, 66, 67, 68, 74, 75, 76, 77, 78, 79, 80, 81, 82, 83, 84, 85, 86, 87, 88, 89, 90, 91, 92, 93, 94, 95, 96, 97, 98, 99, 100, 101, 102, 103, 104, 105] (by decide +kernel) (by decide +kernel)
set_option maxRecDepth 20000 in
theorem gX6_principle_X6_isFormula : GoodIn wsX6_principle (wsV RX6 145 RX6 yX6_isFormula wsX6_isFormula) := goodIn_app (goodIn_of _ (by decide +kernel)) ggX6_principle_X6_isFormula
set_option maxRecDepth 20000 in
theorem ggX6_principle_X6_goesWell : GoodIn wsX6_principle wsX6_goesWell := goodIn_r _ [72, 73, 74, 75, 76, 77, 78, 79, 80, 81, 82, 83, 84, 85, 86, 87, 88, 89, 90, 91, 92, 93, 94, 95, 96, 97, 98, 99, 100, 101, 102, 103, 104, 105] (by decide +kernel) (by decide +kernel)
set_option maxRecDepth 20000 in
theorem gX6_principle_X6_goesWell : GoodIn wsX6_principle (wsV RX6 99 RX6 yX6_goesWell wsX6_goesWell) := goodIn_app (goodIn_of _ (by decide +kernel)) ggX6_principle_X6_goesWell
theorem dX6_principle_0 : decode cX6_principle 0 = .ok (.aload_n 0, 1) := by decide +kernel
theorem dX6_principle_1 : decode cX6_principle 1 = .ok (.invokevirtual 145, 3) := by decide +kernel
theorem dX6_principle_4 : decode cX6_principle 4 = .ok (.istore_n 1, 1) := by decide +kernel
theorem dX6_principle_5 : decode cX6_principle 5 = .ok (.aload_n 0, 1) := by decide +kernel
theorem dX6_principle_6 : decode cX6_principle 6 = .ok (.iload_n 1, 1) := by decide +kernel
theorem dX6_principle_7 : decode cX6_principle 7 = .ok (.ifCond .eq 30, 3) := by decide +kernel
theorem dX6_principle_10 : decode cX6_principle 10 = .ok (.aload_n 0, 1) := by decide +kernel
theorem dX6_principle_11 : decode cX6_principle 11 = .ok (.getfield 35, 3) := by decide +kernel
theorem dX6_principle_14 : decode cX6_principle 14 = .ok (.aload_n 0, 1) := by decide +kernel
theorem dX6_principle_15 : decode cX6_principle 15 = .ok (.getfield 103, 3) := by decide +kernel
theorem dX6_principle_18 : decode cX6_principle 18 = .ok (.iconst 1, 1) := by decide +kernel
theorem dX6_principle_19 : decode cX6_principle 19 = .ok (.isub, 1) := by decide +kernel
theorem dX6_principle_20 : decode cX6_principle 20 = .ok (.iaload, 1) := by decide +kernel
theorem dX6_principle_21 : decode cX6_principle 21 = .ok (.ifCond .ne 16, 3) := by decide +kernel
theorem dX6_principle_24 : decode cX6_principle 24 = .ok (.aload_n 0, 1) := by decide +kernel
theorem dX6_principle_25 : decode cX6_principle 25 = .ok (.getfield 168, 3) := by decide +kernel
theorem dX6_principle_28 : decode cX6_principle 28 = .ok (.bipush 10, 2) := by decide +kernel
theorem dX6_principle_30 : decode cX6_principle 30 = .ok (.if_icmp .ge 7, 3) := by decide +kernel
theorem dX6_principle_33 : decode cX6_principle 33 = .ok (.iconst 0, 1) := by decide +kernel
theorem dX6_principle_34 : decode cX6_principle 34 = .ok (.goto 4, 3) := by decide +kernel
theorem dX6_principle_37 : decode cX6_principle 37 = .ok (.iconst 1, 1) := by decide +kernel
theorem dX6_principle_38 : decode cX6_principle 38 = .ok (.invokevirtual 99, 3) := by decide +kernel
theorem dX6_principle_41 : decode cX6_principle 41 = .ok (.ifCond .ne 5, 3) := by decide +kernel
theorem dX6_principle_44 : decode cX6_principle 44 = .ok (.iconst 0, 1) := by decide +kernel
theorem dX6_principle_45 : decode cX6_principle 45 = .ok (.ireturn, 1) := by decide +kernel
theorem dX6_principle_46 : decode cX6_principle 46 = .ok (.aload_n 0, 1) := by decide +kernel
theorem dX6_principle_47 : decode cX6_principle 47 = .ok (.getfield 51, 3) := by decide +kernel
theorem dX6_principle_50 : decode cX6_principle 50 = .ok (.aload_n 0, 1) := by decide +kernel
theorem dX6_principle_51 : decode cX6_principle 51 = .ok (.getfield 168, 3) := by decide +kernel
theorem dX6_principle_54 : decode cX6_principle 54 = .ok (.aload_n 0, 1) := by decide +kernel
theorem dX6_principle_55 : decode cX6_principle 55 = .ok (.getfield 29, 3) := by decide +kernel
theorem dX6_principle_58 : decode cX6_principle 58 = .ok (.aload_n 0, 1) := by decide +kernel
theorem dX6_principle_59 : decode cX6_principle 59 = .ok (.getfield 103, 3) := by decide +kernel
theorem dX6_principle_62 : decode cX6_principle 62 = .ok (.iconst 1, 1) := by decide +kernel
theorem dX6_principle_63 : decode cX6_principle 63 = .ok (.isub, 1) := by decide +kernel
theorem dX6_principle_64 : decode cX6_principle 64 = .ok (.iaload, 1) := by decide +kernel
theorem dX6_principle_65 : decode cX6_principle 65 = .ok (.iastore, 1) := by decide +kernel
theorem dX6_principle_66 : decode cX6_principle 66 = .ok (.aload_n 0, 1) := by decide +kernel
theorem dX6_principle_67 : decode cX6_principle 67 = .ok (.getfield 54, 3) := by decide +kernel
theorem dX6_principle_70 : decode cX6_principle 70 = .ok (.aload_n 0, 1) := by decide +kernel
theorem dX6_principle_71 : decode cX6_principle 71 = .ok (.getfield 168, 3) := by decide +kernel
theorem dX6_principle_74 : decode cX6_principle 74 = .ok (.aload_n 0, 1) := by decide +kernel
theorem dX6_principle_75 : decode cX6_principle 75 = .ok (.getfield 32, 3) := by decide +kernel
theorem dX6_principle_78 : decode cX6_principle 78 = .ok (.aload_n 0, 1) := by decide +kernel
theorem dX6_principle_79 : decode cX6_principle 79 = .ok (.getfield 103, 3) := by decide +kernel
theorem dX6_principle_82 : decode cX6_principle 82 = .ok (.iconst 1, 1) := by decide +kernel
theorem dX6_principle_83 : decode cX6_principle 83 = .ok (.isub, 1) := by decide +kernel
theorem dX6_principle_84 : decode cX6_principle 84 = .ok (.iaload, 1) := by decide +kernel
theorem dX6_principle_85 : decode cX6_principle 85 = .ok (.iastore, 1) := by decide +kernel
theorem dX6_principle_86 : decode cX6_principle 86 = .ok (.aload_n 0, 1) := by decide +kernel
theorem dX6_principle_87 : decode cX6_principle 87 = .ok (.iconst 0, 1) := by decide +kernel
theorem dX6_principle_88 : decode cX6_principle 88 = .ok (.putfield 96, 3) := by decide +kernel
theorem dX6_principle_91 : decode cX6_principle 91 = .ok (.aload_n 0, 1) := by decide +kernel
theorem dX6_principle_92 : decode cX6_principle 92 = .ok (.dup, 1) := by decide +kernel
theorem dX6_principle_93 : decode cX6_principle 93 = .ok (.getfield 168, 3) := by decide +kernel
theorem dX6_principle_96 : decode cX6_principle 96 = .ok (.iconst 1, 1) := by decide +kernel
theorem dX6_principle_97 : decode cX6_principle 97 = .ok (.iadd, 1) := by decide +kernel
theorem dX6_principle_98 : decode cX6_principle 98 = .ok (.putfield 168, 3) := by decide +kernel
theorem dX6_principle_101 : decode cX6_principle 101 = .ok (.aload_n 0, 1) := by decide +kernel
theorem dX6_principle_102 : decode cX6_principle 102 = .ok (.getfield 168, 3) := by decide +kernel
theorem dX6_principle_105 : decode cX6_principle 105 = .ok (.iconst 1, 1) := by decide +kernel
theorem dX6_principle_106 : decode cX6_principle 106 = .ok (.isub, 1) := by decide +kernel
theorem dX6_principle_107 : decode cX6_principle 107 = .ok (.ireturn, 1) := by decide +kernel
set_option maxRecDepth 20000 in
theorem ggX6_isPrinciple_X6_in : GoodIn wsX6_isPrinciple wsX6_in := goodIn_r _ [5] (by decide +kernel) (by decide +kernel)
set_option maxRecDepth 20000 in
theorem gX6_isPrinciple_X6_in : GoodIn wsX6_isPrinciple (va_wsS RX6 85 yX6_in wsX6_in) := goodIn_app (goodIn_of _ (by decide +kernel)) ggX6_isPrinciple_X6_in
theorem dX6_isPrinciple_0 : decode cX6_isPrinciple 0 = .ok (.iload_n 1, 1) := by decide +kernel
theorem dX6_isPrinciple_1 : decode cX6_isPrinciple 1 = .ok (.iconst 0, 1) := by decide +kernel
theorem dX6_isPrinciple_2 : decode cX6_isPrinciple 2 = .ok (.aload_n 0, 1) := by decide +kernel
theorem dX6_isPrinciple_3 : decode cX6_isPrinciple 3 = .ok (.getfield 168, 3) := by decide +kernel
theorem dX6_isPrinciple_6 : decode cX6_isPrinciple 6 = .ok (.iconst 1, 1) := by decide +kernel
theorem dX6_isPrinciple_7 : decode cX6_isPrinciple 7 = .ok (.isub, 1) := by decide +kernel
theorem dX6_isPrinciple_8 : decode cX6_isPrinciple 8 = .ok (.invokestatic 85, 3) := by decide +kernel
theorem dX6_isPrinciple_11 : decode cX6_isPrinciple 11 = .ok (.ireturn, 1) := by decide +kernel
set_option maxRecDepth 20000 in
theorem ggX6_isSet_X6_in : GoodIn wsX6_isSet wsX6_in := goodIn_r _ [5] (by decide +kernel) (by decide +kernel)
set_option maxRecDepth 20000 in
theorem gX6_isSet_X6_in : GoodIn wsX6_isSet (va_wsS RX6 85 yX6_in wsX6_in) := goodIn_app (goodIn_of _ (by decide +kernel)) ggX6_isSet_X6_in
theorem dX6_isSet_0 : decode cX6_isSet 0 = .ok (.iload_n 1, 1) := by decide +kernel
theorem dX6_isSet_1 : decode cX6_isSet 1 = .ok (.iconst 0, 1) := by decide +kernel
theorem dX6_isSet_2 : decode cX6_isSet 2 = .ok (.iconst 1, 1) := by decide +kernel
theorem dX6_isSet_3 : decode cX6_isSet 3 = .ok (.aload_n 0, 1) := by decide +kernel
