theorem dX6_init_0 : decode cX6_init 0 = .ok (.aload_n 0, 1) := by decide +kernel
theorem dX6_init_1 : decode cX6_init 1 = .ok (.invokespecial 1, 3) := by decide +kernel
theorem dX6_init_4 : decode cX6_init 4 = .ok (.aload_n 0, 1) := by decide +kernel
theorem dX6_init_5 : decode cX6_init 5 = .ok (.bipush 40, 2) := by decide +kernel
theorem dX6_init_7 : decode cX6_init 7 = .ok (.newarray .char, 2) := by decide +kernel
theorem dX6_init_9 : decode cX6_init 9 = .ok (.putfield 7, 3) := by decide +kernel
theorem dX6_init_12 : decode cX6_init 12 = .ok (.aload_n 0, 1) := by decide +kernel
theorem dX6_init_13 : decode cX6_init 13 = .ok (.bipush 40, 2) := by decide +kernel
theorem dX6_init_15 : decode cX6_init 15 = .ok (.newarray .int, 2) := by decide +kernel
theorem dX6_init_17 : decode cX6_init 17 = .ok (.putfield 13, 3) := by decide +kernel
theorem dX6_init_20 : decode cX6_init 20 = .ok (.aload_n 0, 1) := by decide +kernel
theorem dX6_init_21 : decode cX6_init 21 = .ok (.bipush 40, 2) := by decide +kernel
theorem dX6_init_23 : decode cX6_init 23 = .ok (.newarray .int, 2) := by decide +kernel
theorem dX6_init_25 : decode cX6_init 25 = .ok (.putfield 17, 3) := by decide +kernel
theorem dX6_init_28 : decode cX6_init 28 = .ok (.aload_n 0, 1) := by decide +kernel
theorem dX6_init_29 : decode cX6_init 29 = .ok (.bipush 40, 2) := by decide +kernel
theorem dX6_init_31 : decode cX6_init 31 = .ok (.newarray .int, 2) := by decide +kernel
theorem dX6_init_33 : decode cX6_init 33 = .ok (.putfield 20, 3) := by decide +kernel
theorem dX6_init_36 : decode cX6_init 36 = .ok (.aload_n 0, 1) := by decide +kernel
theorem dX6_init_37 : decode cX6_init 37 = .ok (.bipush 40, 2) := by decide +kernel
theorem dX6_init_39 : decode cX6_init 39 = .ok (.newarray .int, 2) := by decide +kernel
theorem dX6_init_41 : decode cX6_init 41 = .ok (.putfield 23, 3) := by decide +kernel
theorem dX6_init_44 : decode cX6_init 44 = .ok (.aload_n 0, 1) := by decide +kernel
theorem dX6_init_45 : decode cX6_init 45 = .ok (.bipush 40, 2) := by decide +kernel
theorem dX6_init_47 : decode cX6_init 47 = .ok (.newarray .int, 2) := by decide +kernel
theorem dX6_init_49 : decode cX6_init 49 = .ok (.putfield 26, 3) := by decide +kernel
theorem dX6_init_52 : decode cX6_init 52 = .ok (.aload_n 0, 1) := by decide +kernel
theorem dX6_init_53 : decode cX6_init 53 = .ok (.bipush 40, 2) := by decide +kernel
theorem dX6_init_55 : decode cX6_init 55 = .ok (.newarray .int, 2) := by decide +kernel
theorem dX6_init_57 : decode cX6_init 57 = .ok (.putfield 29, 3) := by decide +kernel
theorem dX6_init_60 : decode cX6_init 60 = .ok (.aload_n 0, 1) := by decide +kernel
theorem dX6_init_61 : decode cX6_init 61 = .ok (.bipush 40, 2) := by decide +kernel
theorem dX6_init_63 : decode cX6_init 63 = .ok (.newarray .int, 2) := by decide +kernel
theorem dX6_init_65 : decode cX6_init 65 = .ok (.putfield 32, 3) := by decide +kernel
theorem dX6_init_68 : decode cX6_init 68 = .ok (.aload_n 0, 1) := by decide +kernel
theorem dX6_init_69 : decode cX6_init 69 = .ok (.bipush 40, 2) := by decide +kernel
theorem dX6_init_71 : decode cX6_init 71 = .ok (.newarray .int, 2) := by decide +kernel
theorem dX6_init_73 : decode cX6_init 73 = .ok (.putfield 35, 3) := by decide +kernel
theorem dX6_init_76 : decode cX6_init 76 = .ok (.aload_n 0, 1) := by decide +kernel
theorem dX6_init_77 : decode cX6_init 77 = .ok (.bipush 41, 2) := by decide +kernel
theorem dX6_init_79 : decode cX6_init 79 = .ok (.newarray .int, 2) := by decide +kernel
theorem dX6_init_81 : decode cX6_init 81 = .ok (.putfield 38, 3) := by decide +kernel
theorem dX6_init_84 : decode cX6_init 84 = .ok (.aload_n 0, 1) := by decide +kernel
theorem dX6_init_85 : decode cX6_init 85 = .ok (.bipush 41, 2) := by decide +kernel
theorem dX6_init_87 : decode cX6_init 87 = .ok (.newarray .int, 2) := by decide +kernel
theorem dX6_init_89 : decode cX6_init 89 = .ok (.putfield 41, 3) := by decide +kernel
theorem dX6_init_92 : decode cX6_init 92 = .ok (.aload_n 0, 1) := by decide +kernel
theorem dX6_init_93 : decode cX6_init 93 = .ok (.bipush 41, 2) := by decide +kernel
theorem dX6_init_95 : decode cX6_init 95 = .ok (.newarray .int, 2) := by decide +kernel
theorem dX6_init_97 : decode cX6_init 97 = .ok (.putfield 44, 3) := by decide +kernel
theorem dX6_init_100 : decode cX6_init 100 = .ok (.aload_n 0, 1) := by decide +kernel
theorem dX6_init_101 : decode cX6_init 101 = .ok (.sipush 5000, 3) := by decide +kernel
theorem dX6_init_104 : decode cX6_init 104 = .ok (.newarray .boolean, 2) := by decide +kernel
theorem dX6_init_106 : decode cX6_init 106 = .ok (.putfield 47, 3) := by decide +kernel
theorem dX6_init_109 : decode cX6_init 109 = .ok (.aload_n 0, 1) := by decide +kernel
theorem dX6_init_110 : decode cX6_init 110 = .ok (.bipush 10, 2) := by decide +kernel
theorem dX6_init_112 : decode cX6_init 112 = .ok (.newarray .int, 2) := by decide +kernel
theorem dX6_init_114 : decode cX6_init 114 = .ok (.putfield 51, 3) := by decide +kernel
theorem dX6_init_117 : decode cX6_init 117 = .ok (.aload_n 0, 1) := by decide +kernel
theorem dX6_init_118 : decode cX6_init 118 = .ok (.bipush 10, 2) := by decide +kernel
theorem dX6_init_120 : decode cX6_init 120 = .ok (.newarray .int, 2) := by decide +kernel
theorem dX6_init_122 : decode cX6_init 122 = .ok (.putfield 54, 3) := by decide +kernel
theorem dX6_init_125 : decode cX6_init 125 = .ok (.aload_n 0, 1) := by decide +kernel
theorem dX6_init_126 : decode cX6_init 126 = .ok (.bipush 30, 2) := by decide +kernel
theorem dX6_init_128 : decode cX6_init 128 = .ok (.newarray .int, 2) := by decide +kernel
theorem dX6_init_130 : decode cX6_init 130 = .ok (.putfield 57, 3) := by decide +kernel
theorem dX6_init_133 : decode cX6_init 133 = .ok (.aload_n 0, 1) := by decide +kernel
theorem dX6_init_134 : decode cX6_init 134 = .ok (.bipush 30, 2) := by decide +kernel
theorem dX6_init_136 : decode cX6_init 136 = .ok (.newarray .int, 2) := by decide +kernel
theorem dX6_init_138 : decode cX6_init 138 = .ok (.putfield 60, 3) := by decide +kernel
theorem dX6_init_141 : decode cX6_init 141 = .ok (.aload_n 0, 1) := by decide +kernel
theorem dX6_init_142 : decode cX6_init 142 = .ok (.bipush 10, 2) := by decide +kernel
theorem dX6_init_144 : decode cX6_init 144 = .ok (.newarray .int, 2) := by decide +kernel
theorem dX6_init_146 : decode cX6_init 146 = .ok (.putfield 63, 3) := by decide +kernel
theorem dX6_init_149 : decode cX6_init 149 = .ok (.aload_n 0, 1) := by decide +kernel
theorem dX6_init_150 : decode cX6_init 150 = .ok (.bipush 30, 2) := by decide +kernel
theorem dX6_init_152 : decode cX6_init 152 = .ok (.newarray .int, 2) := by decide +kernel
theorem dX6_init_154 : decode cX6_init 154 = .ok (.putfield 66, 3) := by decide +kernel
theorem dX6_init_157 : decode cX6_init 157 = .ok (.aload_n 0, 1) := by decide +kernel
theorem dX6_init_158 : decode cX6_init 158 = .ok (.bipush 6, 2) := by decide +kernel
theorem dX6_init_160 : decode cX6_init 160 = .ok (.newarray .int, 2) := by decide +kernel
theorem dX6_init_162 : decode cX6_init 162 = .ok (.putfield 69, 3) := by decide +kernel
theorem dX6_init_165 : decode cX6_init 165 = .ok (.aload_n 0, 1) := by decide +kernel
theorem dX6_init_166 : decode cX6_init 166 = .ok (.bipush 6, 2) := by decide +kernel
theorem dX6_init_168 : decode cX6_init 168 = .ok (.newarray .int, 2) := by decide +kernel
theorem dX6_init_170 : decode cX6_init 170 = .ok (.putfield 72, 3) := by decide +kernel
theorem dX6_init_173 : decode cX6_init 173 = .ok (.aload_n 0, 1) := by decide +kernel
theorem dX6_init_174 : decode cX6_init 174 = .ok (.bipush 6, 2) := by decide +kernel
theorem dX6_init_176 : decode cX6_init 176 = .ok (.newarray .int, 2) := by decide +kernel
theorem dX6_init_178 : decode cX6_init 178 = .ok (.putfield 75, 3) := by decide +kernel
theorem dX6_init_181 : decode cX6_init 181 = .ok (.aload_n 0, 1) := by decide +kernel
theorem dX6_init_182 : decode cX6_init 182 = .ok (.bipush 16, 2) := by decide +kernel
theorem dX6_init_184 : decode cX6_init 184 = .ok (.newarray .boolean, 2) := by decide +kernel
theorem dX6_init_186 : decode cX6_init 186 = .ok (.putfield 78, 3) := by decide +kernel
theorem dX6_init_189 : decode cX6_init 189 = .ok (.return_, 1) := by decide +kernel
theorem dX6_thrown_0 : decode cX6_thrown 0 = .ok (.aload_n 0, 1) := by decide +kernel
theorem dX6_thrown_1 : decode cX6_thrown 1 = .ok (.getfield 81, 3) := by decide +kernel
theorem dX6_thrown_4 : decode cX6_thrown 4 = .ok (.ireturn, 1) := by decide +kernel
theorem dX6_goesWell_0 : decode cX6_goesWell 0 = .ok (.aload_n 0, 1) := by decide +kernel
theorem dX6_goesWell_1 : decode cX6_goesWell 1 = .ok (.iload_n 1, 1) := by decide +kernel
theorem dX6_goesWell_2 : decode cX6_goesWell 2 = .ok (.putfield 81, 3) := by decide +kernel
theorem dX6_goesWell_5 : decode cX6_goesWell 5 = .ok (.iload_n 1, 1) := by decide +kernel
theorem dX6_goesWell_6 : decode cX6_goesWell 6 = .ok (.ifCond .ne 7, 3) := by decide +kernel
theorem dX6_goesWell_9 : decode cX6_goesWell 9 = .ok (.iconst 1, 1) := by decide +kernel
theorem dX6_goesWell_10 : decode cX6_goesWell 10 = .ok (.goto 4, 3) := by decide +kernel
theorem dX6_goesWell_13 : decode cX6_goesWell 13 = .ok (.iconst 0, 1) := by decide +kernel
theorem dX6_goesWell_14 : decode cX6_goesWell 14 = .ok (.ireturn, 1) := by decide +kernel
theorem dX6_in_0 : decode cX6_in 0 = .ok (.iload_n 0, 1) := by decide +kernel
theorem dX6_in_1 : decode cX6_in 1 = .ok (.iload_n 1, 1) := by decide +kernel
theorem dX6_in_2 : decode cX6_in 2 = .ok (.if_icmp .lt 12, 3) := by decide +kernel
theorem dX6_in_5 : decode cX6_in 5 = .ok (.iload_n 0, 1) := by decide +kernel
theorem dX6_in_6 : decode cX6_in 6 = .ok (.iload_n 2, 1) := by decide +kernel
theorem dX6_in_7 : decode cX6_in 7 = .ok (.if_icmp .gt 7, 3) := by decide +kernel
theorem dX6_in_10 : decode cX6_in 10 = .ok (.iconst 1, 1) := by decide +kernel
theorem dX6_in_11 : decode cX6_in 11 = .ok (.goto 4, 3) := by decide +kernel
theorem dX6_in_14 : decode cX6_in 14 = .ok (.iconst 0, 1) := by decide +kernel
theorem dX6_in_15 : decode cX6_in 15 = .ok (.ireturn, 1) := by decide +kernel
set_option maxRecDepth 20000 in
theorem ggX6_variableOf_X6_in : GoodIn wsX6_variableOf wsX6_in := goodIn_r _ [4] (by decide +kernel) (by decide +kernel)
set_option maxRecDepth 20000 in
theorem gX6_variableOf_X6_in : GoodIn wsX6_variableOf (va_wsS RX6 85 yX6_in wsX6_in) := goodIn_app (goodIn_of _ (by decide +kernel)) ggX6_variableOf_X6_in
theorem dX6_variableOf_0 : decode cX6_variableOf 0 = .ok (.iload_n 0, 1) := by decide +kernel
theorem dX6_variableOf_1 : decode cX6_variableOf 1 = .ok (.bipush 120, 2) := by decide +kernel
theorem dX6_variableOf_3 : decode cX6_variableOf 3 = .ok (.bipush 122, 2) := by decide +kernel
theorem dX6_variableOf_5 : decode cX6_variableOf 5 = .ok (.invokestatic 85, 3) := by decide +kernel
theorem dX6_variableOf_8 : decode cX6_variableOf 8 = .ok (.ifCond .eq 10, 3) := by decide +kernel
theorem dX6_variableOf_11 : decode cX6_variableOf 11 = .ok (.iload_n 0, 1) := by decide +kernel
theorem dX6_variableOf_12 : decode cX6_variableOf 12 = .ok (.bipush 120, 2) := by decide +kernel
theorem dX6_variableOf_14 : decode cX6_variableOf 14 = .ok (.isub, 1) := by decide +kernel
theorem dX6_variableOf_15 : decode cX6_variableOf 15 = .ok (.goto 4, 3) := by decide +kernel
theorem dX6_variableOf_18 : decode cX6_variableOf 18 = .ok (.iconst (-1), 1) := by decide +kernel
theorem dX6_variableOf_19 : decode cX6_variableOf 19 = .ok (.ireturn, 1) := by decide +kernel
theorem dX6_kindOf_0 : decode cX6_kindOf 0 = .ok (.iload_n 0, 1) := by decide +kernel
theorem dX6_kindOf_1 : decode cX6_kindOf 1 = .ok (.lookupswitch 126 #[(33, 103), (38, 105), (40, 123), (60, 99), (61, 101), (62, 109), (65, 111), (69, 114), (97, 117), (101, 120), (124, 107)], 99) := by decide +kernel
theorem dX6_kindOf_100 : decode cX6_kindOf 100 = .ok (.iconst 0, 1) := by decide +kernel
theorem dX6_kindOf_101 : decode cX6_kindOf 101 = .ok (.ireturn, 1) := by decide +kernel
theorem dX6_kindOf_102 : decode cX6_kindOf 102 = .ok (.iconst 1, 1) := by decide +kernel
theorem dX6_kindOf_103 : decode cX6_kindOf 103 = .ok (.ireturn, 1) := by decide +kernel
theorem dX6_kindOf_104 : decode cX6_kindOf 104 = .ok (.iconst 2, 1) := by decide +kernel
theorem dX6_kindOf_105 : decode cX6_kindOf 105 = .ok (.ireturn, 1) := by decide +kernel
theorem dX6_kindOf_106 : decode cX6_kindOf 106 = .ok (.iconst 3, 1) := by decide +kernel
theorem dX6_kindOf_107 : decode cX6_kindOf 107 = .ok (.ireturn, 1) := by decide +kernel
theorem dX6_kindOf_108 : decode cX6_kindOf 108 = .ok (.iconst 4, 1) := by decide +kernel
theorem dX6_kindOf_109 : decode cX6_kindOf 109 = .ok (.ireturn, 1) := by decide +kernel
theorem dX6_kindOf_110 : decode cX6_kindOf 110 = .ok (.iconst 5, 1) := by decide +kernel
theorem dX6_kindOf_111 : decode cX6_kindOf 111 = .ok (.ireturn, 1) := by decide +kernel
theorem dX6_kindOf_112 : decode cX6_kindOf 112 = .ok (.bipush 6, 2) := by decide +kernel
theorem dX6_kindOf_114 : decode cX6_kindOf 114 = .ok (.ireturn, 1) := by decide +kernel
theorem dX6_kindOf_115 : decode cX6_kindOf 115 = .ok (.bipush 7, 2) := by decide +kernel
theorem dX6_kindOf_117 : decode cX6_kindOf 117 = .ok (.ireturn, 1) := by decide +kernel
theorem dX6_kindOf_118 : decode cX6_kindOf 118 = .ok (.bipush 8, 2) := by decide +kernel
theorem dX6_kindOf_120 : decode cX6_kindOf 120 = .ok (.ireturn, 1) := by decide +kernel
theorem dX6_kindOf_121 : decode cX6_kindOf 121 = .ok (.bipush 9, 2) := by decide +kernel
theorem dX6_kindOf_123 : decode cX6_kindOf 123 = .ok (.ireturn, 1) := by decide +kernel
theorem dX6_kindOf_124 : decode cX6_kindOf 124 = .ok (.bipush 10, 2) := by decide +kernel
theorem dX6_kindOf_126 : decode cX6_kindOf 126 = .ok (.ireturn, 1) := by decide +kernel
theorem dX6_kindOf_127 : decode cX6_kindOf 127 = .ok (.iconst (-1), 1) := by decide +kernel
theorem dX6_kindOf_128 : decode cX6_kindOf 128 = .ok (.ireturn, 1) := by decide +kernel
set_option maxRecDepth 20000 in
theorem ggX6_letter_X6_variableOf : GoodIn wsX6_letter wsX6_variableOf := goodIn_r _ [6, 7, 8, 5, 9] (by decide +kernel) (by decide +kernel)
set_option maxRecDepth 20000 in
theorem gX6_letter_X6_variableOf : GoodIn wsX6_letter (va_wsS RX6 89 yX6_variableOf wsX6_variableOf) := goodIn_app (goodIn_of _ (by decide +kernel)) ggX6_letter_X6_variableOf
set_option maxRecDepth 20000 in
theorem ggX6_letter_X6_kindOf : GoodIn wsX6_letter wsX6_kindOf := goodIn_r _ [12] (by decide +kernel) (by decide +kernel)
set_option maxRecDepth 20000 in
theorem gX6_letter_X6_kindOf : GoodIn wsX6_letter (va_wsS RX6 93 yX6_kindOf wsX6_kindOf) := goodIn_app (goodIn_of _ (by decide +kernel)) ggX6_letter_X6_kindOf
set_option maxRecDepth 20000 in
theorem ggX6_letter_X6_goesWell : GoodIn wsX6_letter wsX6_goesWell := goodIn_r _ [16, 17, 18, 19, 20, 21, 22, 23, 24, 25, 26, 27, 28, 29, 30, 31, 32, 33, 34, 35, 36, 37, 38, 39, 40, 41, 42, 43, 44, 45, 46, 47, 48, 49] (by decide +kernel) (by decide +kernel)
set_option maxRecDepth 20000 in
theorem gX6_letter_X6_goesWell : GoodIn wsX6_letter (wsV RX6 99 RX6 yX6_goesWell wsX6_goesWell) := goodIn_app (goodIn_of _ (by decide +kernel)) ggX6_letter_X6_goesWell
theorem dX6_letter_0 : decode cX6_letter 0 = .ok (.iload_n 1, 1) := by decide +kernel
theorem dX6_letter_1 : decode cX6_letter 1 = .ok (.invokestatic 89, 3) := by decide +kernel
theorem dX6_letter_4 : decode cX6_letter 4 = .ok (.iconst (-1), 1) := by decide +kernel
theorem dX6_letter_5 : decode cX6_letter 5 = .ok (.if_icmp .ne 17, 3) := by decide +kernel
theorem dX6_letter_8 : decode cX6_letter 8 = .ok (.iload_n 1, 1) := by decide +kernel
theorem dX6_letter_9 : decode cX6_letter 9 = .ok (.invokestatic 93, 3) := by decide +kernel
theorem dX6_letter_12 : decode cX6_letter 12 = .ok (.iconst (-1), 1) := by decide +kernel
theorem dX6_letter_13 : decode cX6_letter 13 = .ok (.if_icmp .ne 9, 3) := by decide +kernel
theorem dX6_letter_16 : decode cX6_letter 16 = .ok (.iload_n 1, 1) := by decide +kernel
theorem dX6_letter_17 : decode cX6_letter 17 = .ok (.bipush 41, 2) := by decide +kernel
theorem dX6_letter_19 : decode cX6_letter 19 = .ok (.if_icmp .ne 7, 3) := by decide +kernel
theorem dX6_letter_22 : decode cX6_letter 22 = .ok (.iconst 1, 1) := by decide +kernel
theorem dX6_letter_23 : decode cX6_letter 23 = .ok (.goto 4, 3) := by decide +kernel
theorem dX6_letter_26 : decode cX6_letter 26 = .ok (.iconst 0, 1) := by decide +kernel
theorem dX6_letter_27 : decode cX6_letter 27 = .ok (.istore_n 2, 1) := by decide +kernel
theorem dX6_letter_28 : decode cX6_letter 28 = .ok (.aload_n 0, 1) := by decide +kernel
theorem dX6_letter_29 : decode cX6_letter 29 = .ok (.iload_n 2, 1) := by decide +kernel
theorem dX6_letter_30 : decode cX6_letter 30 = .ok (.ifCond .ne 7, 3) := by decide +kernel
theorem dX6_letter_33 : decode cX6_letter 33 = .ok (.iconst 1, 1) := by decide +kernel
theorem dX6_letter_34 : decode cX6_letter 34 = .ok (.goto 17, 3) := by decide +kernel
theorem dX6_letter_37 : decode cX6_letter 37 = .ok (.aload_n 0, 1) := by decide +kernel
theorem dX6_letter_38 : decode cX6_letter 38 = .ok (.getfield 96, 3) := by decide +kernel
theorem dX6_letter_41 : decode cX6_letter 41 = .ok (.bipush 40, 2) := by decide +kernel
theorem dX6_letter_43 : decode cX6_letter 43 = .ok (.if_icmp .ne 7, 3) := by decide +kernel
theorem dX6_letter_46 : decode cX6_letter 46 = .ok (.iconst 2, 1) := by decide +kernel
theorem dX6_letter_47 : decode cX6_letter 47 = .ok (.goto 4, 3) := by decide +kernel
theorem dX6_letter_50 : decode cX6_letter 50 = .ok (.iconst 0, 1) := by decide +kernel
theorem dX6_letter_51 : decode cX6_letter 51 = .ok (.invokevirtual 99, 3) := by decide +kernel
theorem dX6_letter_54 : decode cX6_letter 54 = .ok (.ifCond .ne 5, 3) := by decide +kernel
theorem dX6_letter_57 : decode cX6_letter 57 = .ok (.iconst 0, 1) := by decide +kernel
theorem dX6_letter_58 : decode cX6_letter 58 = .ok (.ireturn, 1) := by decide +kernel
theorem dX6_letter_59 : decode cX6_letter 59 = .ok (.aload_n 0, 1) := by decide +kernel
theorem dX6_letter_60 : decode cX6_letter 60 = .ok (.getfield 7, 3) := by decide +kernel
theorem dX6_letter_63 : decode cX6_letter 63 = .ok (.aload_n 0, 1) := by decide +kernel
theorem dX6_letter_64 : decode cX6_letter 64 = .ok (.getfield 96, 3) := by decide +kernel
theorem dX6_letter_67 : decode cX6_letter 67 = .ok (.iload_n 1, 1) := by decide +kernel
theorem dX6_letter_68 : decode cX6_letter 68 = .ok (.castore, 1) := by decide +kernel
theorem dX6_letter_69 : decode cX6_letter 69 = .ok (.aload_n 0, 1) := by decide +kernel
theorem dX6_letter_70 : decode cX6_letter 70 = .ok (.dup, 1) := by decide +kernel
theorem dX6_letter_71 : decode cX6_letter 71 = .ok (.getfield 96, 3) := by decide +kernel
theorem dX6_letter_74 : decode cX6_letter 74 = .ok (.iconst 1, 1) := by decide +kernel
theorem dX6_letter_75 : decode cX6_letter 75 = .ok (.iadd, 1) := by decide +kernel
theorem dX6_letter_76 : decode cX6_letter 76 = .ok (.putfield 96, 3) := by decide +kernel
theorem dX6_letter_79 : decode cX6_letter 79 = .ok (.aload_n 0, 1) := by decide +kernel
theorem dX6_letter_80 : decode cX6_letter 80 = .ok (.getfield 96, 3) := by decide +kernel
theorem dX6_letter_83 : decode cX6_letter 83 = .ok (.ireturn, 1) := by decide +kernel
theorem dX6_blank_0 : decode cX6_blank 0 = .ok (.aload_n 0, 1) := by decide +kernel
theorem dX6_blank_1 : decode cX6_blank 1 = .ok (.iconst 0, 1) := by decide +kernel
theorem dX6_blank_2 : decode cX6_blank 2 = .ok (.putfield 81, 3) := by decide +kernel
theorem dX6_blank_5 : decode cX6_blank 5 = .ok (.aload_n 0, 1) := by decide +kernel
theorem dX6_blank_6 : decode cX6_blank 6 = .ok (.getfield 96, 3) := by decide +kernel
theorem dX6_blank_9 : decode cX6_blank 9 = .ok (.istore_n 1, 1) := by decide +kernel
theorem dX6_blank_10 : decode cX6_blank 10 = .ok (.aload_n 0, 1) := by decide +kernel
theorem dX6_blank_11 : decode cX6_blank 11 = .ok (.iconst 0, 1) := by decide +kernel
theorem dX6_blank_12 : decode cX6_blank 12 = .ok (.putfield 96, 3) := by decide +kernel
theorem dX6_blank_15 : decode cX6_blank 15 = .ok (.iload_n 1, 1) := by decide +kernel
theorem dX6_blank_16 : decode cX6_blank 16 = .ok (.ireturn, 1) := by decide +kernel
set_option maxRecDepth 20000 in
theorem ggX6_make_X6_measure : GoodIn wsX6_make wsX6_measure := goodIn_r _ [11, 3, 4, 12, 13, 14, 5, 6, 1, 15, 16, 10, 17, 18, 19, 20, 21, 22, 23, 24, 25, 26, 27, 28, 29, 30, 31, 32, 33, 34, 35, 36, 37, 38, 39, 40, 41, 42, 43, 44, 45, 46, 47, 48, 49] (by decide +kernel) (by decide +kernel)
set_option maxRecDepth 20000 in
theorem gX6_make_X6_measure : GoodIn wsX6_make (wsV RX6 106 RX6 yX6_measure wsX6_measure) := goodIn_app (goodIn_of _ (by decide +kernel)) ggX6_make_X6_measure
theorem dX6_make_0 : decode cX6_make 0 = .ok (.aload_n 0, 1) := by decide +kernel
theorem dX6_make_1 : decode cX6_make 1 = .ok (.getfield 13, 3) := by decide +kernel
theorem dX6_make_4 : decode cX6_make 4 = .ok (.aload_n 0, 1) := by decide +kernel
theorem dX6_make_5 : decode cX6_make 5 = .ok (.getfield 103, 3) := by decide +kernel
theorem dX6_make_8 : decode cX6_make 8 = .ok (.iload_n 1, 1) := by decide +kernel
theorem dX6_make_9 : decode cX6_make 9 = .ok (.iastore, 1) := by decide +kernel
theorem dX6_make_10 : decode cX6_make 10 = .ok (.aload_n 0, 1) := by decide +kernel
theorem dX6_make_11 : decode cX6_make 11 = .ok (.getfield 17, 3) := by decide +kernel
theorem dX6_make_14 : decode cX6_make 14 = .ok (.aload_n 0, 1) := by decide +kernel
theorem dX6_make_15 : decode cX6_make 15 = .ok (.getfield 103, 3) := by decide +kernel
theorem dX6_make_18 : decode cX6_make 18 = .ok (.iload_n 2, 1) := by decide +kernel
theorem dX6_make_19 : decode cX6_make 19 = .ok (.iastore, 1) := by decide +kernel
theorem dX6_make_20 : decode cX6_make 20 = .ok (.aload_n 0, 1) := by decide +kernel
theorem dX6_make_21 : decode cX6_make 21 = .ok (.getfield 20, 3) := by decide +kernel
theorem dX6_make_24 : decode cX6_make 24 = .ok (.aload_n 0, 1) := by decide +kernel
theorem dX6_make_25 : decode cX6_make 25 = .ok (.getfield 103, 3) := by decide +kernel
theorem dX6_make_28 : decode cX6_make 28 = .ok (.iload_n 3, 1) := by decide +kernel
theorem dX6_make_29 : decode cX6_make 29 = .ok (.iastore, 1) := by decide +kernel
theorem dX6_make_30 : decode cX6_make 30 = .ok (.aload_n 0, 1) := by decide +kernel
theorem dX6_make_31 : decode cX6_make 31 = .ok (.getfield 23, 3) := by decide +kernel
theorem dX6_make_34 : decode cX6_make 34 = .ok (.aload_n 0, 1) := by decide +kernel
theorem dX6_make_35 : decode cX6_make 35 = .ok (.getfield 103, 3) := by decide +kernel
theorem dX6_make_38 : decode cX6_make 38 = .ok (.iload 4, 2) := by decide +kernel
theorem dX6_make_40 : decode cX6_make 40 = .ok (.iastore, 1) := by decide +kernel
theorem dX6_make_41 : decode cX6_make 41 = .ok (.aload_n 0, 1) := by decide +kernel
theorem dX6_make_42 : decode cX6_make 42 = .ok (.getfield 26, 3) := by decide +kernel
theorem dX6_make_45 : decode cX6_make 45 = .ok (.aload_n 0, 1) := by decide +kernel
theorem dX6_make_46 : decode cX6_make 46 = .ok (.getfield 103, 3) := by decide +kernel
theorem dX6_make_49 : decode cX6_make 49 = .ok (.iload 5, 2) := by decide +kernel
theorem dX6_make_51 : decode cX6_make 51 = .ok (.iastore, 1) := by decide +kernel
theorem dX6_make_52 : decode cX6_make 52 = .ok (.aload_n 0, 1) := by decide +kernel
theorem dX6_make_53 : decode cX6_make 53 = .ok (.aload_n 0, 1) := by decide +kernel
theorem dX6_make_54 : decode cX6_make 54 = .ok (.getfield 103, 3) := by decide +kernel
theorem dX6_make_57 : decode cX6_make 57 = .ok (.invokevirtual 106, 3) := by decide +kernel
theorem dX6_make_60 : decode cX6_make 60 = .ok (.aload_n 0, 1) := by decide +kernel
theorem dX6_make_61 : decode cX6_make 61 = .ok (.dup, 1) := by decide +kernel
theorem dX6_make_62 : decode cX6_make 62 = .ok (.getfield 103, 3) := by decide +kernel
theorem dX6_make_65 : decode cX6_make 65 = .ok (.iconst 1, 1) := by decide +kernel
theorem dX6_make_66 : decode cX6_make 66 = .ok (.iadd, 1) := by decide +kernel
theorem dX6_make_67 : decode cX6_make 67 = .ok (.putfield 103, 3) := by decide +kernel
theorem dX6_make_70 : decode cX6_make 70 = .ok (.aload_n 0, 1) := by decide +kernel
theorem dX6_make_71 : decode cX6_make 71 = .ok (.getfield 103, 3) := by decide +kernel
theorem dX6_make_74 : decode cX6_make 74 = .ok (.iconst 1, 1) := by decide +kernel
theorem dX6_make_75 : decode cX6_make 75 = .ok (.isub, 1) := by decide +kernel
theorem dX6_make_76 : decode cX6_make 76 = .ok (.ireturn, 1) := by decide +kernel
set_option maxRecDepth 20000 in
theorem ggX6_measure_X6_lesser : GoodIn wsX6_measure wsX6_lesser := goodIn_r _ [12] (by decide +kernel) (by decide +kernel)
set_option maxRecDepth 20000 in
theorem gX6_measure_X6_lesser : GoodIn wsX6_measure (va_wsS RX6 110 yX6_lesser wsX6_lesser) := goodIn_app (goodIn_of _ (by decide +kernel)) ggX6_measure_X6_lesser
theorem dX6_measure_0 : decode cX6_measure 0 = .ok (.aload_n 0, 1) := by decide +kernel
theorem dX6_measure_1 : decode cX6_measure 1 = .ok (.getfield 17, 3) := by decide +kernel
theorem dX6_measure_4 : decode cX6_measure 4 = .ok (.iload_n 1, 1) := by decide +kernel
theorem dX6_measure_5 : decode cX6_measure 5 = .ok (.iaload, 1) := by decide +kernel
theorem dX6_measure_6 : decode cX6_measure 6 = .ok (.istore_n 2, 1) := by decide +kernel
theorem dX6_measure_7 : decode cX6_measure 7 = .ok (.aload_n 0, 1) := by decide +kernel
theorem dX6_measure_8 : decode cX6_measure 8 = .ok (.getfield 20, 3) := by decide +kernel
theorem dX6_measure_11 : decode cX6_measure 11 = .ok (.iload_n 1, 1) := by decide +kernel
theorem dX6_measure_12 : decode cX6_measure 12 = .ok (.iaload, 1) := by decide +kernel
theorem dX6_measure_13 : decode cX6_measure 13 = .ok (.istore_n 3, 1) := by decide +kernel
theorem dX6_measure_14 : decode cX6_measure 14 = .ok (.iload_n 2, 1) := by decide +kernel
theorem dX6_measure_15 : decode cX6_measure 15 = .ok (.iconst (-1), 1) := by decide +kernel
theorem dX6_measure_16 : decode cX6_measure 16 = .ok (.if_icmp .ne 7, 3) := by decide +kernel
theorem dX6_measure_19 : decode cX6_measure 19 = .ok (.iconst 0, 1) := by decide +kernel
theorem dX6_measure_20 : decode cX6_measure 20 = .ok (.goto 9, 3) := by decide +kernel
theorem dX6_measure_23 : decode cX6_measure 23 = .ok (.aload_n 0, 1) := by decide +kernel
theorem dX6_measure_24 : decode cX6_measure 24 = .ok (.getfield 29, 3) := by decide +kernel
theorem dX6_measure_27 : decode cX6_measure 27 = .ok (.iload_n 2, 1) := by decide +kernel
theorem dX6_measure_28 : decode cX6_measure 28 = .ok (.iaload, 1) := by decide +kernel
theorem dX6_measure_29 : decode cX6_measure 29 = .ok (.istore 4, 2) := by decide +kernel
theorem dX6_measure_31 : decode cX6_measure 31 = .ok (.iload_n 2, 1) := by decide +kernel
theorem dX6_measure_32 : decode cX6_measure 32 = .ok (.iconst (-1), 1) := by decide +kernel
theorem dX6_measure_33 : decode cX6_measure 33 = .ok (.if_icmp .ne 7, 3) := by decide +kernel
theorem dX6_measure_36 : decode cX6_measure 36 = .ok (.iconst 0, 1) := by decide +kernel
theorem dX6_measure_37 : decode cX6_measure 37 = .ok (.goto 9, 3) := by decide +kernel
theorem dX6_measure_40 : decode cX6_measure 40 = .ok (.aload_n 0, 1) := by decide +kernel
theorem dX6_measure_41 : decode cX6_measure 41 = .ok (.getfield 32, 3) := by decide +kernel
theorem dX6_measure_44 : decode cX6_measure 44 = .ok (.iload_n 2, 1) := by decide +kernel
theorem dX6_measure_45 : decode cX6_measure 45 = .ok (.iaload, 1) := by decide +kernel
theorem dX6_measure_46 : decode cX6_measure 46 = .ok (.istore 5, 2) := by decide +kernel
theorem dX6_measure_48 : decode cX6_measure 48 = .ok (.iload_n 2, 1) := by decide +kernel
theorem dX6_measure_49 : decode cX6_measure 49 = .ok (.iconst (-1), 1) := by decide +kernel
theorem dX6_measure_50 : decode cX6_measure 50 = .ok (.if_icmp .ne 7, 3) := by decide +kernel
theorem dX6_measure_53 : decode cX6_measure 53 = .ok (.iconst 0, 1) := by decide +kernel
theorem dX6_measure_54 : decode cX6_measure 54 = .ok (.goto 9, 3) := by decide +kernel
theorem dX6_measure_57 : decode cX6_measure 57 = .ok (.aload_n 0, 1) := by decide +kernel
theorem dX6_measure_58 : decode cX6_measure 58 = .ok (.getfield 35, 3) := by decide +kernel
theorem dX6_measure_61 : decode cX6_measure 61 = .ok (.iload_n 2, 1) := by decide +kernel
theorem dX6_measure_62 : decode cX6_measure 62 = .ok (.iaload, 1) := by decide +kernel
theorem dX6_measure_63 : decode cX6_measure 63 = .ok (.istore 6, 2) := by decide +kernel
theorem dX6_measure_65 : decode cX6_measure 65 = .ok (.aload_n 0, 1) := by decide +kernel
theorem dX6_measure_66 : decode cX6_measure 66 = .ok (.getfield 23, 3) := by decide +kernel
theorem dX6_measure_69 : decode cX6_measure 69 = .ok (.iload_n 1, 1) := by decide +kernel
theorem dX6_measure_70 : decode cX6_measure 70 = .ok (.iaload, 1) := by decide +kernel
theorem dX6_measure_71 : decode cX6_measure 71 = .ok (.iconst (-1), 1) := by decide +kernel
theorem dX6_measure_72 : decode cX6_measure 72 = .ok (.if_icmp .ne 7, 3) := by decide +kernel
theorem dX6_measure_75 : decode cX6_measure 75 = .ok (.iconst 0, 1) := by decide +kernel
theorem dX6_measure_76 : decode cX6_measure 76 = .ok (.goto 11, 3) := by decide +kernel
theorem dX6_measure_79 : decode cX6_measure 79 = .ok (.iconst 1, 1) := by decide +kernel
theorem dX6_measure_80 : decode cX6_measure 80 = .ok (.aload_n 0, 1) := by decide +kernel
theorem dX6_measure_81 : decode cX6_measure 81 = .ok (.getfield 23, 3) := by decide +kernel
theorem dX6_measure_84 : decode cX6_measure 84 = .ok (.iload_n 1, 1) := by decide +kernel
theorem dX6_measure_85 : decode cX6_measure 85 = .ok (.iaload, 1) := by decide +kernel
theorem dX6_measure_86 : decode cX6_measure 86 = .ok (.ishl, 1) := by decide +kernel
theorem dX6_measure_87 : decode cX6_measure 87 = .ok (.istore 7, 2) := by decide +kernel
theorem dX6_measure_89 : decode cX6_measure 89 = .ok (.aload_n 0, 1) := by decide +kernel
theorem dX6_measure_90 : decode cX6_measure 90 = .ok (.getfield 26, 3) := by decide +kernel
theorem dX6_measure_93 : decode cX6_measure 93 = .ok (.iload_n 1, 1) := by decide +kernel
theorem dX6_measure_94 : decode cX6_measure 94 = .ok (.iaload, 1) := by decide +kernel
theorem dX6_measure_95 : decode cX6_measure 95 = .ok (.iconst (-1), 1) := by decide +kernel
theorem dX6_measure_96 : decode cX6_measure 96 = .ok (.if_icmp .ne 7, 3) := by decide +kernel
theorem dX6_measure_99 : decode cX6_measure 99 = .ok (.iconst 0, 1) := by decide +kernel
