theorem dX6_startsWith_71 : decode cX6_startsWith 71 = .ok (.iload_n 2, 1) := by decide +kernel
theorem dX6_startsWith_72 : decode cX6_startsWith 72 = .ok (.bipush 8, 2) := by decide +kernel
theorem dX6_startsWith_74 : decode cX6_startsWith 74 = .ok (.if_icmp .ge 7, 3) := by decide +kernel
theorem dX6_startsWith_77 : decode cX6_startsWith 77 = .ok (.iconst 3, 1) := by decide +kernel
theorem dX6_startsWith_78 : decode cX6_startsWith 78 = .ok (.goto 4, 3) := by decide +kernel
theorem dX6_startsWith_81 : decode cX6_startsWith 81 = .ok (.iconst 4, 1) := by decide +kernel
theorem dX6_startsWith_82 : decode cX6_startsWith 82 = .ok (.putfield 121, 3) := by decide +kernel
theorem dX6_startsWith_85 : decode cX6_startsWith 85 = .ok (.goto 5, 3) := by decide +kernel
theorem dX6_startsWith_88 : decode cX6_startsWith 88 = .ok (.iconst 0, 1) := by decide +kernel
theorem dX6_startsWith_89 : decode cX6_startsWith 89 = .ok (.ireturn, 1) := by decide +kernel
theorem dX6_startsWith_90 : decode cX6_startsWith 90 = .ok (.iconst 1, 1) := by decide +kernel
theorem dX6_startsWith_91 : decode cX6_startsWith 91 = .ok (.ireturn, 1) := by decide +kernel
set_option maxRecDepth 20000 in
theorem ggX6_names_X6_variableOf : GoodIn wsX6_names wsX6_variableOf := goodIn_r _ [9, 10, 11, 8, 12] rfl (by decide +kernel)
set_option maxRecDepth 20000 in
theorem gX6_names_X6_variableOf : GoodIn wsX6_names (va_wsS RX6 89 yX6_variableOf wsX6_variableOf) := goodIn_app (goodIn_of _ (by decide +kernel)) ggX6_names_X6_variableOf
set_option maxRecDepth 20000 in
theorem ggX6_names_X6_make : GoodIn wsX6_names wsX6_make := goodIn_r _ [16, 17, 18, 19, 20, 21, 22, 23, 24, 25, 8, 26, 27, 28, 29, 30, 31, 32, 37, 38, 39, 40, 41, 42, 43, 44, 45, 46, 47, 48, 49, 50, 51, 52, 53, 54, 55, 56, 57, 58, 59, 60, 61, 62, 63, 64, 65, 66, 67, 68] rfl (by decide +kernel)
set_option maxRecDepth 20000 in
theorem gX6_names_X6_make : GoodIn wsX6_names (wsV RX6 117 RX6 yX6_make wsX6_make) := goodIn_app (goodIn_of _ (by decide +kernel)) ggX6_names_X6_make
set_option maxRecDepth 20000 in
theorem ggX6_names_X6_end : GoodIn wsX6_names wsX6_end := goodIn_r _ [36, 2, 3, 4, 5, 1, 10, 11, 8, 12, 13, 14, 15, 16, 17, 18, 19, 20, 21, 22, 23, 24, 25, 26, 27, 28, 29, 30, 31, 32, 37, 38, 39, 40, 41, 42, 43, 44, 45, 46, 47, 48, 49, 50, 51, 52, 53, 54, 55, 56, 57, 58, 59, 60, 61, 62, 63, 64, 65, 66, 67, 68] rfl (by decide +kernel)
set_option maxRecDepth 20000 in
theorem gX6_names_X6_end : GoodIn wsX6_names (wsV RX6 128 RX6 yX6_end wsX6_end) := goodIn_app (goodIn_of _ (by decide +kernel)) ggX6_names_X6_end
theorem dX6_names_0 : decode cX6_names 0 = .ok (.iload_n 1, 1) := by decide +kernel
theorem dX6_names_1 : decode cX6_names 1 = .ok (.invokestatic 89, 3) := by decide +kernel
theorem dX6_names_4 : decode cX6_names 4 = .ok (.istore_n 2, 1) := by decide +kernel
theorem dX6_names_5 : decode cX6_names 5 = .ok (.iload_n 2, 1) := by decide +kernel
theorem dX6_names_6 : decode cX6_names 6 = .ok (.iconst (-1), 1) := by decide +kernel
theorem dX6_names_7 : decode cX6_names 7 = .ok (.if_icmp .ne 5, 3) := by decide +kernel
theorem dX6_names_10 : decode cX6_names 10 = .ok (.iconst 0, 1) := by decide +kernel
theorem dX6_names_11 : decode cX6_names 11 = .ok (.ireturn, 1) := by decide +kernel
theorem dX6_names_12 : decode cX6_names 12 = .ok (.aload_n 0, 1) := by decide +kernel
theorem dX6_names_13 : decode cX6_names 13 = .ok (.getfield 121, 3) := by decide +kernel
theorem dX6_names_16 : decode cX6_names 16 = .ok (.iconst 2, 1) := by decide +kernel
theorem dX6_names_17 : decode cX6_names 17 = .ok (.if_icmp .ne 45, 3) := by decide +kernel
theorem dX6_names_20 : decode cX6_names 20 = .ok (.aload_n 0, 1) := by decide +kernel
theorem dX6_names_21 : decode cX6_names 21 = .ok (.dup, 1) := by decide +kernel
theorem dX6_names_22 : decode cX6_names 22 = .ok (.getfield 114, 3) := by decide +kernel
theorem dX6_names_25 : decode cX6_names 25 = .ok (.iconst 1, 1) := by decide +kernel
theorem dX6_names_26 : decode cX6_names 26 = .ok (.isub, 1) := by decide +kernel
theorem dX6_names_27 : decode cX6_names 27 = .ok (.putfield 114, 3) := by decide +kernel
theorem dX6_names_30 : decode cX6_names 30 = .ok (.aload_n 0, 1) := by decide +kernel
theorem dX6_names_31 : decode cX6_names 31 = .ok (.aload_n 0, 1) := by decide +kernel
theorem dX6_names_32 : decode cX6_names 32 = .ok (.aload_n 0, 1) := by decide +kernel
theorem dX6_names_33 : decode cX6_names 33 = .ok (.getfield 38, 3) := by decide +kernel
theorem dX6_names_36 : decode cX6_names 36 = .ok (.aload_n 0, 1) := by decide +kernel
theorem dX6_names_37 : decode cX6_names 37 = .ok (.getfield 114, 3) := by decide +kernel
theorem dX6_names_40 : decode cX6_names 40 = .ok (.iaload, 1) := by decide +kernel
theorem dX6_names_41 : decode cX6_names 41 = .ok (.iconst (-1), 1) := by decide +kernel
theorem dX6_names_42 : decode cX6_names 42 = .ok (.iconst (-1), 1) := by decide +kernel
theorem dX6_names_43 : decode cX6_names 43 = .ok (.aload_n 0, 1) := by decide +kernel
theorem dX6_names_44 : decode cX6_names 44 = .ok (.getfield 41, 3) := by decide +kernel
theorem dX6_names_47 : decode cX6_names 47 = .ok (.aload_n 0, 1) := by decide +kernel
theorem dX6_names_48 : decode cX6_names 48 = .ok (.getfield 114, 3) := by decide +kernel
theorem dX6_names_51 : decode cX6_names 51 = .ok (.iaload, 1) := by decide +kernel
theorem dX6_names_52 : decode cX6_names 52 = .ok (.iload_n 2, 1) := by decide +kernel
theorem dX6_names_53 : decode cX6_names 53 = .ok (.invokevirtual 117, 3) := by decide +kernel
theorem dX6_names_56 : decode cX6_names 56 = .ok (.invokevirtual 128, 3) := by decide +kernel
theorem dX6_names_59 : decode cX6_names 59 = .ok (.goto 60, 3) := by decide +kernel
theorem dX6_names_62 : decode cX6_names 62 = .ok (.aload_n 0, 1) := by decide +kernel
theorem dX6_names_63 : decode cX6_names 63 = .ok (.getfield 121, 3) := by decide +kernel
theorem dX6_names_66 : decode cX6_names 66 = .ok (.iconst 5, 1) := by decide +kernel
theorem dX6_names_67 : decode cX6_names 67 = .ok (.if_icmp .ne 23, 3) := by decide +kernel
theorem dX6_names_70 : decode cX6_names 70 = .ok (.aload_n 0, 1) := by decide +kernel
theorem dX6_names_71 : decode cX6_names 71 = .ok (.getfield 44, 3) := by decide +kernel
theorem dX6_names_74 : decode cX6_names 74 = .ok (.aload_n 0, 1) := by decide +kernel
theorem dX6_names_75 : decode cX6_names 75 = .ok (.getfield 114, 3) := by decide +kernel
theorem dX6_names_78 : decode cX6_names 78 = .ok (.iconst 1, 1) := by decide +kernel
theorem dX6_names_79 : decode cX6_names 79 = .ok (.isub, 1) := by decide +kernel
theorem dX6_names_80 : decode cX6_names 80 = .ok (.iload_n 2, 1) := by decide +kernel
theorem dX6_names_81 : decode cX6_names 81 = .ok (.iastore, 1) := by decide +kernel
theorem dX6_names_82 : decode cX6_names 82 = .ok (.aload_n 0, 1) := by decide +kernel
theorem dX6_names_83 : decode cX6_names 83 = .ok (.iconst 0, 1) := by decide +kernel
theorem dX6_names_84 : decode cX6_names 84 = .ok (.putfield 121, 3) := by decide +kernel
theorem dX6_names_87 : decode cX6_names 87 = .ok (.goto 32, 3) := by decide +kernel
theorem dX6_names_90 : decode cX6_names 90 = .ok (.aload_n 0, 1) := by decide +kernel
theorem dX6_names_91 : decode cX6_names 91 = .ok (.getfield 41, 3) := by decide +kernel
theorem dX6_names_94 : decode cX6_names 94 = .ok (.aload_n 0, 1) := by decide +kernel
theorem dX6_names_95 : decode cX6_names 95 = .ok (.getfield 114, 3) := by decide +kernel
theorem dX6_names_98 : decode cX6_names 98 = .ok (.iconst 1, 1) := by decide +kernel
theorem dX6_names_99 : decode cX6_names 99 = .ok (.isub, 1) := by decide +kernel
theorem dX6_names_100 : decode cX6_names 100 = .ok (.iload_n 2, 1) := by decide +kernel
theorem dX6_names_101 : decode cX6_names 101 = .ok (.iastore, 1) := by decide +kernel
theorem dX6_names_102 : decode cX6_names 102 = .ok (.aload_n 0, 1) := by decide +kernel
theorem dX6_names_103 : decode cX6_names 103 = .ok (.aload_n 0, 1) := by decide +kernel
theorem dX6_names_104 : decode cX6_names 104 = .ok (.getfield 121, 3) := by decide +kernel
theorem dX6_names_107 : decode cX6_names 107 = .ok (.iconst 4, 1) := by decide +kernel
theorem dX6_names_108 : decode cX6_names 108 = .ok (.if_icmp .ne 7, 3) := by decide +kernel
theorem dX6_names_111 : decode cX6_names 111 = .ok (.iconst 5, 1) := by decide +kernel
theorem dX6_names_112 : decode cX6_names 112 = .ok (.goto 4, 3) := by decide +kernel
theorem dX6_names_115 : decode cX6_names 115 = .ok (.iconst 0, 1) := by decide +kernel
theorem dX6_names_116 : decode cX6_names 116 = .ok (.putfield 121, 3) := by decide +kernel
theorem dX6_names_119 : decode cX6_names 119 = .ok (.iconst 1, 1) := by decide +kernel
theorem dX6_names_120 : decode cX6_names 120 = .ok (.ireturn, 1) := by decide +kernel
set_option maxRecDepth 20000 in
theorem ggX6_goesOn_X6_kindOf : GoodIn wsX6_goesOn wsX6_kindOf := goodIn_r _ [9] rfl (by decide +kernel)
set_option maxRecDepth 20000 in
theorem gX6_goesOn_X6_kindOf : GoodIn wsX6_goesOn (va_wsS RX6 93 yX6_kindOf wsX6_kindOf) := goodIn_app (goodIn_of _ (by decide +kernel)) ggX6_goesOn_X6_kindOf
set_option maxRecDepth 20000 in
theorem ggX6_goesOn_X6_startsWith : GoodIn wsX6_goesOn wsX6_startsWith := goodIn_r _ [13, 1, 6, 7, 8, 9, 14, 15, 16, 17, 18, 19, 20, 21, 22, 23, 2, 3, 4, 5, 52, 53, 54, 55, 56, 57, 58, 59, 60, 61, 62, 63, 64, 65, 66, 67, 68, 69, 70, 71, 72, 73, 74, 75, 76, 77, 78, 79, 80, 81, 82, 83] rfl (by decide +kernel)
set_option maxRecDepth 20000 in
theorem gX6_goesOn_X6_startsWith : GoodIn wsX6_goesOn (wsV RX6 131 RX6 yX6_startsWith wsX6_startsWith) := goodIn_app (goodIn_of _ (by decide +kernel)) ggX6_goesOn_X6_startsWith
set_option maxRecDepth 20000 in
theorem ggX6_goesOn_X6_in : GoodIn wsX6_goesOn wsX6_in := goodIn_r _ [19] rfl (by decide +kernel)
set_option maxRecDepth 20000 in
theorem gX6_goesOn_X6_in : GoodIn wsX6_goesOn (va_wsS RX6 85 yX6_in wsX6_in) := goodIn_app (goodIn_of _ (by decide +kernel)) ggX6_goesOn_X6_in
set_option maxRecDepth 20000 in
theorem ggX6_goesOn_X6_make : GoodIn wsX6_goesOn wsX6_make := goodIn_r _ [27, 28, 29, 30, 31, 32, 33, 34, 35, 36, 8, 37, 38, 39, 40, 41, 42, 43, 52, 53, 54, 55, 56, 57, 58, 59, 60, 61, 62, 63, 64, 65, 66, 67, 68, 69, 70, 71, 72, 73, 74, 75, 76, 77, 78, 79, 80, 81, 82, 83] rfl (by decide +kernel)
set_option maxRecDepth 20000 in
theorem gX6_goesOn_X6_make : GoodIn wsX6_goesOn (wsV RX6 117 RX6 yX6_make wsX6_make) := goodIn_app (goodIn_of _ (by decide +kernel)) ggX6_goesOn_X6_make
set_option maxRecDepth 20000 in
theorem ggX6_goesOn_X6_end : GoodIn wsX6_goesOn wsX6_end := goodIn_r _ [47, 3, 2, 4, 5, 1, 17, 18, 8, 19, 24, 25, 26, 27, 28, 29, 30, 31, 32, 33, 34, 35, 36, 37, 38, 39, 40, 41, 42, 43, 52, 53, 54, 55, 56, 57, 58, 59, 60, 61, 62, 63, 64, 65, 66, 67, 68, 69, 70, 71, 72, 73, 74, 75, 76, 77, 78, 79, 80, 81, 82, 83] rfl (by decide +kernel)
set_option maxRecDepth 20000 in
theorem gX6_goesOn_X6_end : GoodIn wsX6_goesOn (wsV RX6 128 RX6 yX6_end wsX6_end) := goodIn_app (goodIn_of _ (by decide +kernel)) ggX6_goesOn_X6_end
set_option maxRecDepth 20000 in
theorem ggX6_goesOn_X6_names : GoodIn wsX6_goesOn wsX6_names := goodIn_r _ [51, 1, 3, 2, 4, 5, 14, 15, 8, 16, 17, 18, 19, 24, 25, 26, 27, 28, 29, 30, 31, 32, 33, 34, 35, 36, 37, 38, 39, 40, 41, 42, 43, 44, 45, 46, 47, 52, 53, 54, 55, 56, 57, 58, 59, 60, 61, 62, 63, 64, 65, 66, 67, 68, 69, 70, 71, 72, 73, 74, 75, 76, 77, 78, 79, 80, 81, 82, 83] rfl (by decide +kernel)
set_option maxRecDepth 20000 in
theorem gX6_goesOn_X6_names : GoodIn wsX6_goesOn (wsV RX6 135 RX6 yX6_names wsX6_names) := goodIn_app (goodIn_of _ (by decide +kernel)) ggX6_goesOn_X6_names
theorem dX6_goesOn_0 : decode cX6_goesOn 0 = .ok (.iload_n 1, 1) := by decide +kernel
theorem dX6_goesOn_1 : decode cX6_goesOn 1 = .ok (.invokestatic 93, 3) := by decide +kernel
theorem dX6_goesOn_4 : decode cX6_goesOn 4 = .ok (.istore_n 2, 1) := by decide +kernel
theorem dX6_goesOn_5 : decode cX6_goesOn 5 = .ok (.aload_n 0, 1) := by decide +kernel
theorem dX6_goesOn_6 : decode cX6_goesOn 6 = .ok (.getfield 121, 3) := by decide +kernel
theorem dX6_goesOn_9 : decode cX6_goesOn 9 = .ok (.tableswitch 180 0 8 #[51, 57, 180, 180, 180, 180, 89, 113, 178], 51) := by decide +kernel
theorem dX6_goesOn_60 : decode cX6_goesOn 60 = .ok (.aload_n 0, 1) := by decide +kernel
theorem dX6_goesOn_61 : decode cX6_goesOn 61 = .ok (.iload_n 1, 1) := by decide +kernel
theorem dX6_goesOn_62 : decode cX6_goesOn 62 = .ok (.invokevirtual 131, 3) := by decide +kernel
theorem dX6_goesOn_65 : decode cX6_goesOn 65 = .ok (.ireturn, 1) := by decide +kernel
theorem dX6_goesOn_66 : decode cX6_goesOn 66 = .ok (.aload_n 0, 1) := by decide +kernel
theorem dX6_goesOn_67 : decode cX6_goesOn 67 = .ok (.getfield 38, 3) := by decide +kernel
theorem dX6_goesOn_70 : decode cX6_goesOn 70 = .ok (.aload_n 0, 1) := by decide +kernel
theorem dX6_goesOn_71 : decode cX6_goesOn 71 = .ok (.getfield 114, 3) := by decide +kernel
theorem dX6_goesOn_74 : decode cX6_goesOn 74 = .ok (.iconst 1, 1) := by decide +kernel
theorem dX6_goesOn_75 : decode cX6_goesOn 75 = .ok (.isub, 1) := by decide +kernel
theorem dX6_goesOn_76 : decode cX6_goesOn 76 = .ok (.iload_n 2, 1) := by decide +kernel
theorem dX6_goesOn_77 : decode cX6_goesOn 77 = .ok (.iastore, 1) := by decide +kernel
theorem dX6_goesOn_78 : decode cX6_goesOn 78 = .ok (.aload_n 0, 1) := by decide +kernel
theorem dX6_goesOn_79 : decode cX6_goesOn 79 = .ok (.iconst 2, 1) := by decide +kernel
theorem dX6_goesOn_80 : decode cX6_goesOn 80 = .ok (.putfield 121, 3) := by decide +kernel
theorem dX6_goesOn_83 : decode cX6_goesOn 83 = .ok (.iload_n 2, 1) := by decide +kernel
theorem dX6_goesOn_84 : decode cX6_goesOn 84 = .ok (.ifCond .eq 8, 3) := by decide +kernel
theorem dX6_goesOn_87 : decode cX6_goesOn 87 = .ok (.iload_n 2, 1) := by decide +kernel
theorem dX6_goesOn_88 : decode cX6_goesOn 88 = .ok (.iconst 1, 1) := by decide +kernel
theorem dX6_goesOn_89 : decode cX6_goesOn 89 = .ok (.if_icmp .ne 7, 3) := by decide +kernel
theorem dX6_goesOn_92 : decode cX6_goesOn 92 = .ok (.iconst 1, 1) := by decide +kernel
theorem dX6_goesOn_93 : decode cX6_goesOn 93 = .ok (.goto 4, 3) := by decide +kernel
theorem dX6_goesOn_96 : decode cX6_goesOn 96 = .ok (.iconst 0, 1) := by decide +kernel
theorem dX6_goesOn_97 : decode cX6_goesOn 97 = .ok (.ireturn, 1) := by decide +kernel
theorem dX6_goesOn_98 : decode cX6_goesOn 98 = .ok (.aload_n 0, 1) := by decide +kernel
theorem dX6_goesOn_99 : decode cX6_goesOn 99 = .ok (.getfield 38, 3) := by decide +kernel
theorem dX6_goesOn_102 : decode cX6_goesOn 102 = .ok (.aload_n 0, 1) := by decide +kernel
theorem dX6_goesOn_103 : decode cX6_goesOn 103 = .ok (.getfield 114, 3) := by decide +kernel
theorem dX6_goesOn_106 : decode cX6_goesOn 106 = .ok (.iconst 1, 1) := by decide +kernel
theorem dX6_goesOn_107 : decode cX6_goesOn 107 = .ok (.isub, 1) := by decide +kernel
theorem dX6_goesOn_108 : decode cX6_goesOn 108 = .ok (.iload_n 2, 1) := by decide +kernel
theorem dX6_goesOn_109 : decode cX6_goesOn 109 = .ok (.iastore, 1) := by decide +kernel
theorem dX6_goesOn_110 : decode cX6_goesOn 110 = .ok (.aload_n 0, 1) := by decide +kernel
theorem dX6_goesOn_111 : decode cX6_goesOn 111 = .ok (.iconst 0, 1) := by decide +kernel
theorem dX6_goesOn_112 : decode cX6_goesOn 112 = .ok (.putfield 121, 3) := by decide +kernel
theorem dX6_goesOn_115 : decode cX6_goesOn 115 = .ok (.iload_n 2, 1) := by decide +kernel
theorem dX6_goesOn_116 : decode cX6_goesOn 116 = .ok (.iconst 3, 1) := by decide +kernel
theorem dX6_goesOn_117 : decode cX6_goesOn 117 = .ok (.iconst 5, 1) := by decide +kernel
theorem dX6_goesOn_118 : decode cX6_goesOn 118 = .ok (.invokestatic 85, 3) := by decide +kernel
theorem dX6_goesOn_121 : decode cX6_goesOn 121 = .ok (.ireturn, 1) := by decide +kernel
theorem dX6_goesOn_122 : decode cX6_goesOn 122 = .ok (.iload_n 1, 1) := by decide +kernel
theorem dX6_goesOn_123 : decode cX6_goesOn 123 = .ok (.bipush 41, 2) := by decide +kernel
theorem dX6_goesOn_125 : decode cX6_goesOn 125 = .ok (.if_icmp .ne 50, 3) := by decide +kernel
theorem dX6_goesOn_128 : decode cX6_goesOn 128 = .ok (.aload_n 0, 1) := by decide +kernel
theorem dX6_goesOn_129 : decode cX6_goesOn 129 = .ok (.dup, 1) := by decide +kernel
theorem dX6_goesOn_130 : decode cX6_goesOn 130 = .ok (.getfield 114, 3) := by decide +kernel
theorem dX6_goesOn_133 : decode cX6_goesOn 133 = .ok (.iconst 1, 1) := by decide +kernel
theorem dX6_goesOn_134 : decode cX6_goesOn 134 = .ok (.isub, 1) := by decide +kernel
theorem dX6_goesOn_135 : decode cX6_goesOn 135 = .ok (.putfield 114, 3) := by decide +kernel
theorem dX6_goesOn_138 : decode cX6_goesOn 138 = .ok (.aload_n 0, 1) := by decide +kernel
theorem dX6_goesOn_139 : decode cX6_goesOn 139 = .ok (.aload_n 0, 1) := by decide +kernel
theorem dX6_goesOn_140 : decode cX6_goesOn 140 = .ok (.aload_n 0, 1) := by decide +kernel
theorem dX6_goesOn_141 : decode cX6_goesOn 141 = .ok (.getfield 38, 3) := by decide +kernel
theorem dX6_goesOn_144 : decode cX6_goesOn 144 = .ok (.aload_n 0, 1) := by decide +kernel
theorem dX6_goesOn_145 : decode cX6_goesOn 145 = .ok (.getfield 114, 3) := by decide +kernel
theorem dX6_goesOn_148 : decode cX6_goesOn 148 = .ok (.iaload, 1) := by decide +kernel
theorem dX6_goesOn_149 : decode cX6_goesOn 149 = .ok (.aload_n 0, 1) := by decide +kernel
theorem dX6_goesOn_150 : decode cX6_goesOn 150 = .ok (.getfield 41, 3) := by decide +kernel
theorem dX6_goesOn_153 : decode cX6_goesOn 153 = .ok (.aload_n 0, 1) := by decide +kernel
theorem dX6_goesOn_154 : decode cX6_goesOn 154 = .ok (.getfield 114, 3) := by decide +kernel
theorem dX6_goesOn_157 : decode cX6_goesOn 157 = .ok (.iaload, 1) := by decide +kernel
theorem dX6_goesOn_158 : decode cX6_goesOn 158 = .ok (.aload_n 0, 1) := by decide +kernel
theorem dX6_goesOn_159 : decode cX6_goesOn 159 = .ok (.getfield 44, 3) := by decide +kernel
theorem dX6_goesOn_162 : decode cX6_goesOn 162 = .ok (.aload_n 0, 1) := by decide +kernel
theorem dX6_goesOn_163 : decode cX6_goesOn 163 = .ok (.getfield 114, 3) := by decide +kernel
theorem dX6_goesOn_166 : decode cX6_goesOn 166 = .ok (.iaload, 1) := by decide +kernel
theorem dX6_goesOn_167 : decode cX6_goesOn 167 = .ok (.iconst (-1), 1) := by decide +kernel
theorem dX6_goesOn_168 : decode cX6_goesOn 168 = .ok (.iconst (-1), 1) := by decide +kernel
theorem dX6_goesOn_169 : decode cX6_goesOn 169 = .ok (.invokevirtual 117, 3) := by decide +kernel
theorem dX6_goesOn_172 : decode cX6_goesOn 172 = .ok (.invokevirtual 128, 3) := by decide +kernel
theorem dX6_goesOn_175 : decode cX6_goesOn 175 = .ok (.iload_n 1, 1) := by decide +kernel
theorem dX6_goesOn_176 : decode cX6_goesOn 176 = .ok (.bipush 41, 2) := by decide +kernel
theorem dX6_goesOn_178 : decode cX6_goesOn 178 = .ok (.if_icmp .ne 7, 3) := by decide +kernel
theorem dX6_goesOn_181 : decode cX6_goesOn 181 = .ok (.iconst 1, 1) := by decide +kernel
theorem dX6_goesOn_182 : decode cX6_goesOn 182 = .ok (.goto 4, 3) := by decide +kernel
theorem dX6_goesOn_185 : decode cX6_goesOn 185 = .ok (.iconst 0, 1) := by decide +kernel
theorem dX6_goesOn_186 : decode cX6_goesOn 186 = .ok (.ireturn, 1) := by decide +kernel
theorem dX6_goesOn_187 : decode cX6_goesOn 187 = .ok (.iconst 0, 1) := by decide +kernel
theorem dX6_goesOn_188 : decode cX6_goesOn 188 = .ok (.ireturn, 1) := by decide +kernel
theorem dX6_goesOn_189 : decode cX6_goesOn 189 = .ok (.aload_n 0, 1) := by decide +kernel
theorem dX6_goesOn_190 : decode cX6_goesOn 190 = .ok (.iload_n 1, 1) := by decide +kernel
theorem dX6_goesOn_191 : decode cX6_goesOn 191 = .ok (.invokevirtual 135, 3) := by decide +kernel
theorem dX6_goesOn_194 : decode cX6_goesOn 194 = .ok (.ireturn, 1) := by decide +kernel
set_option maxRecDepth 20000 in
theorem ggX6_read_X6_goesOn : GoodIn wsX6_read wsX6_goesOn := goodIn_r _ [10, 3, 11, 2, 12, 13, 14, 15, 9, 16, 17, 18, 19, 20, 21, 22, 23, 24, 25, 26, 27, 28, 29, 30, 31, 32, 33, 34, 35, 1, 36, 37, 38, 39, 40, 41, 42, 43, 44, 45, 46, 47, 48, 49, 50, 51, 52, 53, 54, 55, 56, 57, 58, 59, 60, 61, 62, 63, 64, 65, 66, 67, 68, 69, 70, 71, 72, 73, 74, 75, 76, 77, 78, 79, 80, 81, 82, 83, 84, 85, 86, 87, 88, 89] rfl (by decide +kernel)
set_option maxRecDepth 20000 in
theorem gX6_read_X6_goesOn : GoodIn wsX6_read (wsV RX6 138 RX6 yX6_goesOn wsX6_goesOn) := goodIn_app (goodIn_of _ (by decide +kernel)) ggX6_read_X6_goesOn
theorem dX6_read_0 : decode cX6_read 0 = .ok (.aload_n 0, 1) := by decide +kernel
theorem dX6_read_1 : decode cX6_read 1 = .ok (.iconst 0, 1) := by decide +kernel
theorem dX6_read_2 : decode cX6_read 2 = .ok (.putfield 103, 3) := by decide +kernel
theorem dX6_read_5 : decode cX6_read 5 = .ok (.aload_n 0, 1) := by decide +kernel
theorem dX6_read_6 : decode cX6_read 6 = .ok (.iconst 0, 1) := by decide +kernel
theorem dX6_read_7 : decode cX6_read 7 = .ok (.putfield 114, 3) := by decide +kernel
theorem dX6_read_10 : decode cX6_read 10 = .ok (.aload_n 0, 1) := by decide +kernel
theorem dX6_read_11 : decode cX6_read 11 = .ok (.iconst 0, 1) := by decide +kernel
theorem dX6_read_12 : decode cX6_read 12 = .ok (.putfield 121, 3) := by decide +kernel
theorem dX6_read_15 : decode cX6_read 15 = .ok (.iconst 0, 1) := by decide +kernel
theorem dX6_read_16 : decode cX6_read 16 = .ok (.istore_n 1, 1) := by decide +kernel
theorem dX6_read_17 : decode cX6_read 17 = .ok (.iload_n 1, 1) := by decide +kernel
theorem dX6_read_18 : decode cX6_read 18 = .ok (.aload_n 0, 1) := by decide +kernel
theorem dX6_read_19 : decode cX6_read 19 = .ok (.getfield 96, 3) := by decide +kernel
theorem dX6_read_22 : decode cX6_read 22 = .ok (.if_icmp .ge 22, 3) := by decide +kernel
theorem dX6_read_25 : decode cX6_read 25 = .ok (.aload_n 0, 1) := by decide +kernel
theorem dX6_read_26 : decode cX6_read 26 = .ok (.aload_n 0, 1) := by decide +kernel
theorem dX6_read_27 : decode cX6_read 27 = .ok (.getfield 7, 3) := by decide +kernel
theorem dX6_read_30 : decode cX6_read 30 = .ok (.iload_n 1, 1) := by decide +kernel
theorem dX6_read_31 : decode cX6_read 31 = .ok (.caload, 1) := by decide +kernel
theorem dX6_read_32 : decode cX6_read 32 = .ok (.invokevirtual 138, 3) := by decide +kernel
theorem dX6_read_35 : decode cX6_read 35 = .ok (.ifCond .eq 9, 3) := by decide +kernel
theorem dX6_read_38 : decode cX6_read 38 = .ok (.iinc 1 1, 3) := by decide +kernel
theorem dX6_read_41 : decode cX6_read 41 = .ok (.goto (-24), 3) := by decide +kernel
theorem dX6_read_44 : decode cX6_read 44 = .ok (.iload_n 1, 1) := by decide +kernel
theorem dX6_read_45 : decode cX6_read 45 = .ok (.ireturn, 1) := by decide +kernel
set_option maxRecDepth 20000 in
theorem ggX6_isFormula_X6_read : GoodIn wsX6_isFormula wsX6_read := goodIn_r _ [7, 8, 9, 2, 1, 10, 11, 12, 13, 6, 14, 15, 16, 17, 18, 19, 20, 21, 22, 23, 24, 25, 26, 27, 28, 29, 30, 31, 32, 33, 34, 35, 36, 37, 38, 39, 40, 41, 42, 43, 44, 45, 46, 47, 48, 49, 50, 51, 52, 53, 54, 55, 56, 57, 58, 59, 60, 61, 62, 63, 64, 65, 66, 67, 68, 69, 70, 71, 72, 73, 74, 75, 76, 77, 78, 79, 80, 81, 82, 83, 84, 85, 86, 87, 88, 89, 90, 91, 92, 93] rfl (by decide +kernel)
set_option maxRecDepth 20000 in
theorem gX6_isFormula_X6_read : GoodIn wsX6_isFormula (wsV RX6 141 RX6 yX6_read wsX6_read) := goodIn_app (goodIn_of _ (by decide +kernel)) ggX6_isFormula_X6_read
theorem dX6_isFormula_0 : decode cX6_isFormula 0 = .ok (.aload_n 0, 1) := by decide +kernel
theorem dX6_isFormula_1 : decode cX6_isFormula 1 = .ok (.invokevirtual 141, 3) := by decide +kernel
theorem dX6_isFormula_4 : decode cX6_isFormula 4 = .ok (.aload_n 0, 1) := by decide +kernel
theorem dX6_isFormula_5 : decode cX6_isFormula 5 = .ok (.getfield 96, 3) := by decide +kernel
theorem dX6_isFormula_8 : decode cX6_isFormula 8 = .ok (.if_icmp .ne 16, 3) := by decide +kernel
theorem dX6_isFormula_11 : decode cX6_isFormula 11 = .ok (.aload_n 0, 1) := by decide +kernel
theorem dX6_isFormula_12 : decode cX6_isFormula 12 = .ok (.getfield 121, 3) := by decide +kernel
theorem dX6_isFormula_15 : decode cX6_isFormula 15 = .ok (.bipush 8, 2) := by decide +kernel
theorem dX6_isFormula_17 : decode cX6_isFormula 17 = .ok (.if_icmp .ne 7, 3) := by decide +kernel
theorem dX6_isFormula_20 : decode cX6_isFormula 20 = .ok (.iconst 1, 1) := by decide +kernel
theorem dX6_isFormula_21 : decode cX6_isFormula 21 = .ok (.goto 4, 3) := by decide +kernel
theorem dX6_isFormula_24 : decode cX6_isFormula 24 = .ok (.iconst 0, 1) := by decide +kernel
theorem dX6_isFormula_25 : decode cX6_isFormula 25 = .ok (.ireturn, 1) := by decide +kernel
set_option maxRecDepth 20000 in
theorem ggX6_fault_X6_read : GoodIn wsX6_fault wsX6_read := goodIn_r _ [6, 7, 8, 9, 10, 11, 12, 13, 14, 5, 15, 16, 17, 18, 19, 20, 21, 22, 23, 24, 25, 26, 27, 28, 29, 30, 31, 32, 33, 34, 35, 36, 37, 38, 39, 40, 41, 42, 43, 44, 45, 46, 47, 48, 49, 50, 51, 52, 53, 54, 55, 56, 57, 58, 59, 60, 61, 62, 63, 64, 65, 66, 67, 68, 69, 70, 71, 72, 73, 74, 75, 76, 77, 78, 79, 80, 81, 82, 83, 84, 85, 86, 87, 88, 89, 90, 91, 92, 93, 94] rfl (by decide +kernel)
set_option maxRecDepth 20000 in
theorem gX6_fault_X6_read : GoodIn wsX6_fault (wsV RX6 141 RX6 yX6_read wsX6_read) := goodIn_app (goodIn_of _ (by decide +kernel)) ggX6_fault_X6_read
theorem dX6_fault_0 : decode cX6_fault 0 = .ok (.aload_n 0, 1) := by decide +kernel
theorem dX6_fault_1 : decode cX6_fault 1 = .ok (.iconst 0, 1) := by decide +kernel
theorem dX6_fault_2 : decode cX6_fault 2 = .ok (.putfield 81, 3) := by decide +kernel
theorem dX6_fault_5 : decode cX6_fault 5 = .ok (.aload_n 0, 1) := by decide +kernel
theorem dX6_fault_6 : decode cX6_fault 6 = .ok (.invokevirtual 141, 3) := by decide +kernel
theorem dX6_fault_9 : decode cX6_fault 9 = .ok (.ireturn, 1) := by decide +kernel
set_option maxRecDepth 20000 in
theorem ggX6_sigma_X6_isFormula : GoodIn wsX6_sigma wsX6_isFormula := goodIn_r _ [8, 9, 10, 11, 12, 13, 7, 14, 3, 15, 16, 17, 18, 19, 20, 21, 22, 23, 24, 25, 26, 27, 28, 29, 30, 31, 32, 33, 34, 35, 36, 37, 38, 39, 40, 41, 42, 43, 44, 45, 46, 47, 48, 49, 50, 51, 52, 53, 2, 54, 55, 56, 57, 58, 59, 60, 61, 62, 63, 64, 65, 66, 67, 68, 69, 70, 71, 72, 73, 74, 75, 76, 77, 78, 79, 80, 81, 82, 83, 84, 85, 86, 87, 88, 89, 90, 91, 92, 93, 94, 95, 96, 97, 98] rfl (by decide +kernel)
set_option maxRecDepth 20000 in
theorem gX6_sigma_X6_isFormula : GoodIn wsX6_sigma (wsV RX6 145 RX6 yX6_isFormula wsX6_isFormula) := goodIn_app (goodIn_of _ (by decide +kernel)) ggX6_sigma_X6_isFormula
theorem dX6_sigma_0 : decode cX6_sigma 0 = .ok (.aload_n 0, 1) := by decide +kernel
theorem dX6_sigma_1 : decode cX6_sigma 1 = .ok (.iconst 0, 1) := by decide +kernel
theorem dX6_sigma_2 : decode cX6_sigma 2 = .ok (.putfield 81, 3) := by decide +kernel
theorem dX6_sigma_5 : decode cX6_sigma 5 = .ok (.aload_n 0, 1) := by decide +kernel
theorem dX6_sigma_6 : decode cX6_sigma 6 = .ok (.invokevirtual 145, 3) := by decide +kernel
theorem dX6_sigma_9 : decode cX6_sigma 9 = .ok (.ifCond .eq 17, 3) := by decide +kernel
theorem dX6_sigma_12 : decode cX6_sigma 12 = .ok (.aload_n 0, 1) := by decide +kernel
theorem dX6_sigma_13 : decode cX6_sigma 13 = .ok (.getfield 29, 3) := by decide +kernel
theorem dX6_sigma_16 : decode cX6_sigma 16 = .ok (.aload_n 0, 1) := by decide +kernel
theorem dX6_sigma_17 : decode cX6_sigma 17 = .ok (.getfield 103, 3) := by decide +kernel
theorem dX6_sigma_20 : decode cX6_sigma 20 = .ok (.iconst 1, 1) := by decide +kernel
theorem dX6_sigma_21 : decode cX6_sigma 21 = .ok (.isub, 1) := by decide +kernel
theorem dX6_sigma_22 : decode cX6_sigma 22 = .ok (.iaload, 1) := by decide +kernel
theorem dX6_sigma_23 : decode cX6_sigma 23 = .ok (.goto 4, 3) := by decide +kernel
theorem dX6_sigma_26 : decode cX6_sigma 26 = .ok (.iconst (-1), 1) := by decide +kernel
theorem dX6_sigma_27 : decode cX6_sigma 27 = .ok (.ireturn, 1) := by decide +kernel
set_option maxRecDepth 20000 in
theorem ggX6_pi_X6_isFormula : GoodIn wsX6_pi wsX6_isFormula := goodIn_r _ [8, 9, 10, 11, 12, 13, 7, 14, 3, 15, 16, 17, 18, 19, 20, 21, 22, 23, 24, 25, 26, 27, 28, 29, 30, 31, 32, 33, 34, 35, 36, 37, 38, 39, 40, 41, 42, 43, 44, 45, 46, 47, 48, 49, 50, 51, 52, 53, 54, 2, 55, 56, 57, 58, 59, 60, 61, 62, 63, 64, 65, 66, 67, 68, 69, 70, 71, 72, 73, 74, 75, 76, 77, 78, 79, 80, 81, 82, 83, 84, 85, 86, 87, 88, 89, 90, 91, 92, 93, 94, 95, 96, 97, 98] rfl (by decide +kernel)
set_option maxRecDepth 20000 in
theorem gX6_pi_X6_isFormula : GoodIn wsX6_pi (wsV RX6 145 RX6 yX6_isFormula wsX6_isFormula) := goodIn_app (goodIn_of _ (by decide +kernel)) ggX6_pi_X6_isFormula
theorem dX6_pi_0 : decode cX6_pi 0 = .ok (.aload_n 0, 1) := by decide +kernel
theorem dX6_pi_1 : decode cX6_pi 1 = .ok (.iconst 0, 1) := by decide +kernel
theorem dX6_pi_2 : decode cX6_pi 2 = .ok (.putfield 81, 3) := by decide +kernel
theorem dX6_pi_5 : decode cX6_pi 5 = .ok (.aload_n 0, 1) := by decide +kernel
theorem dX6_pi_6 : decode cX6_pi 6 = .ok (.invokevirtual 145, 3) := by decide +kernel
theorem dX6_pi_9 : decode cX6_pi 9 = .ok (.ifCond .eq 17, 3) := by decide +kernel
theorem dX6_pi_12 : decode cX6_pi 12 = .ok (.aload_n 0, 1) := by decide +kernel
theorem dX6_pi_13 : decode cX6_pi 13 = .ok (.getfield 32, 3) := by decide +kernel
theorem dX6_pi_16 : decode cX6_pi 16 = .ok (.aload_n 0, 1) := by decide +kernel
theorem dX6_pi_17 : decode cX6_pi 17 = .ok (.getfield 103, 3) := by decide +kernel
theorem dX6_pi_20 : decode cX6_pi 20 = .ok (.iconst 1, 1) := by decide +kernel
theorem dX6_pi_21 : decode cX6_pi 21 = .ok (.isub, 1) := by decide +kernel
theorem dX6_pi_22 : decode cX6_pi 22 = .ok (.iaload, 1) := by decide +kernel
theorem dX6_pi_23 : decode cX6_pi 23 = .ok (.goto 4, 3) := by decide +kernel
theorem dX6_pi_26 : decode cX6_pi 26 = .ok (.iconst (-1), 1) := by decide +kernel
theorem dX6_pi_27 : decode cX6_pi 27 = .ok (.ireturn, 1) := by decide +kernel
set_option maxRecDepth 20000 in
theorem ggX6_free_X6_isFormula : GoodIn wsX6_free wsX6_isFormula := goodIn_r _ [8, 9, 10, 11, 12, 13, 7, 14, 3, 15, 16, 17, 18, 19, 20, 21, 22, 23, 24, 25, 26, 27, 28, 29, 30, 31, 32, 33, 34, 35, 36, 37, 38, 39, 40, 41, 42, 43, 44, 45, 46, 47, 48, 49, 50, 51, 52, 53, 54, 55, 2, 56, 57, 58, 59, 60, 61, 62, 63, 64, 65, 66, 67, 68, 69, 70, 71, 72, 73, 74, 75, 76, 77, 78, 79, 80, 81, 82, 83, 84, 85, 86, 87, 88, 89, 90, 91, 92, 93, 94, 95, 96, 97, 98] rfl (by decide +kernel)
set_option maxRecDepth 20000 in
theorem gX6_free_X6_isFormula : GoodIn wsX6_free (wsV RX6 145 RX6 yX6_isFormula wsX6_isFormula) := goodIn_app (goodIn_of _ (by decide +kernel)) ggX6_free_X6_isFormula
theorem dX6_free_0 : decode cX6_free 0 = .ok (.aload_n 0, 1) := by decide +kernel
theorem dX6_free_1 : decode cX6_free 1 = .ok (.iconst 0, 1) := by decide +kernel
theorem dX6_free_2 : decode cX6_free 2 = .ok (.putfield 81, 3) := by decide +kernel
theorem dX6_free_5 : decode cX6_free 5 = .ok (.aload_n 0, 1) := by decide +kernel
theorem dX6_free_6 : decode cX6_free 6 = .ok (.invokevirtual 145, 3) := by decide +kernel
theorem dX6_free_9 : decode cX6_free 9 = .ok (.ifCond .eq 17, 3) := by decide +kernel
theorem dX6_free_12 : decode cX6_free 12 = .ok (.aload_n 0, 1) := by decide +kernel
theorem dX6_free_13 : decode cX6_free 13 = .ok (.getfield 35, 3) := by decide +kernel
theorem dX6_free_16 : decode cX6_free 16 = .ok (.aload_n 0, 1) := by decide +kernel
theorem dX6_free_17 : decode cX6_free 17 = .ok (.getfield 103, 3) := by decide +kernel
theorem dX6_free_20 : decode cX6_free 20 = .ok (.iconst 1, 1) := by decide +kernel
theorem dX6_free_21 : decode cX6_free 21 = .ok (.isub, 1) := by decide +kernel
theorem dX6_free_22 : decode cX6_free 22 = .ok (.iaload, 1) := by decide +kernel
theorem dX6_free_23 : decode cX6_free 23 = .ok (.goto 4, 3) := by decide +kernel
theorem dX6_free_26 : decode cX6_free 26 = .ok (.iconst (-1), 1) := by decide +kernel
theorem dX6_free_27 : decode cX6_free 27 = .ok (.ireturn, 1) := by decide +kernel
theorem dX6_power_0 : decode cX6_power 0 = .ok (.iload_n 0, 1) := by decide +kernel
theorem dX6_power_1 : decode cX6_power 1 = .ok (.ifCond .ne 7, 3) := by decide +kernel
theorem dX6_power_4 : decode cX6_power 4 = .ok (.iconst 1, 1) := by decide +kernel
theorem dX6_power_5 : decode cX6_power 5 = .ok (.goto 14, 3) := by decide +kernel
theorem dX6_power_8 : decode cX6_power 8 = .ok (.iload_n 0, 1) := by decide +kernel
theorem dX6_power_9 : decode cX6_power 9 = .ok (.iconst 1, 1) := by decide +kernel
theorem dX6_power_10 : decode cX6_power 10 = .ok (.if_icmp .ne 7, 3) := by decide +kernel
theorem dX6_power_13 : decode cX6_power 13 = .ok (.iconst 5, 1) := by decide +kernel
theorem dX6_power_14 : decode cX6_power 14 = .ok (.goto 5, 3) := by decide +kernel
theorem dX6_power_17 : decode cX6_power 17 = .ok (.bipush 25, 2) := by decide +kernel
theorem dX6_power_19 : decode cX6_power 19 = .ok (.ireturn, 1) := by decide +kernel
set_option maxRecDepth 20000 in
theorem ggX6_numberAt_X6_power : GoodIn wsX6_numberAt wsX6_power := goodIn_r _ [4] rfl (by decide +kernel)
set_option maxRecDepth 20000 in
theorem gX6_numberAt_X6_power : GoodIn wsX6_numberAt (va_wsS RX6 149 yX6_power wsX6_power) := goodIn_app (goodIn_of _ (by decide +kernel)) ggX6_numberAt_X6_power
theorem dX6_numberAt_0 : decode cX6_numberAt 0 = .ok (.iload_n 0, 1) := by decide +kernel
theorem dX6_numberAt_1 : decode cX6_numberAt 1 = .ok (.iload_n 1, 1) := by decide +kernel
theorem dX6_numberAt_2 : decode cX6_numberAt 2 = .ok (.invokestatic 149, 3) := by decide +kernel
theorem dX6_numberAt_5 : decode cX6_numberAt 5 = .ok (.idiv, 1) := by decide +kernel
theorem dX6_numberAt_6 : decode cX6_numberAt 6 = .ok (.iconst 5, 1) := by decide +kernel
theorem dX6_numberAt_7 : decode cX6_numberAt 7 = .ok (.irem, 1) := by decide +kernel
theorem dX6_numberAt_8 : decode cX6_numberAt 8 = .ok (.ireturn, 1) := by decide +kernel
set_option maxRecDepth 20000 in
theorem ggX6_isPartSo_X6_numberAt : GoodIn wsX6_isPartSo wsX6_numberAt := goodIn_r _ [10, 11, 12, 9, 13] rfl (by decide +kernel)
set_option maxRecDepth 20000 in
theorem gX6_isPartSo_X6_numberAt : GoodIn wsX6_isPartSo (va_wsS RX6 153 yX6_numberAt wsX6_numberAt) := goodIn_app (goodIn_of _ (by decide +kernel)) ggX6_isPartSo_X6_numberAt
set_option maxRecDepth 20000 in
theorem ggX6_isPartSo_X6_isSoFor : GoodIn wsX6_isPartSo wsX6_isSoFor := goodIn_r _ [17, 4, 6, 5, 2, 1, 7, 8, 9, 10, 11, 12, 13, 18, 19, 20, 21, 22, 23, 24, 25, 26, 27, 28, 29, 30, 31, 32, 33, 34, 35, 36, 37, 38, 39, 40, 41, 42, 43, 44, 45, 46, 47, 48, 49] rfl (by decide +kernel)
set_option maxRecDepth 20000 in
theorem gX6_isPartSo_X6_isSoFor : GoodIn wsX6_isPartSo (wsV RX6 156 RX6 yX6_isSoFor wsX6_isSoFor) := goodIn_app (goodIn_of _ (by decide +kernel)) ggX6_isPartSo_X6_isSoFor
theorem dX6_isPartSo_0 : decode cX6_isPartSo 0 = .ok (.aload_n 0, 1) := by decide +kernel
theorem dX6_isPartSo_1 : decode cX6_isPartSo 1 = .ok (.getfield 17, 3) := by decide +kernel
theorem dX6_isPartSo_4 : decode cX6_isPartSo 4 = .ok (.iload_n 1, 1) := by decide +kernel
theorem dX6_isPartSo_5 : decode cX6_isPartSo 5 = .ok (.iaload, 1) := by decide +kernel
theorem dX6_isPartSo_6 : decode cX6_isPartSo 6 = .ok (.iconst (-1), 1) := by decide +kernel
theorem dX6_isPartSo_7 : decode cX6_isPartSo 7 = .ok (.if_icmp .eq 26, 3) := by decide +kernel
theorem dX6_isPartSo_10 : decode cX6_isPartSo 10 = .ok (.aload_n 0, 1) := by decide +kernel
theorem dX6_isPartSo_11 : decode cX6_isPartSo 11 = .ok (.getfield 47, 3) := by decide +kernel
theorem dX6_isPartSo_14 : decode cX6_isPartSo 14 = .ok (.bipush 125, 2) := by decide +kernel
theorem dX6_isPartSo_16 : decode cX6_isPartSo 16 = .ok (.aload_n 0, 1) := by decide +kernel
theorem dX6_isPartSo_17 : decode cX6_isPartSo 17 = .ok (.getfield 17, 3) := by decide +kernel
