theorem dX6_known_24 : decode cX6_known 24 = .ok (.ifCond .ne 7, 3) := by decide +kernel
theorem dX6_known_27 : decode cX6_known 27 = .ok (.iconst 1, 1) := by decide +kernel
theorem dX6_known_28 : decode cX6_known 28 = .ok (.goto 13, 3) := by decide +kernel
theorem dX6_known_31 : decode cX6_known 31 = .ok (.iload_n 1, 1) := by decide +kernel
theorem dX6_known_32 : decode cX6_known 32 = .ok (.iload_n 2, 1) := by decide +kernel
theorem dX6_known_33 : decode cX6_known 33 = .ok (.if_icmp .eq 7, 3) := by decide +kernel
theorem dX6_known_36 : decode cX6_known 36 = .ok (.iconst 0, 1) := by decide +kernel
theorem dX6_known_37 : decode cX6_known 37 = .ok (.goto 4, 3) := by decide +kernel
theorem dX6_known_40 : decode cX6_known 40 = .ok (.iconst 2, 1) := by decide +kernel
theorem dX6_known_41 : decode cX6_known 41 = .ok (.invokevirtual 99, 3) := by decide +kernel
theorem dX6_known_44 : decode cX6_known 44 = .ok (.ifCond .eq 12, 3) := by decide +kernel
theorem dX6_known_47 : decode cX6_known 47 = .ok (.aload_n 0, 1) := by decide +kernel
theorem dX6_known_48 : decode cX6_known 48 = .ok (.iload_n 1, 1) := by decide +kernel
theorem dX6_known_49 : decode cX6_known 49 = .ok (.iload_n 2, 1) := by decide +kernel
theorem dX6_known_50 : decode cX6_known 50 = .ok (.invokevirtual 195, 3) := by decide +kernel
theorem dX6_known_53 : decode cX6_known 53 = .ok (.goto 4, 3) := by decide +kernel
theorem dX6_known_56 : decode cX6_known 56 = .ok (.iconst 0, 1) := by decide +kernel
theorem dX6_known_57 : decode cX6_known 57 = .ok (.ireturn, 1) := by decide +kernel
set_option maxRecDepth 20000 in
theorem ggX6_open_X6_knownOf : GoodIn wsX6_open wsX6_knownOf := goodIn_r _ [7, 8, 9, 10, 11, 12, 6, 13, 14, 15, 16, 17, 18, 19, 20, 21, 22, 23, 24, 25, 26, 27, 28, 29, 30, 31, 32, 33, 34, 35, 36, 37, 38, 39, 40, 41, 42, 43, 44, 45, 46, 47, 48, 49, 50, 51, 52, 53, 54, 55] rfl (by decide +kernel)
set_option maxRecDepth 20000 in
theorem gX6_open_X6_knownOf : GoodIn wsX6_open (wsV RX6 195 RX6 yX6_knownOf wsX6_knownOf) := goodIn_app (goodIn_of _ (by decide +kernel)) ggX6_open_X6_knownOf
theorem dX6_open_0 : decode cX6_open 0 = .ok (.aload_n 0, 1) := by decide +kernel
theorem dX6_open_1 : decode cX6_open 1 = .ok (.iconst 0, 1) := by decide +kernel
theorem dX6_open_2 : decode cX6_open 2 = .ok (.putfield 81, 3) := by decide +kernel
theorem dX6_open_5 : decode cX6_open 5 = .ok (.iconst 0, 1) := by decide +kernel
theorem dX6_open_6 : decode cX6_open 6 = .ok (.istore_n 1, 1) := by decide +kernel
theorem dX6_open_7 : decode cX6_open 7 = .ok (.iconst 0, 1) := by decide +kernel
theorem dX6_open_8 : decode cX6_open 8 = .ok (.istore_n 2, 1) := by decide +kernel
theorem dX6_open_9 : decode cX6_open 9 = .ok (.iload_n 2, 1) := by decide +kernel
theorem dX6_open_10 : decode cX6_open 10 = .ok (.aload_n 0, 1) := by decide +kernel
theorem dX6_open_11 : decode cX6_open 11 = .ok (.getfield 168, 3) := by decide +kernel
theorem dX6_open_14 : decode cX6_open 14 = .ok (.if_icmp .ge 47, 3) := by decide +kernel
theorem dX6_open_17 : decode cX6_open 17 = .ok (.iconst 0, 1) := by decide +kernel
theorem dX6_open_18 : decode cX6_open 18 = .ok (.istore_n 3, 1) := by decide +kernel
theorem dX6_open_19 : decode cX6_open 19 = .ok (.iload_n 3, 1) := by decide +kernel
theorem dX6_open_20 : decode cX6_open 20 = .ok (.aload_n 0, 1) := by decide +kernel
theorem dX6_open_21 : decode cX6_open 21 = .ok (.getfield 168, 3) := by decide +kernel
theorem dX6_open_24 : decode cX6_open 24 = .ok (.if_icmp .ge 31, 3) := by decide +kernel
theorem dX6_open_27 : decode cX6_open 27 = .ok (.iload_n 1, 1) := by decide +kernel
theorem dX6_open_28 : decode cX6_open 28 = .ok (.iload_n 2, 1) := by decide +kernel
theorem dX6_open_29 : decode cX6_open 29 = .ok (.iload_n 3, 1) := by decide +kernel
theorem dX6_open_30 : decode cX6_open 30 = .ok (.if_icmp .eq 16, 3) := by decide +kernel
theorem dX6_open_33 : decode cX6_open 33 = .ok (.aload_n 0, 1) := by decide +kernel
theorem dX6_open_34 : decode cX6_open 34 = .ok (.iload_n 2, 1) := by decide +kernel
theorem dX6_open_35 : decode cX6_open 35 = .ok (.iload_n 3, 1) := by decide +kernel
theorem dX6_open_36 : decode cX6_open 36 = .ok (.invokevirtual 195, 3) := by decide +kernel
theorem dX6_open_39 : decode cX6_open 39 = .ok (.ifCond .ne 7, 3) := by decide +kernel
theorem dX6_open_42 : decode cX6_open 42 = .ok (.iconst 1, 1) := by decide +kernel
theorem dX6_open_43 : decode cX6_open 43 = .ok (.goto 4, 3) := by decide +kernel
theorem dX6_open_46 : decode cX6_open 46 = .ok (.iconst 0, 1) := by decide +kernel
theorem dX6_open_47 : decode cX6_open 47 = .ok (.iadd, 1) := by decide +kernel
theorem dX6_open_48 : decode cX6_open 48 = .ok (.istore_n 1, 1) := by decide +kernel
theorem dX6_open_49 : decode cX6_open 49 = .ok (.iinc 3 1, 3) := by decide +kernel
theorem dX6_open_52 : decode cX6_open 52 = .ok (.goto (-33), 3) := by decide +kernel
theorem dX6_open_55 : decode cX6_open 55 = .ok (.iinc 2 1, 3) := by decide +kernel
theorem dX6_open_58 : decode cX6_open 58 = .ok (.goto (-49), 3) := by decide +kernel
theorem dX6_open_61 : decode cX6_open 61 = .ok (.iload_n 1, 1) := by decide +kernel
theorem dX6_open_62 : decode cX6_open 62 = .ok (.ireturn, 1) := by decide +kernel
theorem dX6_bits_0 : decode cX6_bits 0 = .ok (.iconst 0, 1) := by decide +kernel
theorem dX6_bits_1 : decode cX6_bits 1 = .ok (.istore_n 1, 1) := by decide +kernel
theorem dX6_bits_2 : decode cX6_bits 2 = .ok (.iconst 0, 1) := by decide +kernel
theorem dX6_bits_3 : decode cX6_bits 3 = .ok (.istore_n 2, 1) := by decide +kernel
theorem dX6_bits_4 : decode cX6_bits 4 = .ok (.iload_n 2, 1) := by decide +kernel
theorem dX6_bits_5 : decode cX6_bits 5 = .ok (.bipush 10, 2) := by decide +kernel
theorem dX6_bits_7 : decode cX6_bits 7 = .ok (.if_icmp .ge 17, 3) := by decide +kernel
theorem dX6_bits_10 : decode cX6_bits 10 = .ok (.iload_n 1, 1) := by decide +kernel
theorem dX6_bits_11 : decode cX6_bits 11 = .ok (.iload_n 0, 1) := by decide +kernel
theorem dX6_bits_12 : decode cX6_bits 12 = .ok (.iload_n 2, 1) := by decide +kernel
theorem dX6_bits_13 : decode cX6_bits 13 = .ok (.ishr, 1) := by decide +kernel
theorem dX6_bits_14 : decode cX6_bits 14 = .ok (.iconst 1, 1) := by decide +kernel
theorem dX6_bits_15 : decode cX6_bits 15 = .ok (.iand, 1) := by decide +kernel
theorem dX6_bits_16 : decode cX6_bits 16 = .ok (.iadd, 1) := by decide +kernel
theorem dX6_bits_17 : decode cX6_bits 17 = .ok (.istore_n 1, 1) := by decide +kernel
theorem dX6_bits_18 : decode cX6_bits 18 = .ok (.iinc 2 1, 3) := by decide +kernel
theorem dX6_bits_21 : decode cX6_bits 21 = .ok (.goto (-17), 3) := by decide +kernel
theorem dX6_bits_24 : decode cX6_bits 24 = .ok (.iload_n 1, 1) := by decide +kernel
theorem dX6_bits_25 : decode cX6_bits 25 = .ok (.ireturn, 1) := by decide +kernel
set_option maxRecDepth 20000 in
theorem ggX6_leastOf_X6_isPrinciple : GoodIn wsX6_leastOf wsX6_isPrinciple := goodIn_r _ [5, 6, 7, 8, 4, 9, 36, 37, 38, 39, 40, 41, 42, 43, 44, 45, 46, 47, 48, 49, 50, 51, 52, 53, 54, 55, 56, 57, 58, 59, 60, 61, 62, 63, 64, 65, 66, 67] rfl (by decide +kernel)
set_option maxRecDepth 20000 in
theorem gX6_leastOf_X6_isPrinciple : GoodIn wsX6_leastOf (wsV RX6 171 RX6 yX6_isPrinciple wsX6_isPrinciple) := goodIn_app (goodIn_of _ (by decide +kernel)) ggX6_leastOf_X6_isPrinciple
set_option maxRecDepth 20000 in
theorem ggX6_leastOf_X6_isSet : GoodIn wsX6_leastOf wsX6_isSet := goodIn_r _ [13, 6, 7, 8, 4, 9, 36, 37, 38, 39, 40, 41, 42, 43, 44, 45, 46, 47, 48, 49, 50, 51, 52, 53, 54, 55, 56, 57, 58, 59, 60, 61, 62, 63, 64, 65, 66, 67] rfl (by decide +kernel)
set_option maxRecDepth 20000 in
theorem gX6_leastOf_X6_isSet : GoodIn wsX6_leastOf (wsV RX6 174 RX6 yX6_isSet wsX6_isSet) := goodIn_app (goodIn_of _ (by decide +kernel)) ggX6_leastOf_X6_isSet
set_option maxRecDepth 20000 in
theorem ggX6_leastOf_X6_goesWell : GoodIn wsX6_leastOf wsX6_goesWell := goodIn_r _ [17, 18, 36, 37, 38, 39, 40, 41, 42, 43, 44, 45, 46, 47, 48, 49, 50, 51, 52, 53, 54, 55, 56, 57, 58, 59, 60, 61, 62, 63, 64, 65, 66, 67] rfl (by decide +kernel)
set_option maxRecDepth 20000 in
theorem gX6_leastOf_X6_goesWell : GoodIn wsX6_leastOf (wsV RX6 99 RX6 yX6_goesWell wsX6_goesWell) := goodIn_app (goodIn_of _ (by decide +kernel)) ggX6_leastOf_X6_goesWell
set_option maxRecDepth 20000 in
theorem ggX6_leastOf_X6_bits : GoodIn wsX6_leastOf wsX6_bits := goodIn_r _ [21] rfl (by decide +kernel)
set_option maxRecDepth 20000 in
theorem gX6_leastOf_X6_bits : GoodIn wsX6_leastOf (va_wsS RX6 198 yX6_bits wsX6_bits) := goodIn_app (goodIn_of _ (by decide +kernel)) ggX6_leastOf_X6_bits
set_option maxRecDepth 20000 in
theorem ggX6_leastOf_X6_closed : GoodIn wsX6_leastOf wsX6_closed := goodIn_r _ [25, 26, 27, 28, 29, 4, 30, 31, 32, 33, 34, 35, 36, 37, 38, 39, 40, 41, 42, 43, 44, 45, 46, 47, 48, 49, 50, 51, 52, 53, 54, 55, 56, 57, 58, 59, 60, 61, 62, 63, 64, 65, 66, 67] rfl (by decide +kernel)
set_option maxRecDepth 20000 in
theorem gX6_leastOf_X6_closed : GoodIn wsX6_leastOf (wsV RX6 189 RX6 yX6_closed wsX6_closed) := goodIn_app (goodIn_of _ (by decide +kernel)) ggX6_leastOf_X6_closed
theorem dX6_leastOf_0 : decode cX6_leastOf 0 = .ok (.aload_n 0, 1) := by decide +kernel
theorem dX6_leastOf_1 : decode cX6_leastOf 1 = .ok (.iload_n 1, 1) := by decide +kernel
theorem dX6_leastOf_2 : decode cX6_leastOf 2 = .ok (.invokevirtual 171, 3) := by decide +kernel
theorem dX6_leastOf_5 : decode cX6_leastOf 5 = .ok (.istore_n 3, 1) := by decide +kernel
theorem dX6_leastOf_6 : decode cX6_leastOf 6 = .ok (.aload_n 0, 1) := by decide +kernel
theorem dX6_leastOf_7 : decode cX6_leastOf 7 = .ok (.iload_n 3, 1) := by decide +kernel
theorem dX6_leastOf_8 : decode cX6_leastOf 8 = .ok (.ifCond .ne 7, 3) := by decide +kernel
theorem dX6_leastOf_11 : decode cX6_leastOf 11 = .ok (.iconst 1, 1) := by decide +kernel
theorem dX6_leastOf_12 : decode cX6_leastOf 12 = .ok (.goto 16, 3) := by decide +kernel
theorem dX6_leastOf_15 : decode cX6_leastOf 15 = .ok (.aload_n 0, 1) := by decide +kernel
theorem dX6_leastOf_16 : decode cX6_leastOf 16 = .ok (.iload_n 2, 1) := by decide +kernel
theorem dX6_leastOf_17 : decode cX6_leastOf 17 = .ok (.invokevirtual 174, 3) := by decide +kernel
theorem dX6_leastOf_20 : decode cX6_leastOf 20 = .ok (.ifCond .eq 7, 3) := by decide +kernel
theorem dX6_leastOf_23 : decode cX6_leastOf 23 = .ok (.iconst 0, 1) := by decide +kernel
theorem dX6_leastOf_24 : decode cX6_leastOf 24 = .ok (.goto 4, 3) := by decide +kernel
theorem dX6_leastOf_27 : decode cX6_leastOf 27 = .ok (.iconst 2, 1) := by decide +kernel
theorem dX6_leastOf_28 : decode cX6_leastOf 28 = .ok (.invokevirtual 99, 3) := by decide +kernel
theorem dX6_leastOf_31 : decode cX6_leastOf 31 = .ok (.ifCond .ne 5, 3) := by decide +kernel
theorem dX6_leastOf_34 : decode cX6_leastOf 34 = .ok (.iconst 0, 1) := by decide +kernel
theorem dX6_leastOf_35 : decode cX6_leastOf 35 = .ok (.ireturn, 1) := by decide +kernel
theorem dX6_leastOf_36 : decode cX6_leastOf 36 = .ok (.iconst (-1), 1) := by decide +kernel
theorem dX6_leastOf_37 : decode cX6_leastOf 37 = .ok (.istore 4, 2) := by decide +kernel
theorem dX6_leastOf_39 : decode cX6_leastOf 39 = .ok (.iconst 0, 1) := by decide +kernel
theorem dX6_leastOf_40 : decode cX6_leastOf 40 = .ok (.istore 5, 2) := by decide +kernel
theorem dX6_leastOf_42 : decode cX6_leastOf 42 = .ok (.iload 5, 2) := by decide +kernel
theorem dX6_leastOf_44 : decode cX6_leastOf 44 = .ok (.iload_n 2, 1) := by decide +kernel
theorem dX6_leastOf_45 : decode cX6_leastOf 45 = .ok (.if_icmp .gt 72, 3) := by decide +kernel
theorem dX6_leastOf_48 : decode cX6_leastOf 48 = .ok (.iload 5, 2) := by decide +kernel
theorem dX6_leastOf_50 : decode cX6_leastOf 50 = .ok (.iload_n 2, 1) := by decide +kernel
theorem dX6_leastOf_51 : decode cX6_leastOf 51 = .ok (.iconst (-1), 1) := by decide +kernel
theorem dX6_leastOf_52 : decode cX6_leastOf 52 = .ok (.ixor, 1) := by decide +kernel
theorem dX6_leastOf_53 : decode cX6_leastOf 53 = .ok (.iand, 1) := by decide +kernel
theorem dX6_leastOf_54 : decode cX6_leastOf 54 = .ok (.ifCond .ne 26, 3) := by decide +kernel
theorem dX6_leastOf_57 : decode cX6_leastOf 57 = .ok (.iload 4, 2) := by decide +kernel
theorem dX6_leastOf_59 : decode cX6_leastOf 59 = .ok (.iconst (-1), 1) := by decide +kernel
theorem dX6_leastOf_60 : decode cX6_leastOf 60 = .ok (.if_icmp .eq 16, 3) := by decide +kernel
theorem dX6_leastOf_63 : decode cX6_leastOf 63 = .ok (.iload 5, 2) := by decide +kernel
theorem dX6_leastOf_65 : decode cX6_leastOf 65 = .ok (.invokestatic 198, 3) := by decide +kernel
theorem dX6_leastOf_68 : decode cX6_leastOf 68 = .ok (.iload 4, 2) := by decide +kernel
theorem dX6_leastOf_70 : decode cX6_leastOf 70 = .ok (.invokestatic 198, 3) := by decide +kernel
theorem dX6_leastOf_73 : decode cX6_leastOf 73 = .ok (.if_icmp .ge 7, 3) := by decide +kernel
theorem dX6_leastOf_76 : decode cX6_leastOf 76 = .ok (.iconst 1, 1) := by decide +kernel
theorem dX6_leastOf_77 : decode cX6_leastOf 77 = .ok (.goto 4, 3) := by decide +kernel
theorem dX6_leastOf_80 : decode cX6_leastOf 80 = .ok (.iconst 0, 1) := by decide +kernel
theorem dX6_leastOf_81 : decode cX6_leastOf 81 = .ok (.istore 6, 2) := by decide +kernel
theorem dX6_leastOf_83 : decode cX6_leastOf 83 = .ok (.iload 6, 2) := by decide +kernel
theorem dX6_leastOf_85 : decode cX6_leastOf 85 = .ok (.ifCond .eq 22, 3) := by decide +kernel
theorem dX6_leastOf_88 : decode cX6_leastOf 88 = .ok (.aload_n 0, 1) := by decide +kernel
theorem dX6_leastOf_89 : decode cX6_leastOf 89 = .ok (.iload 5, 2) := by decide +kernel
theorem dX6_leastOf_91 : decode cX6_leastOf 91 = .ok (.invokevirtual 189, 3) := by decide +kernel
theorem dX6_leastOf_94 : decode cX6_leastOf 94 = .ok (.iload_n 1, 1) := by decide +kernel
theorem dX6_leastOf_95 : decode cX6_leastOf 95 = .ok (.ishr, 1) := by decide +kernel
theorem dX6_leastOf_96 : decode cX6_leastOf 96 = .ok (.iconst 1, 1) := by decide +kernel
theorem dX6_leastOf_97 : decode cX6_leastOf 97 = .ok (.iand, 1) := by decide +kernel
theorem dX6_leastOf_98 : decode cX6_leastOf 98 = .ok (.iconst 1, 1) := by decide +kernel
theorem dX6_leastOf_99 : decode cX6_leastOf 99 = .ok (.if_icmp .ne 8, 3) := by decide +kernel
theorem dX6_leastOf_102 : decode cX6_leastOf 102 = .ok (.iload 5, 2) := by decide +kernel
theorem dX6_leastOf_104 : decode cX6_leastOf 104 = .ok (.goto 5, 3) := by decide +kernel
theorem dX6_leastOf_107 : decode cX6_leastOf 107 = .ok (.iload 4, 2) := by decide +kernel
theorem dX6_leastOf_109 : decode cX6_leastOf 109 = .ok (.istore 4, 2) := by decide +kernel
theorem dX6_leastOf_111 : decode cX6_leastOf 111 = .ok (.iinc 5 1, 3) := by decide +kernel
theorem dX6_leastOf_114 : decode cX6_leastOf 114 = .ok (.goto (-72), 3) := by decide +kernel
theorem dX6_leastOf_117 : decode cX6_leastOf 117 = .ok (.iload 4, 2) := by decide +kernel
theorem dX6_leastOf_119 : decode cX6_leastOf 119 = .ok (.ireturn, 1) := by decide +kernel
set_option maxRecDepth 20000 in
theorem ggX6_least_X6_leastOf : GoodIn wsX6_least wsX6_leastOf := goodIn_r _ [5, 6, 7, 8, 4, 9, 10, 11, 12, 13, 14, 15, 16, 17, 18, 19, 20, 21, 22, 23, 24, 25, 26, 27, 28, 29, 30, 31, 32, 33, 34, 35, 36, 37, 38, 39, 40, 41, 42, 43, 44, 45, 46, 47, 48, 49, 50, 51, 52, 53, 54, 55, 56, 57, 58, 59, 60, 61, 62, 63, 64, 65, 66, 67, 68, 69, 70, 71] rfl (by decide +kernel)
set_option maxRecDepth 20000 in
theorem gX6_least_X6_leastOf : GoodIn wsX6_least (wsV RX6 201 RX6 yX6_leastOf wsX6_leastOf) := goodIn_app (goodIn_of _ (by decide +kernel)) ggX6_least_X6_leastOf
theorem dX6_least_0 : decode cX6_least 0 = .ok (.aload_n 0, 1) := by decide +kernel
theorem dX6_least_1 : decode cX6_least 1 = .ok (.iload_n 1, 1) := by decide +kernel
theorem dX6_least_2 : decode cX6_least 2 = .ok (.iload_n 2, 1) := by decide +kernel
theorem dX6_least_3 : decode cX6_least 3 = .ok (.invokevirtual 201, 3) := by decide +kernel
theorem dX6_least_6 : decode cX6_least 6 = .ok (.ireturn, 1) := by decide +kernel
set_option maxRecDepth 20000 in
theorem ggX6_leastAnew_X6_leastOf : GoodIn wsX6_leastAnew wsX6_leastOf := goodIn_r _ [5, 6, 7, 8, 4, 9, 10, 11, 12, 13, 14, 15, 16, 17, 18, 19, 20, 21, 22, 23, 24, 25, 26, 27, 28, 29, 30, 31, 32, 33, 34, 35, 36, 37, 38, 39, 40, 41, 42, 43, 44, 45, 46, 47, 48, 49, 50, 51, 52, 53, 54, 55, 56, 57, 58, 59, 60, 61, 62, 63, 64, 65, 66, 67, 68, 69, 70, 71] rfl (by decide +kernel)
set_option maxRecDepth 20000 in
theorem gX6_leastAnew_X6_leastOf : GoodIn wsX6_leastAnew (wsV RX6 201 RX6 yX6_leastOf wsX6_leastOf) := goodIn_app (goodIn_of _ (by decide +kernel)) ggX6_leastAnew_X6_leastOf
theorem dX6_leastAnew_0 : decode cX6_leastAnew 0 = .ok (.aload_n 0, 1) := by decide +kernel
theorem dX6_leastAnew_1 : decode cX6_leastAnew 1 = .ok (.iload_n 1, 1) := by decide +kernel
theorem dX6_leastAnew_2 : decode cX6_leastAnew 2 = .ok (.iload_n 2, 1) := by decide +kernel
theorem dX6_leastAnew_3 : decode cX6_leastAnew 3 = .ok (.invokevirtual 201, 3) := by decide +kernel
theorem dX6_leastAnew_6 : decode cX6_leastAnew 6 = .ok (.ireturn, 1) := by decide +kernel
set_option maxRecDepth 20000 in
theorem ggX6_ofPrinciple_X6_isPrinciple : GoodIn wsX6_ofPrinciple wsX6_isPrinciple := goodIn_r _ [11, 12, 13, 14, 10, 15, 21, 22, 23, 24, 25, 26, 27, 28, 29, 30, 31, 32, 33, 34, 35, 36, 37, 38, 39, 40, 41, 42, 43, 44, 45, 46, 47, 48, 49, 50, 51, 52] rfl (by decide +kernel)
set_option maxRecDepth 20000 in
theorem gX6_ofPrinciple_X6_isPrinciple : GoodIn wsX6_ofPrinciple (wsV RX6 171 RX6 yX6_isPrinciple wsX6_isPrinciple) := goodIn_app (goodIn_of _ (by decide +kernel)) ggX6_ofPrinciple_X6_isPrinciple
set_option maxRecDepth 20000 in
theorem ggX6_ofPrinciple_X6_in : GoodIn wsX6_ofPrinciple wsX6_in := goodIn_r _ [15] rfl (by decide +kernel)
set_option maxRecDepth 20000 in
theorem gX6_ofPrinciple_X6_in : GoodIn wsX6_ofPrinciple (va_wsS RX6 85 yX6_in wsX6_in) := goodIn_app (goodIn_of _ (by decide +kernel)) ggX6_ofPrinciple_X6_in
set_option maxRecDepth 20000 in
theorem ggX6_ofPrinciple_X6_goesWell : GoodIn wsX6_ofPrinciple wsX6_goesWell := goodIn_r _ [19, 20, 21, 22, 23, 24, 25, 26, 27, 28, 29, 30, 31, 32, 33, 34, 35, 36, 37, 38, 39, 40, 41, 42, 43, 44, 45, 46, 47, 48, 49, 50, 51, 52] rfl (by decide +kernel)
set_option maxRecDepth 20000 in
theorem gX6_ofPrinciple_X6_goesWell : GoodIn wsX6_ofPrinciple (wsV RX6 99 RX6 yX6_goesWell wsX6_goesWell) := goodIn_app (goodIn_of _ (by decide +kernel)) ggX6_ofPrinciple_X6_goesWell
theorem dX6_ofPrinciple_0 : decode cX6_ofPrinciple 0 = .ok (.aload_n 0, 1) := by decide +kernel
theorem dX6_ofPrinciple_1 : decode cX6_ofPrinciple 1 = .ok (.iload_n 1, 1) := by decide +kernel
theorem dX6_ofPrinciple_2 : decode cX6_ofPrinciple 2 = .ok (.invokevirtual 171, 3) := by decide +kernel
theorem dX6_ofPrinciple_5 : decode cX6_ofPrinciple 5 = .ok (.istore_n 3, 1) := by decide +kernel
theorem dX6_ofPrinciple_6 : decode cX6_ofPrinciple 6 = .ok (.aload_n 0, 1) := by decide +kernel
theorem dX6_ofPrinciple_7 : decode cX6_ofPrinciple 7 = .ok (.iload_n 3, 1) := by decide +kernel
theorem dX6_ofPrinciple_8 : decode cX6_ofPrinciple 8 = .ok (.ifCond .ne 7, 3) := by decide +kernel
theorem dX6_ofPrinciple_11 : decode cX6_ofPrinciple 11 = .ok (.iconst 1, 1) := by decide +kernel
theorem dX6_ofPrinciple_12 : decode cX6_ofPrinciple 12 = .ok (.goto 17, 3) := by decide +kernel
theorem dX6_ofPrinciple_15 : decode cX6_ofPrinciple 15 = .ok (.iload_n 2, 1) := by decide +kernel
theorem dX6_ofPrinciple_16 : decode cX6_ofPrinciple 16 = .ok (.iconst 0, 1) := by decide +kernel
theorem dX6_ofPrinciple_17 : decode cX6_ofPrinciple 17 = .ok (.iconst 3, 1) := by decide +kernel
theorem dX6_ofPrinciple_18 : decode cX6_ofPrinciple 18 = .ok (.invokestatic 85, 3) := by decide +kernel
theorem dX6_ofPrinciple_21 : decode cX6_ofPrinciple 21 = .ok (.ifCond .eq 7, 3) := by decide +kernel
theorem dX6_ofPrinciple_24 : decode cX6_ofPrinciple 24 = .ok (.iconst 0, 1) := by decide +kernel
theorem dX6_ofPrinciple_25 : decode cX6_ofPrinciple 25 = .ok (.goto 4, 3) := by decide +kernel
theorem dX6_ofPrinciple_28 : decode cX6_ofPrinciple 28 = .ok (.iconst 2, 1) := by decide +kernel
theorem dX6_ofPrinciple_29 : decode cX6_ofPrinciple 29 = .ok (.invokevirtual 99, 3) := by decide +kernel
theorem dX6_ofPrinciple_32 : decode cX6_ofPrinciple 32 = .ok (.ifCond .ne 5, 3) := by decide +kernel
theorem dX6_ofPrinciple_35 : decode cX6_ofPrinciple 35 = .ok (.iconst 0, 1) := by decide +kernel
theorem dX6_ofPrinciple_36 : decode cX6_ofPrinciple 36 = .ok (.ireturn, 1) := by decide +kernel
theorem dX6_ofPrinciple_37 : decode cX6_ofPrinciple 37 = .ok (.iconst 0, 1) := by decide +kernel
theorem dX6_ofPrinciple_38 : decode cX6_ofPrinciple 38 = .ok (.istore 4, 2) := by decide +kernel
theorem dX6_ofPrinciple_40 : decode cX6_ofPrinciple 40 = .ok (.iconst 0, 1) := by decide +kernel
theorem dX6_ofPrinciple_41 : decode cX6_ofPrinciple 41 = .ok (.istore 5, 2) := by decide +kernel
theorem dX6_ofPrinciple_43 : decode cX6_ofPrinciple 43 = .ok (.iload 5, 2) := by decide +kernel
theorem dX6_ofPrinciple_45 : decode cX6_ofPrinciple 45 = .ok (.aload_n 0, 1) := by decide +kernel
theorem dX6_ofPrinciple_46 : decode cX6_ofPrinciple 46 = .ok (.getfield 177, 3) := by decide +kernel
theorem dX6_ofPrinciple_49 : decode cX6_ofPrinciple 49 = .ok (.if_icmp .ge 30, 3) := by decide +kernel
theorem dX6_ofPrinciple_52 : decode cX6_ofPrinciple 52 = .ok (.iload 4, 2) := by decide +kernel
theorem dX6_ofPrinciple_54 : decode cX6_ofPrinciple 54 = .ok (.aload_n 0, 1) := by decide +kernel
theorem dX6_ofPrinciple_55 : decode cX6_ofPrinciple 55 = .ok (.getfield 60, 3) := by decide +kernel
theorem dX6_ofPrinciple_58 : decode cX6_ofPrinciple 58 = .ok (.iload 5, 2) := by decide +kernel
theorem dX6_ofPrinciple_60 : decode cX6_ofPrinciple 60 = .ok (.iaload, 1) := by decide +kernel
theorem dX6_ofPrinciple_61 : decode cX6_ofPrinciple 61 = .ok (.iload_n 1, 1) := by decide +kernel
theorem dX6_ofPrinciple_62 : decode cX6_ofPrinciple 62 = .ok (.if_icmp .ne 7, 3) := by decide +kernel
theorem dX6_ofPrinciple_65 : decode cX6_ofPrinciple 65 = .ok (.iconst 1, 1) := by decide +kernel
theorem dX6_ofPrinciple_66 : decode cX6_ofPrinciple 66 = .ok (.goto 4, 3) := by decide +kernel
theorem dX6_ofPrinciple_69 : decode cX6_ofPrinciple 69 = .ok (.iconst 0, 1) := by decide +kernel
theorem dX6_ofPrinciple_70 : decode cX6_ofPrinciple 70 = .ok (.iadd, 1) := by decide +kernel
theorem dX6_ofPrinciple_71 : decode cX6_ofPrinciple 71 = .ok (.istore 4, 2) := by decide +kernel
theorem dX6_ofPrinciple_73 : decode cX6_ofPrinciple 73 = .ok (.iinc 5 1, 3) := by decide +kernel
theorem dX6_ofPrinciple_76 : decode cX6_ofPrinciple 76 = .ok (.goto (-33), 3) := by decide +kernel
theorem dX6_ofPrinciple_79 : decode cX6_ofPrinciple 79 = .ok (.iconst 0, 1) := by decide +kernel
theorem dX6_ofPrinciple_80 : decode cX6_ofPrinciple 80 = .ok (.istore 5, 2) := by decide +kernel
theorem dX6_ofPrinciple_82 : decode cX6_ofPrinciple 82 = .ok (.iconst 0, 1) := by decide +kernel
theorem dX6_ofPrinciple_83 : decode cX6_ofPrinciple 83 = .ok (.istore 6, 2) := by decide +kernel
theorem dX6_ofPrinciple_85 : decode cX6_ofPrinciple 85 = .ok (.iload 6, 2) := by decide +kernel
theorem dX6_ofPrinciple_87 : decode cX6_ofPrinciple 87 = .ok (.aload_n 0, 1) := by decide +kernel
theorem dX6_ofPrinciple_88 : decode cX6_ofPrinciple 88 = .ok (.getfield 180, 3) := by decide +kernel
theorem dX6_ofPrinciple_91 : decode cX6_ofPrinciple 91 = .ok (.if_icmp .ge 25, 3) := by decide +kernel
theorem dX6_ofPrinciple_94 : decode cX6_ofPrinciple 94 = .ok (.iload 5, 2) := by decide +kernel
theorem dX6_ofPrinciple_96 : decode cX6_ofPrinciple 96 = .ok (.aload_n 0, 1) := by decide +kernel
theorem dX6_ofPrinciple_97 : decode cX6_ofPrinciple 97 = .ok (.getfield 63, 3) := by decide +kernel
theorem dX6_ofPrinciple_100 : decode cX6_ofPrinciple 100 = .ok (.iload 6, 2) := by decide +kernel
theorem dX6_ofPrinciple_102 : decode cX6_ofPrinciple 102 = .ok (.iaload, 1) := by decide +kernel
theorem dX6_ofPrinciple_103 : decode cX6_ofPrinciple 103 = .ok (.iload_n 1, 1) := by decide +kernel
theorem dX6_ofPrinciple_104 : decode cX6_ofPrinciple 104 = .ok (.ishr, 1) := by decide +kernel
theorem dX6_ofPrinciple_105 : decode cX6_ofPrinciple 105 = .ok (.iconst 1, 1) := by decide +kernel
theorem dX6_ofPrinciple_106 : decode cX6_ofPrinciple 106 = .ok (.iand, 1) := by decide +kernel
theorem dX6_ofPrinciple_107 : decode cX6_ofPrinciple 107 = .ok (.iadd, 1) := by decide +kernel
theorem dX6_ofPrinciple_108 : decode cX6_ofPrinciple 108 = .ok (.istore 5, 2) := by decide +kernel
theorem dX6_ofPrinciple_110 : decode cX6_ofPrinciple 110 = .ok (.iinc 6 1, 3) := by decide +kernel
theorem dX6_ofPrinciple_113 : decode cX6_ofPrinciple 113 = .ok (.goto (-28), 3) := by decide +kernel
theorem dX6_ofPrinciple_116 : decode cX6_ofPrinciple 116 = .ok (.iload_n 2, 1) := by decide +kernel
theorem dX6_ofPrinciple_117 : decode cX6_ofPrinciple 117 = .ok (.ifCond .ne 12, 3) := by decide +kernel
theorem dX6_ofPrinciple_120 : decode cX6_ofPrinciple 120 = .ok (.aload_n 0, 1) := by decide +kernel
theorem dX6_ofPrinciple_121 : decode cX6_ofPrinciple 121 = .ok (.getfield 51, 3) := by decide +kernel
theorem dX6_ofPrinciple_124 : decode cX6_ofPrinciple 124 = .ok (.iload_n 1, 1) := by decide +kernel
theorem dX6_ofPrinciple_125 : decode cX6_ofPrinciple 125 = .ok (.iaload, 1) := by decide +kernel
theorem dX6_ofPrinciple_126 : decode cX6_ofPrinciple 126 = .ok (.goto 29, 3) := by decide +kernel
theorem dX6_ofPrinciple_129 : decode cX6_ofPrinciple 129 = .ok (.iload_n 2, 1) := by decide +kernel
theorem dX6_ofPrinciple_130 : decode cX6_ofPrinciple 130 = .ok (.iconst 1, 1) := by decide +kernel
theorem dX6_ofPrinciple_131 : decode cX6_ofPrinciple 131 = .ok (.if_icmp .ne 12, 3) := by decide +kernel
theorem dX6_ofPrinciple_134 : decode cX6_ofPrinciple 134 = .ok (.aload_n 0, 1) := by decide +kernel
theorem dX6_ofPrinciple_135 : decode cX6_ofPrinciple 135 = .ok (.getfield 54, 3) := by decide +kernel
theorem dX6_ofPrinciple_138 : decode cX6_ofPrinciple 138 = .ok (.iload_n 1, 1) := by decide +kernel
theorem dX6_ofPrinciple_139 : decode cX6_ofPrinciple 139 = .ok (.iaload, 1) := by decide +kernel
theorem dX6_ofPrinciple_140 : decode cX6_ofPrinciple 140 = .ok (.goto 15, 3) := by decide +kernel
theorem dX6_ofPrinciple_143 : decode cX6_ofPrinciple 143 = .ok (.iload_n 2, 1) := by decide +kernel
theorem dX6_ofPrinciple_144 : decode cX6_ofPrinciple 144 = .ok (.iconst 2, 1) := by decide +kernel
theorem dX6_ofPrinciple_145 : decode cX6_ofPrinciple 145 = .ok (.if_icmp .ne 8, 3) := by decide +kernel
theorem dX6_ofPrinciple_148 : decode cX6_ofPrinciple 148 = .ok (.iload 4, 2) := by decide +kernel
theorem dX6_ofPrinciple_150 : decode cX6_ofPrinciple 150 = .ok (.goto 5, 3) := by decide +kernel
theorem dX6_ofPrinciple_153 : decode cX6_ofPrinciple 153 = .ok (.iload 5, 2) := by decide +kernel
theorem dX6_ofPrinciple_155 : decode cX6_ofPrinciple 155 = .ok (.ireturn, 1) := by decide +kernel
set_option maxRecDepth 20000 in
theorem ggX6_isProblem_X6_in : GoodIn wsX6_isProblem wsX6_in := goodIn_r _ [5] rfl (by decide +kernel)
set_option maxRecDepth 20000 in
theorem gX6_isProblem_X6_in : GoodIn wsX6_isProblem (va_wsS RX6 85 yX6_in wsX6_in) := goodIn_app (goodIn_of _ (by decide +kernel)) ggX6_isProblem_X6_in
theorem dX6_isProblem_0 : decode cX6_isProblem 0 = .ok (.iload_n 1, 1) := by decide +kernel
theorem dX6_isProblem_1 : decode cX6_isProblem 1 = .ok (.iconst 0, 1) := by decide +kernel
theorem dX6_isProblem_2 : decode cX6_isProblem 2 = .ok (.aload_n 0, 1) := by decide +kernel
theorem dX6_isProblem_3 : decode cX6_isProblem 3 = .ok (.getfield 204, 3) := by decide +kernel
theorem dX6_isProblem_6 : decode cX6_isProblem 6 = .ok (.iconst 1, 1) := by decide +kernel
theorem dX6_isProblem_7 : decode cX6_isProblem 7 = .ok (.isub, 1) := by decide +kernel
theorem dX6_isProblem_8 : decode cX6_isProblem 8 = .ok (.invokestatic 85, 3) := by decide +kernel
theorem dX6_isProblem_11 : decode cX6_isProblem 11 = .ok (.ireturn, 1) := by decide +kernel
theorem dX6_isSolved_0 : decode cX6_isSolved 0 = .ok (.iload_n 0, 1) := by decide +kernel
theorem dX6_isSolved_1 : decode cX6_isSolved 1 = .ok (.iconst 4, 1) := by decide +kernel
theorem dX6_isSolved_2 : decode cX6_isSolved 2 = .ok (.iload_n 1, 1) := by decide +kernel
theorem dX6_isSolved_3 : decode cX6_isSolved 3 = .ok (.imul, 1) := by decide +kernel
theorem dX6_isSolved_4 : decode cX6_isSolved 4 = .ok (.iload_n 2, 1) := by decide +kernel
theorem dX6_isSolved_5 : decode cX6_isSolved 5 = .ok (.iadd, 1) := by decide +kernel
theorem dX6_isSolved_6 : decode cX6_isSolved 6 = .ok (.ishr, 1) := by decide +kernel
theorem dX6_isSolved_7 : decode cX6_isSolved 7 = .ok (.iconst 1, 1) := by decide +kernel
theorem dX6_isSolved_8 : decode cX6_isSolved 8 = .ok (.iand, 1) := by decide +kernel
theorem dX6_isSolved_9 : decode cX6_isSolved 9 = .ok (.iconst 1, 1) := by decide +kernel
theorem dX6_isSolved_10 : decode cX6_isSolved 10 = .ok (.if_icmp .ne 7, 3) := by decide +kernel
theorem dX6_isSolved_13 : decode cX6_isSolved 13 = .ok (.iconst 1, 1) := by decide +kernel
theorem dX6_isSolved_14 : decode cX6_isSolved 14 = .ok (.goto 4, 3) := by decide +kernel
theorem dX6_isSolved_17 : decode cX6_isSolved 17 = .ok (.iconst 0, 1) := by decide +kernel
theorem dX6_isSolved_18 : decode cX6_isSolved 18 = .ok (.ireturn, 1) := by decide +kernel
set_option maxRecDepth 20000 in
theorem ggX6_areAnswers_X6_isSolved : GoodIn wsX6_areAnswers wsX6_isSolved := goodIn_r _ [4] rfl (by decide +kernel)
set_option maxRecDepth 20000 in
theorem gX6_areAnswers_X6_isSolved : GoodIn wsX6_areAnswers (va_wsS RX6 207 yX6_isSolved wsX6_isSolved) := goodIn_app (goodIn_of _ (by decide +kernel)) ggX6_areAnswers_X6_isSolved
theorem dX6_areAnswers_0 : decode cX6_areAnswers 0 = .ok (.iload_n 0, 1) := by decide +kernel
theorem dX6_areAnswers_1 : decode cX6_areAnswers 1 = .ok (.istore_n 3, 1) := by decide +kernel
theorem dX6_areAnswers_2 : decode cX6_areAnswers 2 = .ok (.iconst 1, 1) := by decide +kernel
theorem dX6_areAnswers_3 : decode cX6_areAnswers 3 = .ok (.istore 4, 2) := by decide +kernel
theorem dX6_areAnswers_5 : decode cX6_areAnswers 5 = .ok (.iconst 0, 1) := by decide +kernel
theorem dX6_areAnswers_6 : decode cX6_areAnswers 6 = .ok (.istore 5, 2) := by decide +kernel
theorem dX6_areAnswers_8 : decode cX6_areAnswers 8 = .ok (.iload 5, 2) := by decide +kernel
theorem dX6_areAnswers_10 : decode cX6_areAnswers 10 = .ok (.iload_n 1, 1) := by decide +kernel
theorem dX6_areAnswers_11 : decode cX6_areAnswers 11 = .ok (.if_icmp .ge 81, 3) := by decide +kernel
theorem dX6_areAnswers_14 : decode cX6_areAnswers 14 = .ok (.iconst 0, 1) := by decide +kernel
theorem dX6_areAnswers_15 : decode cX6_areAnswers 15 = .ok (.istore 6, 2) := by decide +kernel
theorem dX6_areAnswers_17 : decode cX6_areAnswers 17 = .ok (.iconst 0, 1) := by decide +kernel
theorem dX6_areAnswers_18 : decode cX6_areAnswers 18 = .ok (.istore 7, 2) := by decide +kernel
theorem dX6_areAnswers_20 : decode cX6_areAnswers 20 = .ok (.iload 7, 2) := by decide +kernel
theorem dX6_areAnswers_22 : decode cX6_areAnswers 22 = .ok (.iload_n 2, 1) := by decide +kernel
theorem dX6_areAnswers_23 : decode cX6_areAnswers 23 = .ok (.if_icmp .ge 46, 3) := by decide +kernel
theorem dX6_areAnswers_26 : decode cX6_areAnswers 26 = .ok (.iload 6, 2) := by decide +kernel
theorem dX6_areAnswers_28 : decode cX6_areAnswers 28 = .ok (.ifCond .ne 14, 3) := by decide +kernel
theorem dX6_areAnswers_31 : decode cX6_areAnswers 31 = .ok (.iload_n 0, 1) := by decide +kernel
theorem dX6_areAnswers_32 : decode cX6_areAnswers 32 = .ok (.iload 5, 2) := by decide +kernel
theorem dX6_areAnswers_34 : decode cX6_areAnswers 34 = .ok (.iload 7, 2) := by decide +kernel
theorem dX6_areAnswers_36 : decode cX6_areAnswers 36 = .ok (.invokestatic 207, 3) := by decide +kernel
theorem dX6_areAnswers_39 : decode cX6_areAnswers 39 = .ok (.ifCond .eq 7, 3) := by decide +kernel
theorem dX6_areAnswers_42 : decode cX6_areAnswers 42 = .ok (.iconst 1, 1) := by decide +kernel
theorem dX6_areAnswers_43 : decode cX6_areAnswers 43 = .ok (.goto 4, 3) := by decide +kernel
theorem dX6_areAnswers_46 : decode cX6_areAnswers 46 = .ok (.iconst 0, 1) := by decide +kernel
theorem dX6_areAnswers_47 : decode cX6_areAnswers 47 = .ok (.istore 6, 2) := by decide +kernel
theorem dX6_areAnswers_49 : decode cX6_areAnswers 49 = .ok (.iload_n 3, 1) := by decide +kernel
theorem dX6_areAnswers_50 : decode cX6_areAnswers 50 = .ok (.iconst 1, 1) := by decide +kernel
theorem dX6_areAnswers_51 : decode cX6_areAnswers 51 = .ok (.iconst 4, 1) := by decide +kernel
theorem dX6_areAnswers_52 : decode cX6_areAnswers 52 = .ok (.iload 5, 2) := by decide +kernel
theorem dX6_areAnswers_54 : decode cX6_areAnswers 54 = .ok (.imul, 1) := by decide +kernel
theorem dX6_areAnswers_55 : decode cX6_areAnswers 55 = .ok (.iload 7, 2) := by decide +kernel
theorem dX6_areAnswers_57 : decode cX6_areAnswers 57 = .ok (.iadd, 1) := by decide +kernel
theorem dX6_areAnswers_58 : decode cX6_areAnswers 58 = .ok (.ishl, 1) := by decide +kernel
theorem dX6_areAnswers_59 : decode cX6_areAnswers 59 = .ok (.iconst (-1), 1) := by decide +kernel
theorem dX6_areAnswers_60 : decode cX6_areAnswers 60 = .ok (.ixor, 1) := by decide +kernel
theorem dX6_areAnswers_61 : decode cX6_areAnswers 61 = .ok (.iand, 1) := by decide +kernel
theorem dX6_areAnswers_62 : decode cX6_areAnswers 62 = .ok (.istore_n 3, 1) := by decide +kernel
theorem dX6_areAnswers_63 : decode cX6_areAnswers 63 = .ok (.iinc 7 1, 3) := by decide +kernel
theorem dX6_areAnswers_66 : decode cX6_areAnswers 66 = .ok (.goto (-46), 3) := by decide +kernel
theorem dX6_areAnswers_69 : decode cX6_areAnswers 69 = .ok (.iload 4, 2) := by decide +kernel
theorem dX6_areAnswers_71 : decode cX6_areAnswers 71 = .ok (.ifCond .eq 12, 3) := by decide +kernel
theorem dX6_areAnswers_74 : decode cX6_areAnswers 74 = .ok (.iload 6, 2) := by decide +kernel
theorem dX6_areAnswers_76 : decode cX6_areAnswers 76 = .ok (.ifCond .eq 7, 3) := by decide +kernel
theorem dX6_areAnswers_79 : decode cX6_areAnswers 79 = .ok (.iconst 1, 1) := by decide +kernel
theorem dX6_areAnswers_80 : decode cX6_areAnswers 80 = .ok (.goto 4, 3) := by decide +kernel
