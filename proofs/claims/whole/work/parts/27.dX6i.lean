theorem dX6_served_115 : decode cX6_served 115 = .ok (.iload 5, 2) := by decide +kernel
theorem dX6_served_117 : decode cX6_served 117 = .ok (.ireturn, 1) := by decide +kernel
set_option maxRecDepth 20000 in
theorem ggX6_codeOf_X6_served : GoodIn wsX6_codeOf wsX6_served := goodIn_r _ [7, 2, 1, 8, 9, 10, 6, 11, 12, 13, 14, 15, 16, 17, 18, 19, 20, 21, 22, 23, 24, 25, 26, 27, 28, 29, 30, 31, 32, 33, 34, 35, 36, 37, 38, 39, 40, 41, 42, 43, 44, 45, 46] rfl (by decide +kernel)
set_option maxRecDepth 20000 in
theorem gX6_codeOf_X6_served : GoodIn wsX6_codeOf (wsV RX6 223 RX6 yX6_served wsX6_served) := goodIn_app (goodIn_of _ (by decide +kernel)) ggX6_codeOf_X6_served
theorem dX6_codeOf_0 : decode cX6_codeOf 0 = .ok (.iconst 1, 1) := by decide +kernel
theorem dX6_codeOf_1 : decode cX6_codeOf 1 = .ok (.istore_n 3, 1) := by decide +kernel
theorem dX6_codeOf_2 : decode cX6_codeOf 2 = .ok (.iconst 0, 1) := by decide +kernel
theorem dX6_codeOf_3 : decode cX6_codeOf 3 = .ok (.istore 4, 2) := by decide +kernel
theorem dX6_codeOf_5 : decode cX6_codeOf 5 = .ok (.iload 4, 2) := by decide +kernel
theorem dX6_codeOf_7 : decode cX6_codeOf 7 = .ok (.aload_n 0, 1) := by decide +kernel
theorem dX6_codeOf_8 : decode cX6_codeOf 8 = .ok (.getfield 72, 3) := by decide +kernel
theorem dX6_codeOf_11 : decode cX6_codeOf 11 = .ok (.iload_n 2, 1) := by decide +kernel
theorem dX6_codeOf_12 : decode cX6_codeOf 12 = .ok (.iaload, 1) := by decide +kernel
theorem dX6_codeOf_13 : decode cX6_codeOf 13 = .ok (.if_icmp .ge 18, 3) := by decide +kernel
theorem dX6_codeOf_16 : decode cX6_codeOf 16 = .ok (.iload_n 3, 1) := by decide +kernel
theorem dX6_codeOf_17 : decode cX6_codeOf 17 = .ok (.aload_n 0, 1) := by decide +kernel
theorem dX6_codeOf_18 : decode cX6_codeOf 18 = .ok (.getfield 72, 3) := by decide +kernel
theorem dX6_codeOf_21 : decode cX6_codeOf 21 = .ok (.iload_n 1, 1) := by decide +kernel
theorem dX6_codeOf_22 : decode cX6_codeOf 22 = .ok (.iaload, 1) := by decide +kernel
theorem dX6_codeOf_23 : decode cX6_codeOf 23 = .ok (.imul, 1) := by decide +kernel
theorem dX6_codeOf_24 : decode cX6_codeOf 24 = .ok (.istore_n 3, 1) := by decide +kernel
theorem dX6_codeOf_25 : decode cX6_codeOf 25 = .ok (.iinc 4 1, 3) := by decide +kernel
theorem dX6_codeOf_28 : decode cX6_codeOf 28 = .ok (.goto (-23), 3) := by decide +kernel
theorem dX6_codeOf_31 : decode cX6_codeOf 31 = .ok (.iconst 0, 1) := by decide +kernel
theorem dX6_codeOf_32 : decode cX6_codeOf 32 = .ok (.istore 4, 2) := by decide +kernel
theorem dX6_codeOf_34 : decode cX6_codeOf 34 = .ok (.iload 4, 2) := by decide +kernel
theorem dX6_codeOf_36 : decode cX6_codeOf 36 = .ok (.iload_n 3, 1) := by decide +kernel
theorem dX6_codeOf_37 : decode cX6_codeOf 37 = .ok (.if_icmp .ge 66, 3) := by decide +kernel
theorem dX6_codeOf_40 : decode cX6_codeOf 40 = .ok (.iconst 1, 1) := by decide +kernel
theorem dX6_codeOf_41 : decode cX6_codeOf 41 = .ok (.istore 5, 2) := by decide +kernel
theorem dX6_codeOf_43 : decode cX6_codeOf 43 = .ok (.iconst 0, 1) := by decide +kernel
theorem dX6_codeOf_44 : decode cX6_codeOf 44 = .ok (.istore 6, 2) := by decide +kernel
theorem dX6_codeOf_46 : decode cX6_codeOf 46 = .ok (.iload 6, 2) := by decide +kernel
theorem dX6_codeOf_48 : decode cX6_codeOf 48 = .ok (.aload_n 0, 1) := by decide +kernel
theorem dX6_codeOf_49 : decode cX6_codeOf 49 = .ok (.getfield 69, 3) := by decide +kernel
theorem dX6_codeOf_52 : decode cX6_codeOf 52 = .ok (.iload_n 1, 1) := by decide +kernel
theorem dX6_codeOf_53 : decode cX6_codeOf 53 = .ok (.iaload, 1) := by decide +kernel
theorem dX6_codeOf_54 : decode cX6_codeOf 54 = .ok (.if_icmp .ge 35, 3) := by decide +kernel
theorem dX6_codeOf_57 : decode cX6_codeOf 57 = .ok (.iload 5, 2) := by decide +kernel
theorem dX6_codeOf_59 : decode cX6_codeOf 59 = .ok (.ifCond .eq 21, 3) := by decide +kernel
theorem dX6_codeOf_62 : decode cX6_codeOf 62 = .ok (.aload_n 0, 1) := by decide +kernel
theorem dX6_codeOf_63 : decode cX6_codeOf 63 = .ok (.iload_n 1, 1) := by decide +kernel
theorem dX6_codeOf_64 : decode cX6_codeOf 64 = .ok (.iload_n 2, 1) := by decide +kernel
theorem dX6_codeOf_65 : decode cX6_codeOf 65 = .ok (.iload 4, 2) := by decide +kernel
theorem dX6_codeOf_67 : decode cX6_codeOf 67 = .ok (.iload 6, 2) := by decide +kernel
theorem dX6_codeOf_69 : decode cX6_codeOf 69 = .ok (.invokevirtual 223, 3) := by decide +kernel
theorem dX6_codeOf_72 : decode cX6_codeOf 72 = .ok (.iconst (-1), 1) := by decide +kernel
theorem dX6_codeOf_73 : decode cX6_codeOf 73 = .ok (.if_icmp .eq 7, 3) := by decide +kernel
theorem dX6_codeOf_76 : decode cX6_codeOf 76 = .ok (.iconst 1, 1) := by decide +kernel
theorem dX6_codeOf_77 : decode cX6_codeOf 77 = .ok (.goto 4, 3) := by decide +kernel
theorem dX6_codeOf_80 : decode cX6_codeOf 80 = .ok (.iconst 0, 1) := by decide +kernel
theorem dX6_codeOf_81 : decode cX6_codeOf 81 = .ok (.istore 5, 2) := by decide +kernel
theorem dX6_codeOf_83 : decode cX6_codeOf 83 = .ok (.iinc 6 1, 3) := by decide +kernel
theorem dX6_codeOf_86 : decode cX6_codeOf 86 = .ok (.goto (-40), 3) := by decide +kernel
theorem dX6_codeOf_89 : decode cX6_codeOf 89 = .ok (.iload 5, 2) := by decide +kernel
theorem dX6_codeOf_91 : decode cX6_codeOf 91 = .ok (.ifCond .eq 6, 3) := by decide +kernel
theorem dX6_codeOf_94 : decode cX6_codeOf 94 = .ok (.iload 4, 2) := by decide +kernel
theorem dX6_codeOf_96 : decode cX6_codeOf 96 = .ok (.ireturn, 1) := by decide +kernel
theorem dX6_codeOf_97 : decode cX6_codeOf 97 = .ok (.iinc 4 1, 3) := by decide +kernel
theorem dX6_codeOf_100 : decode cX6_codeOf 100 = .ok (.goto (-66), 3) := by decide +kernel
theorem dX6_codeOf_103 : decode cX6_codeOf 103 = .ok (.iconst (-1), 1) := by decide +kernel
theorem dX6_codeOf_104 : decode cX6_codeOf 104 = .ok (.ireturn, 1) := by decide +kernel
set_option maxRecDepth 20000 in
theorem ggX6_reduces_X6_isProblem : GoodIn wsX6_reduces wsX6_isProblem := goodIn_r _ [5, 6, 7, 8, 4, 9, 32, 33, 34, 35, 36, 37, 38, 39, 40, 41, 42, 43, 44, 45, 46, 47, 48, 49, 50, 51, 52, 53, 54, 55, 56, 57, 58, 59, 60, 61, 62, 63] rfl (by decide +kernel)
set_option maxRecDepth 20000 in
theorem gX6_reduces_X6_isProblem : GoodIn wsX6_reduces (wsV RX6 217 RX6 yX6_isProblem wsX6_isProblem) := goodIn_app (goodIn_of _ (by decide +kernel)) ggX6_reduces_X6_isProblem
set_option maxRecDepth 20000 in
theorem ggX6_reduces_X6_goesWell : GoodIn wsX6_reduces wsX6_goesWell := goodIn_r _ [13, 14, 32, 33, 34, 35, 36, 37, 38, 39, 40, 41, 42, 43, 44, 45, 46, 47, 48, 49, 50, 51, 52, 53, 54, 55, 56, 57, 58, 59, 60, 61, 62, 63] rfl (by decide +kernel)
set_option maxRecDepth 20000 in
theorem gX6_reduces_X6_goesWell : GoodIn wsX6_reduces (wsV RX6 99 RX6 yX6_goesWell wsX6_goesWell) := goodIn_app (goodIn_of _ (by decide +kernel)) ggX6_reduces_X6_goesWell
set_option maxRecDepth 20000 in
theorem ggX6_reduces_X6_codeOf : GoodIn wsX6_reduces wsX6_codeOf := goodIn_r _ [18, 19, 20, 21, 22, 23, 4, 24, 25, 26, 27, 28, 29, 30, 31, 32, 33, 34, 35, 36, 37, 38, 39, 40, 41, 42, 43, 44, 45, 46, 47, 48, 49, 50, 51, 52, 53, 54, 55, 56, 57, 58, 59, 60, 61, 62, 63] rfl (by decide +kernel)
set_option maxRecDepth 20000 in
theorem gX6_reduces_X6_codeOf : GoodIn wsX6_reduces (wsV RX6 227 RX6 yX6_codeOf wsX6_codeOf) := goodIn_app (goodIn_of _ (by decide +kernel)) ggX6_reduces_X6_codeOf
theorem dX6_reduces_0 : decode cX6_reduces 0 = .ok (.aload_n 0, 1) := by decide +kernel
theorem dX6_reduces_1 : decode cX6_reduces 1 = .ok (.aload_n 0, 1) := by decide +kernel
theorem dX6_reduces_2 : decode cX6_reduces 2 = .ok (.iload_n 1, 1) := by decide +kernel
theorem dX6_reduces_3 : decode cX6_reduces 3 = .ok (.invokevirtual 217, 3) := by decide +kernel
theorem dX6_reduces_6 : decode cX6_reduces 6 = .ok (.ifCond .eq 15, 3) := by decide +kernel
theorem dX6_reduces_9 : decode cX6_reduces 9 = .ok (.aload_n 0, 1) := by decide +kernel
theorem dX6_reduces_10 : decode cX6_reduces 10 = .ok (.iload_n 2, 1) := by decide +kernel
theorem dX6_reduces_11 : decode cX6_reduces 11 = .ok (.invokevirtual 217, 3) := by decide +kernel
theorem dX6_reduces_14 : decode cX6_reduces 14 = .ok (.ifCond .eq 7, 3) := by decide +kernel
theorem dX6_reduces_17 : decode cX6_reduces 17 = .ok (.iconst 0, 1) := by decide +kernel
theorem dX6_reduces_18 : decode cX6_reduces 18 = .ok (.goto 4, 3) := by decide +kernel
theorem dX6_reduces_21 : decode cX6_reduces 21 = .ok (.iconst 1, 1) := by decide +kernel
theorem dX6_reduces_22 : decode cX6_reduces 22 = .ok (.invokevirtual 99, 3) := by decide +kernel
theorem dX6_reduces_25 : decode cX6_reduces 25 = .ok (.ifCond .eq 12, 3) := by decide +kernel
theorem dX6_reduces_28 : decode cX6_reduces 28 = .ok (.aload_n 0, 1) := by decide +kernel
theorem dX6_reduces_29 : decode cX6_reduces 29 = .ok (.iload_n 1, 1) := by decide +kernel
theorem dX6_reduces_30 : decode cX6_reduces 30 = .ok (.iload_n 2, 1) := by decide +kernel
theorem dX6_reduces_31 : decode cX6_reduces 31 = .ok (.invokevirtual 227, 3) := by decide +kernel
theorem dX6_reduces_34 : decode cX6_reduces 34 = .ok (.goto 4, 3) := by decide +kernel
theorem dX6_reduces_37 : decode cX6_reduces 37 = .ok (.iconst 0, 1) := by decide +kernel
theorem dX6_reduces_38 : decode cX6_reduces 38 = .ok (.ireturn, 1) := by decide +kernel
set_option maxRecDepth 20000 in
theorem ggX6_reducesAnew_X6_isProblem : GoodIn wsX6_reducesAnew wsX6_isProblem := goodIn_r _ [5, 6, 7, 8, 4, 9, 32, 33, 34, 35, 36, 37, 38, 39, 40, 41, 42, 43, 44, 45, 46, 47, 48, 49, 50, 51, 52, 53, 54, 55, 56, 57, 58, 59, 60, 61, 62, 63] rfl (by decide +kernel)
set_option maxRecDepth 20000 in
theorem gX6_reducesAnew_X6_isProblem : GoodIn wsX6_reducesAnew (wsV RX6 217 RX6 yX6_isProblem wsX6_isProblem) := goodIn_app (goodIn_of _ (by decide +kernel)) ggX6_reducesAnew_X6_isProblem
set_option maxRecDepth 20000 in
theorem ggX6_reducesAnew_X6_goesWell : GoodIn wsX6_reducesAnew wsX6_goesWell := goodIn_r _ [13, 14, 32, 33, 34, 35, 36, 37, 38, 39, 40, 41, 42, 43, 44, 45, 46, 47, 48, 49, 50, 51, 52, 53, 54, 55, 56, 57, 58, 59, 60, 61, 62, 63] rfl (by decide +kernel)
set_option maxRecDepth 20000 in
theorem gX6_reducesAnew_X6_goesWell : GoodIn wsX6_reducesAnew (wsV RX6 99 RX6 yX6_goesWell wsX6_goesWell) := goodIn_app (goodIn_of _ (by decide +kernel)) ggX6_reducesAnew_X6_goesWell
set_option maxRecDepth 20000 in
theorem ggX6_reducesAnew_X6_codeOf : GoodIn wsX6_reducesAnew wsX6_codeOf := goodIn_r _ [18, 19, 20, 21, 22, 23, 4, 24, 25, 26, 27, 28, 29, 30, 31, 32, 33, 34, 35, 36, 37, 38, 39, 40, 41, 42, 43, 44, 45, 46, 47, 48, 49, 50, 51, 52, 53, 54, 55, 56, 57, 58, 59, 60, 61, 62, 63] rfl (by decide +kernel)
set_option maxRecDepth 20000 in
theorem gX6_reducesAnew_X6_codeOf : GoodIn wsX6_reducesAnew (wsV RX6 227 RX6 yX6_codeOf wsX6_codeOf) := goodIn_app (goodIn_of _ (by decide +kernel)) ggX6_reducesAnew_X6_codeOf
theorem dX6_reducesAnew_0 : decode cX6_reducesAnew 0 = .ok (.aload_n 0, 1) := by decide +kernel
theorem dX6_reducesAnew_1 : decode cX6_reducesAnew 1 = .ok (.aload_n 0, 1) := by decide +kernel
theorem dX6_reducesAnew_2 : decode cX6_reducesAnew 2 = .ok (.iload_n 1, 1) := by decide +kernel
theorem dX6_reducesAnew_3 : decode cX6_reducesAnew 3 = .ok (.invokevirtual 217, 3) := by decide +kernel
theorem dX6_reducesAnew_6 : decode cX6_reducesAnew 6 = .ok (.ifCond .eq 15, 3) := by decide +kernel
theorem dX6_reducesAnew_9 : decode cX6_reducesAnew 9 = .ok (.aload_n 0, 1) := by decide +kernel
theorem dX6_reducesAnew_10 : decode cX6_reducesAnew 10 = .ok (.iload_n 2, 1) := by decide +kernel
theorem dX6_reducesAnew_11 : decode cX6_reducesAnew 11 = .ok (.invokevirtual 217, 3) := by decide +kernel
theorem dX6_reducesAnew_14 : decode cX6_reducesAnew 14 = .ok (.ifCond .eq 7, 3) := by decide +kernel
theorem dX6_reducesAnew_17 : decode cX6_reducesAnew 17 = .ok (.iconst 0, 1) := by decide +kernel
theorem dX6_reducesAnew_18 : decode cX6_reducesAnew 18 = .ok (.goto 4, 3) := by decide +kernel
theorem dX6_reducesAnew_21 : decode cX6_reducesAnew 21 = .ok (.iconst 1, 1) := by decide +kernel
theorem dX6_reducesAnew_22 : decode cX6_reducesAnew 22 = .ok (.invokevirtual 99, 3) := by decide +kernel
theorem dX6_reducesAnew_25 : decode cX6_reducesAnew 25 = .ok (.ifCond .eq 12, 3) := by decide +kernel
theorem dX6_reducesAnew_28 : decode cX6_reducesAnew 28 = .ok (.aload_n 0, 1) := by decide +kernel
theorem dX6_reducesAnew_29 : decode cX6_reducesAnew 29 = .ok (.iload_n 1, 1) := by decide +kernel
theorem dX6_reducesAnew_30 : decode cX6_reducesAnew 30 = .ok (.iload_n 2, 1) := by decide +kernel
theorem dX6_reducesAnew_31 : decode cX6_reducesAnew 31 = .ok (.invokevirtual 227, 3) := by decide +kernel
theorem dX6_reducesAnew_34 : decode cX6_reducesAnew 34 = .ok (.goto 4, 3) := by decide +kernel
theorem dX6_reducesAnew_37 : decode cX6_reducesAnew 37 = .ok (.iconst 0, 1) := by decide +kernel
theorem dX6_reducesAnew_38 : decode cX6_reducesAnew 38 = .ok (.ireturn, 1) := by decide +kernel
set_option maxRecDepth 20000 in
theorem ggX6_forth_X6_isProblem : GoodIn wsX6_forth wsX6_isProblem := goodIn_r _ [6, 7, 8, 9, 5, 10, 32, 33, 34, 35, 36, 37, 38, 39, 40, 41, 42, 43, 44, 45, 46, 47, 48, 49, 50, 51, 52, 53, 54, 55, 56, 57, 58, 59, 60, 61, 62, 63] rfl (by decide +kernel)
set_option maxRecDepth 20000 in
theorem gX6_forth_X6_isProblem : GoodIn wsX6_forth (wsV RX6 217 RX6 yX6_isProblem wsX6_isProblem) := goodIn_app (goodIn_of _ (by decide +kernel)) ggX6_forth_X6_isProblem
set_option maxRecDepth 20000 in
theorem ggX6_forth_X6_in : GoodIn wsX6_forth wsX6_in := goodIn_r _ [10] rfl (by decide +kernel)
set_option maxRecDepth 20000 in
theorem gX6_forth_X6_in : GoodIn wsX6_forth (va_wsS RX6 85 yX6_in wsX6_in) := goodIn_app (goodIn_of _ (by decide +kernel)) ggX6_forth_X6_in
set_option maxRecDepth 20000 in
theorem ggX6_forth_X6_goesWell : GoodIn wsX6_forth wsX6_goesWell := goodIn_r _ [14, 15, 32, 33, 34, 35, 36, 37, 38, 39, 40, 41, 42, 43, 44, 45, 46, 47, 48, 49, 50, 51, 52, 53, 54, 55, 56, 57, 58, 59, 60, 61, 62, 63] rfl (by decide +kernel)
set_option maxRecDepth 20000 in
theorem gX6_forth_X6_goesWell : GoodIn wsX6_forth (wsV RX6 99 RX6 yX6_goesWell wsX6_goesWell) := goodIn_app (goodIn_of _ (by decide +kernel)) ggX6_forth_X6_goesWell
set_option maxRecDepth 20000 in
theorem ggX6_forth_X6_codeOf : GoodIn wsX6_forth wsX6_codeOf := goodIn_r _ [19, 20, 1, 21, 22, 23, 5, 24, 25, 26, 27, 28, 29, 30, 31, 32, 33, 34, 35, 36, 37, 38, 39, 40, 41, 42, 43, 44, 45, 46, 47, 48, 49, 50, 51, 52, 53, 54, 55, 56, 57, 58, 59, 60, 61, 62, 63] rfl (by decide +kernel)
set_option maxRecDepth 20000 in
theorem gX6_forth_X6_codeOf : GoodIn wsX6_forth (wsV RX6 227 RX6 yX6_codeOf wsX6_codeOf) := goodIn_app (goodIn_of _ (by decide +kernel)) ggX6_forth_X6_codeOf
set_option maxRecDepth 20000 in
theorem ggX6_forth_X6_served : GoodIn wsX6_forth wsX6_served := goodIn_r _ [24, 1, 20, 25, 26, 27, 5, 28, 29, 30, 31, 32, 33, 34, 35, 36, 37, 38, 39, 40, 41, 42, 43, 44, 45, 46, 47, 48, 49, 50, 51, 52, 53, 54, 55, 56, 57, 58, 59, 60, 61, 62, 63] rfl (by decide +kernel)
set_option maxRecDepth 20000 in
theorem gX6_forth_X6_served : GoodIn wsX6_forth (wsV RX6 223 RX6 yX6_served wsX6_served) := goodIn_app (goodIn_of _ (by decide +kernel)) ggX6_forth_X6_served
theorem dX6_forth_0 : decode cX6_forth 0 = .ok (.aload_n 0, 1) := by decide +kernel
theorem dX6_forth_1 : decode cX6_forth 1 = .ok (.iload_n 1, 1) := by decide +kernel
theorem dX6_forth_2 : decode cX6_forth 2 = .ok (.invokevirtual 217, 3) := by decide +kernel
theorem dX6_forth_5 : decode cX6_forth 5 = .ok (.ifCond .eq 31, 3) := by decide +kernel
theorem dX6_forth_8 : decode cX6_forth 8 = .ok (.aload_n 0, 1) := by decide +kernel
theorem dX6_forth_9 : decode cX6_forth 9 = .ok (.iload_n 2, 1) := by decide +kernel
theorem dX6_forth_10 : decode cX6_forth 10 = .ok (.invokevirtual 217, 3) := by decide +kernel
theorem dX6_forth_13 : decode cX6_forth 13 = .ok (.ifCond .eq 23, 3) := by decide +kernel
theorem dX6_forth_16 : decode cX6_forth 16 = .ok (.iload_n 3, 1) := by decide +kernel
theorem dX6_forth_17 : decode cX6_forth 17 = .ok (.iconst 0, 1) := by decide +kernel
theorem dX6_forth_18 : decode cX6_forth 18 = .ok (.aload_n 0, 1) := by decide +kernel
theorem dX6_forth_19 : decode cX6_forth 19 = .ok (.getfield 69, 3) := by decide +kernel
theorem dX6_forth_22 : decode cX6_forth 22 = .ok (.iload_n 1, 1) := by decide +kernel
theorem dX6_forth_23 : decode cX6_forth 23 = .ok (.iaload, 1) := by decide +kernel
theorem dX6_forth_24 : decode cX6_forth 24 = .ok (.iconst 1, 1) := by decide +kernel
theorem dX6_forth_25 : decode cX6_forth 25 = .ok (.isub, 1) := by decide +kernel
theorem dX6_forth_26 : decode cX6_forth 26 = .ok (.invokestatic 85, 3) := by decide +kernel
theorem dX6_forth_29 : decode cX6_forth 29 = .ok (.ifCond .eq 7, 3) := by decide +kernel
theorem dX6_forth_32 : decode cX6_forth 32 = .ok (.iconst 1, 1) := by decide +kernel
theorem dX6_forth_33 : decode cX6_forth 33 = .ok (.goto 4, 3) := by decide +kernel
theorem dX6_forth_36 : decode cX6_forth 36 = .ok (.iconst 0, 1) := by decide +kernel
theorem dX6_forth_37 : decode cX6_forth 37 = .ok (.istore 4, 2) := by decide +kernel
theorem dX6_forth_39 : decode cX6_forth 39 = .ok (.aload_n 0, 1) := by decide +kernel
theorem dX6_forth_40 : decode cX6_forth 40 = .ok (.iload 4, 2) := by decide +kernel
theorem dX6_forth_42 : decode cX6_forth 42 = .ok (.ifCond .eq 7, 3) := by decide +kernel
theorem dX6_forth_45 : decode cX6_forth 45 = .ok (.iconst 0, 1) := by decide +kernel
theorem dX6_forth_46 : decode cX6_forth 46 = .ok (.goto 4, 3) := by decide +kernel
theorem dX6_forth_49 : decode cX6_forth 49 = .ok (.iconst 1, 1) := by decide +kernel
theorem dX6_forth_50 : decode cX6_forth 50 = .ok (.invokevirtual 99, 3) := by decide +kernel
theorem dX6_forth_53 : decode cX6_forth 53 = .ok (.ifCond .ne 5, 3) := by decide +kernel
theorem dX6_forth_56 : decode cX6_forth 56 = .ok (.iconst 0, 1) := by decide +kernel
theorem dX6_forth_57 : decode cX6_forth 57 = .ok (.ireturn, 1) := by decide +kernel
theorem dX6_forth_58 : decode cX6_forth 58 = .ok (.aload_n 0, 1) := by decide +kernel
theorem dX6_forth_59 : decode cX6_forth 59 = .ok (.iload_n 1, 1) := by decide +kernel
theorem dX6_forth_60 : decode cX6_forth 60 = .ok (.iload_n 2, 1) := by decide +kernel
theorem dX6_forth_61 : decode cX6_forth 61 = .ok (.invokevirtual 227, 3) := by decide +kernel
theorem dX6_forth_64 : decode cX6_forth 64 = .ok (.istore 5, 2) := by decide +kernel
theorem dX6_forth_66 : decode cX6_forth 66 = .ok (.iload 5, 2) := by decide +kernel
theorem dX6_forth_68 : decode cX6_forth 68 = .ok (.iconst (-1), 1) := by decide +kernel
theorem dX6_forth_69 : decode cX6_forth 69 = .ok (.if_icmp .ne 7, 3) := by decide +kernel
theorem dX6_forth_72 : decode cX6_forth 72 = .ok (.iconst (-1), 1) := by decide +kernel
theorem dX6_forth_73 : decode cX6_forth 73 = .ok (.goto 12, 3) := by decide +kernel
theorem dX6_forth_76 : decode cX6_forth 76 = .ok (.aload_n 0, 1) := by decide +kernel
theorem dX6_forth_77 : decode cX6_forth 77 = .ok (.iload_n 1, 1) := by decide +kernel
theorem dX6_forth_78 : decode cX6_forth 78 = .ok (.iload_n 2, 1) := by decide +kernel
theorem dX6_forth_79 : decode cX6_forth 79 = .ok (.iload 5, 2) := by decide +kernel
theorem dX6_forth_81 : decode cX6_forth 81 = .ok (.iload_n 3, 1) := by decide +kernel
theorem dX6_forth_82 : decode cX6_forth 82 = .ok (.invokevirtual 223, 3) := by decide +kernel
theorem dX6_forth_85 : decode cX6_forth 85 = .ok (.ireturn, 1) := by decide +kernel
set_option maxRecDepth 20000 in
theorem ggX6_ofProblem_X6_isProblem : GoodIn wsX6_ofProblem wsX6_isProblem := goodIn_r _ [8, 9, 10, 11, 7, 12, 18, 19, 20, 21, 22, 23, 24, 25, 26, 27, 28, 29, 30, 31, 32, 33, 34, 35, 36, 37, 38, 39, 40, 41, 42, 43, 44, 45, 46, 47, 48, 49] rfl (by decide +kernel)
set_option maxRecDepth 20000 in
theorem gX6_ofProblem_X6_isProblem : GoodIn wsX6_ofProblem (wsV RX6 217 RX6 yX6_isProblem wsX6_isProblem) := goodIn_app (goodIn_of _ (by decide +kernel)) ggX6_ofProblem_X6_isProblem
set_option maxRecDepth 20000 in
theorem ggX6_ofProblem_X6_in : GoodIn wsX6_ofProblem wsX6_in := goodIn_r _ [12] rfl (by decide +kernel)
set_option maxRecDepth 20000 in
theorem gX6_ofProblem_X6_in : GoodIn wsX6_ofProblem (va_wsS RX6 85 yX6_in wsX6_in) := goodIn_app (goodIn_of _ (by decide +kernel)) ggX6_ofProblem_X6_in
set_option maxRecDepth 20000 in
theorem ggX6_ofProblem_X6_goesWell : GoodIn wsX6_ofProblem wsX6_goesWell := goodIn_r _ [16, 17, 18, 19, 20, 21, 22, 23, 24, 25, 26, 27, 28, 29, 30, 31, 32, 33, 34, 35, 36, 37, 38, 39, 40, 41, 42, 43, 44, 45, 46, 47, 48, 49] rfl (by decide +kernel)
set_option maxRecDepth 20000 in
theorem gX6_ofProblem_X6_goesWell : GoodIn wsX6_ofProblem (wsV RX6 99 RX6 yX6_goesWell wsX6_goesWell) := goodIn_app (goodIn_of _ (by decide +kernel)) ggX6_ofProblem_X6_goesWell
theorem dX6_ofProblem_0 : decode cX6_ofProblem 0 = .ok (.aload_n 0, 1) := by decide +kernel
theorem dX6_ofProblem_1 : decode cX6_ofProblem 1 = .ok (.iload_n 1, 1) := by decide +kernel
theorem dX6_ofProblem_2 : decode cX6_ofProblem 2 = .ok (.invokevirtual 217, 3) := by decide +kernel
theorem dX6_ofProblem_5 : decode cX6_ofProblem 5 = .ok (.istore_n 3, 1) := by decide +kernel
theorem dX6_ofProblem_6 : decode cX6_ofProblem 6 = .ok (.aload_n 0, 1) := by decide +kernel
theorem dX6_ofProblem_7 : decode cX6_ofProblem 7 = .ok (.iload_n 3, 1) := by decide +kernel
theorem dX6_ofProblem_8 : decode cX6_ofProblem 8 = .ok (.ifCond .ne 7, 3) := by decide +kernel
theorem dX6_ofProblem_11 : decode cX6_ofProblem 11 = .ok (.iconst 1, 1) := by decide +kernel
theorem dX6_ofProblem_12 : decode cX6_ofProblem 12 = .ok (.goto 17, 3) := by decide +kernel
theorem dX6_ofProblem_15 : decode cX6_ofProblem 15 = .ok (.iload_n 2, 1) := by decide +kernel
theorem dX6_ofProblem_16 : decode cX6_ofProblem 16 = .ok (.iconst 0, 1) := by decide +kernel
theorem dX6_ofProblem_17 : decode cX6_ofProblem 17 = .ok (.iconst 2, 1) := by decide +kernel
theorem dX6_ofProblem_18 : decode cX6_ofProblem 18 = .ok (.invokestatic 85, 3) := by decide +kernel
theorem dX6_ofProblem_21 : decode cX6_ofProblem 21 = .ok (.ifCond .eq 7, 3) := by decide +kernel
theorem dX6_ofProblem_24 : decode cX6_ofProblem 24 = .ok (.iconst 0, 1) := by decide +kernel
theorem dX6_ofProblem_25 : decode cX6_ofProblem 25 = .ok (.goto 4, 3) := by decide +kernel
theorem dX6_ofProblem_28 : decode cX6_ofProblem 28 = .ok (.iconst 2, 1) := by decide +kernel
theorem dX6_ofProblem_29 : decode cX6_ofProblem 29 = .ok (.invokevirtual 99, 3) := by decide +kernel
theorem dX6_ofProblem_32 : decode cX6_ofProblem 32 = .ok (.ifCond .ne 5, 3) := by decide +kernel
theorem dX6_ofProblem_35 : decode cX6_ofProblem 35 = .ok (.iconst 0, 1) := by decide +kernel
theorem dX6_ofProblem_36 : decode cX6_ofProblem 36 = .ok (.ireturn, 1) := by decide +kernel
theorem dX6_ofProblem_37 : decode cX6_ofProblem 37 = .ok (.iload_n 2, 1) := by decide +kernel
theorem dX6_ofProblem_38 : decode cX6_ofProblem 38 = .ok (.ifCond .ne 12, 3) := by decide +kernel
theorem dX6_ofProblem_41 : decode cX6_ofProblem 41 = .ok (.aload_n 0, 1) := by decide +kernel
theorem dX6_ofProblem_42 : decode cX6_ofProblem 42 = .ok (.getfield 69, 3) := by decide +kernel
theorem dX6_ofProblem_45 : decode cX6_ofProblem 45 = .ok (.iload_n 1, 1) := by decide +kernel
theorem dX6_ofProblem_46 : decode cX6_ofProblem 46 = .ok (.iaload, 1) := by decide +kernel
theorem dX6_ofProblem_47 : decode cX6_ofProblem 47 = .ok (.goto 23, 3) := by decide +kernel
theorem dX6_ofProblem_50 : decode cX6_ofProblem 50 = .ok (.iload_n 2, 1) := by decide +kernel
theorem dX6_ofProblem_51 : decode cX6_ofProblem 51 = .ok (.iconst 1, 1) := by decide +kernel
theorem dX6_ofProblem_52 : decode cX6_ofProblem 52 = .ok (.if_icmp .ne 12, 3) := by decide +kernel
theorem dX6_ofProblem_55 : decode cX6_ofProblem 55 = .ok (.aload_n 0, 1) := by decide +kernel
theorem dX6_ofProblem_56 : decode cX6_ofProblem 56 = .ok (.getfield 72, 3) := by decide +kernel
theorem dX6_ofProblem_59 : decode cX6_ofProblem 59 = .ok (.iload_n 1, 1) := by decide +kernel
theorem dX6_ofProblem_60 : decode cX6_ofProblem 60 = .ok (.iaload, 1) := by decide +kernel
theorem dX6_ofProblem_61 : decode cX6_ofProblem 61 = .ok (.goto 9, 3) := by decide +kernel
theorem dX6_ofProblem_64 : decode cX6_ofProblem 64 = .ok (.aload_n 0, 1) := by decide +kernel
theorem dX6_ofProblem_65 : decode cX6_ofProblem 65 = .ok (.getfield 75, 3) := by decide +kernel
theorem dX6_ofProblem_68 : decode cX6_ofProblem 68 = .ok (.iload_n 1, 1) := by decide +kernel
theorem dX6_ofProblem_69 : decode cX6_ofProblem 69 = .ok (.iaload, 1) := by decide +kernel
theorem dX6_ofProblem_70 : decode cX6_ofProblem 70 = .ok (.ireturn, 1) := by decide +kernel
theorem dX6_isHad_0 : decode cX6_isHad 0 = .ok (.iconst 0, 1) := by decide +kernel
theorem dX6_isHad_1 : decode cX6_isHad 1 = .ok (.istore_n 3, 1) := by decide +kernel
theorem dX6_isHad_2 : decode cX6_isHad 2 = .ok (.iload_n 3, 1) := by decide +kernel
theorem dX6_isHad_3 : decode cX6_isHad 3 = .ok (.iconst 1, 1) := by decide +kernel
theorem dX6_isHad_4 : decode cX6_isHad 4 = .ok (.iload_n 1, 1) := by decide +kernel
theorem dX6_isHad_5 : decode cX6_isHad 5 = .ok (.ishl, 1) := by decide +kernel
theorem dX6_isHad_6 : decode cX6_isHad 6 = .ok (.if_icmp .ge 29, 3) := by decide +kernel
theorem dX6_isHad_9 : decode cX6_isHad 9 = .ok (.aload_n 0, 1) := by decide +kernel
theorem dX6_isHad_10 : decode cX6_isHad 10 = .ok (.getfield 78, 3) := by decide +kernel
theorem dX6_isHad_13 : decode cX6_isHad 13 = .ok (.iload_n 3, 1) := by decide +kernel
theorem dX6_isHad_14 : decode cX6_isHad 14 = .ok (.iload_n 2, 1) := by decide +kernel
theorem dX6_isHad_15 : decode cX6_isHad 15 = .ok (.iload_n 3, 1) := by decide +kernel
theorem dX6_isHad_16 : decode cX6_isHad 16 = .ok (.ishr, 1) := by decide +kernel
theorem dX6_isHad_17 : decode cX6_isHad 17 = .ok (.iconst 1, 1) := by decide +kernel
theorem dX6_isHad_18 : decode cX6_isHad 18 = .ok (.iand, 1) := by decide +kernel
theorem dX6_isHad_19 : decode cX6_isHad 19 = .ok (.iconst 1, 1) := by decide +kernel
theorem dX6_isHad_20 : decode cX6_isHad 20 = .ok (.if_icmp .ne 7, 3) := by decide +kernel
theorem dX6_isHad_23 : decode cX6_isHad 23 = .ok (.iconst 1, 1) := by decide +kernel
theorem dX6_isHad_24 : decode cX6_isHad 24 = .ok (.goto 4, 3) := by decide +kernel
theorem dX6_isHad_27 : decode cX6_isHad 27 = .ok (.iconst 0, 1) := by decide +kernel
theorem dX6_isHad_28 : decode cX6_isHad 28 = .ok (.bastore, 1) := by decide +kernel
theorem dX6_isHad_29 : decode cX6_isHad 29 = .ok (.iinc 3 1, 3) := by decide +kernel
theorem dX6_isHad_32 : decode cX6_isHad 32 = .ok (.goto (-30), 3) := by decide +kernel
theorem dX6_isHad_35 : decode cX6_isHad 35 = .ok (.iload_n 1, 1) := by decide +kernel
theorem dX6_isHad_36 : decode cX6_isHad 36 = .ok (.iconst 1, 1) := by decide +kernel
theorem dX6_isHad_37 : decode cX6_isHad 37 = .ok (.isub, 1) := by decide +kernel
theorem dX6_isHad_38 : decode cX6_isHad 38 = .ok (.istore_n 3, 1) := by decide +kernel
theorem dX6_isHad_39 : decode cX6_isHad 39 = .ok (.iload_n 3, 1) := by decide +kernel
theorem dX6_isHad_40 : decode cX6_isHad 40 = .ok (.ifCond .lt 104, 3) := by decide +kernel
theorem dX6_isHad_43 : decode cX6_isHad 43 = .ok (.iconst 0, 1) := by decide +kernel
theorem dX6_isHad_44 : decode cX6_isHad 44 = .ok (.istore 4, 2) := by decide +kernel
theorem dX6_isHad_46 : decode cX6_isHad 46 = .ok (.iload 4, 2) := by decide +kernel
theorem dX6_isHad_48 : decode cX6_isHad 48 = .ok (.iconst 1, 1) := by decide +kernel
theorem dX6_isHad_49 : decode cX6_isHad 49 = .ok (.iload_n 3, 1) := by decide +kernel
theorem dX6_isHad_50 : decode cX6_isHad 50 = .ok (.ishl, 1) := by decide +kernel
theorem dX6_isHad_51 : decode cX6_isHad 51 = .ok (.if_icmp .ge 87, 3) := by decide +kernel
theorem dX6_isHad_54 : decode cX6_isHad 54 = .ok (.aload_n 0, 1) := by decide +kernel
theorem dX6_isHad_55 : decode cX6_isHad 55 = .ok (.getfield 78, 3) := by decide +kernel
theorem dX6_isHad_58 : decode cX6_isHad 58 = .ok (.iload 4, 2) := by decide +kernel
theorem dX6_isHad_60 : decode cX6_isHad 60 = .ok (.iload_n 3, 1) := by decide +kernel
theorem dX6_isHad_61 : decode cX6_isHad 61 = .ok (.iconst 2, 1) := by decide +kernel
theorem dX6_isHad_62 : decode cX6_isHad 62 = .ok (.irem, 1) := by decide +kernel
theorem dX6_isHad_63 : decode cX6_isHad 63 = .ok (.ifCond .ne 37, 3) := by decide +kernel
theorem dX6_isHad_66 : decode cX6_isHad 66 = .ok (.aload_n 0, 1) := by decide +kernel
theorem dX6_isHad_67 : decode cX6_isHad 67 = .ok (.getfield 78, 3) := by decide +kernel
theorem dX6_isHad_70 : decode cX6_isHad 70 = .ok (.iconst 2, 1) := by decide +kernel
theorem dX6_isHad_71 : decode cX6_isHad 71 = .ok (.iload 4, 2) := by decide +kernel
theorem dX6_isHad_73 : decode cX6_isHad 73 = .ok (.imul, 1) := by decide +kernel
theorem dX6_isHad_74 : decode cX6_isHad 74 = .ok (.baload, 1) := by decide +kernel
theorem dX6_isHad_75 : decode cX6_isHad 75 = .ok (.ifCond .ne 17, 3) := by decide +kernel
theorem dX6_isHad_78 : decode cX6_isHad 78 = .ok (.aload_n 0, 1) := by decide +kernel
theorem dX6_isHad_79 : decode cX6_isHad 79 = .ok (.getfield 78, 3) := by decide +kernel
theorem dX6_isHad_82 : decode cX6_isHad 82 = .ok (.iconst 2, 1) := by decide +kernel
theorem dX6_isHad_83 : decode cX6_isHad 83 = .ok (.iload 4, 2) := by decide +kernel
theorem dX6_isHad_85 : decode cX6_isHad 85 = .ok (.imul, 1) := by decide +kernel
theorem dX6_isHad_86 : decode cX6_isHad 86 = .ok (.iconst 1, 1) := by decide +kernel
theorem dX6_isHad_87 : decode cX6_isHad 87 = .ok (.iadd, 1) := by decide +kernel
theorem dX6_isHad_88 : decode cX6_isHad 88 = .ok (.baload, 1) := by decide +kernel
theorem dX6_isHad_89 : decode cX6_isHad 89 = .ok (.ifCond .eq 7, 3) := by decide +kernel
theorem dX6_isHad_92 : decode cX6_isHad 92 = .ok (.iconst 1, 1) := by decide +kernel
theorem dX6_isHad_93 : decode cX6_isHad 93 = .ok (.goto 38, 3) := by decide +kernel
theorem dX6_isHad_96 : decode cX6_isHad 96 = .ok (.iconst 0, 1) := by decide +kernel
theorem dX6_isHad_97 : decode cX6_isHad 97 = .ok (.goto 34, 3) := by decide +kernel
theorem dX6_isHad_100 : decode cX6_isHad 100 = .ok (.aload_n 0, 1) := by decide +kernel
theorem dX6_isHad_101 : decode cX6_isHad 101 = .ok (.getfield 78, 3) := by decide +kernel
theorem dX6_isHad_104 : decode cX6_isHad 104 = .ok (.iconst 2, 1) := by decide +kernel
theorem dX6_isHad_105 : decode cX6_isHad 105 = .ok (.iload 4, 2) := by decide +kernel
theorem dX6_isHad_107 : decode cX6_isHad 107 = .ok (.imul, 1) := by decide +kernel
theorem dX6_isHad_108 : decode cX6_isHad 108 = .ok (.baload, 1) := by decide +kernel
theorem dX6_isHad_109 : decode cX6_isHad 109 = .ok (.ifCond .eq 21, 3) := by decide +kernel
theorem dX6_isHad_112 : decode cX6_isHad 112 = .ok (.aload_n 0, 1) := by decide +kernel
theorem dX6_isHad_113 : decode cX6_isHad 113 = .ok (.getfield 78, 3) := by decide +kernel
theorem dX6_isHad_116 : decode cX6_isHad 116 = .ok (.iconst 2, 1) := by decide +kernel
theorem dX6_isHad_117 : decode cX6_isHad 117 = .ok (.iload 4, 2) := by decide +kernel
theorem dX6_isHad_119 : decode cX6_isHad 119 = .ok (.imul, 1) := by decide +kernel
theorem dX6_isHad_120 : decode cX6_isHad 120 = .ok (.iconst 1, 1) := by decide +kernel
theorem dX6_isHad_121 : decode cX6_isHad 121 = .ok (.iadd, 1) := by decide +kernel
theorem dX6_isHad_122 : decode cX6_isHad 122 = .ok (.baload, 1) := by decide +kernel
theorem dX6_isHad_123 : decode cX6_isHad 123 = .ok (.ifCond .eq 7, 3) := by decide +kernel
theorem dX6_isHad_126 : decode cX6_isHad 126 = .ok (.iconst 1, 1) := by decide +kernel
theorem dX6_isHad_127 : decode cX6_isHad 127 = .ok (.goto 4, 3) := by decide +kernel
theorem dX6_isHad_130 : decode cX6_isHad 130 = .ok (.iconst 0, 1) := by decide +kernel
theorem dX6_isHad_131 : decode cX6_isHad 131 = .ok (.bastore, 1) := by decide +kernel
theorem dX6_isHad_132 : decode cX6_isHad 132 = .ok (.iinc 4 1, 3) := by decide +kernel
theorem dX6_isHad_135 : decode cX6_isHad 135 = .ok (.goto (-89), 3) := by decide +kernel
theorem dX6_isHad_138 : decode cX6_isHad 138 = .ok (.iinc 3 (-1), 3) := by decide +kernel
theorem dX6_isHad_141 : decode cX6_isHad 141 = .ok (.goto (-102), 3) := by decide +kernel
theorem dX6_isHad_144 : decode cX6_isHad 144 = .ok (.aload_n 0, 1) := by decide +kernel
theorem dX6_isHad_145 : decode cX6_isHad 145 = .ok (.getfield 78, 3) := by decide +kernel
theorem dX6_isHad_148 : decode cX6_isHad 148 = .ok (.iconst 0, 1) := by decide +kernel
theorem dX6_isHad_149 : decode cX6_isHad 149 = .ok (.baload, 1) := by decide +kernel
theorem dX6_isHad_150 : decode cX6_isHad 150 = .ok (.ireturn, 1) := by decide +kernel
set_option maxRecDepth 20000 in
theorem ggX6_ask_X6_in : GoodIn wsX6_ask wsX6_in := goodIn_r _ [4] rfl (by decide +kernel)
set_option maxRecDepth 20000 in
theorem gX6_ask_X6_in : GoodIn wsX6_ask (va_wsS RX6 85 yX6_in wsX6_in) := goodIn_app (goodIn_of _ (by decide +kernel)) ggX6_ask_X6_in
set_option maxRecDepth 20000 in
theorem ggX6_ask_X6_goesWell : GoodIn wsX6_ask wsX6_goesWell := goodIn_r _ [8, 9, 15, 16, 17, 18, 19, 20, 21, 22, 23, 24, 25, 26, 27, 28, 29, 30, 31, 32, 33, 34, 35, 36, 37, 38, 39, 40, 41, 42, 43, 44, 45, 46] rfl (by decide +kernel)
set_option maxRecDepth 20000 in
theorem gX6_ask_X6_goesWell : GoodIn wsX6_ask (wsV RX6 99 RX6 yX6_goesWell wsX6_goesWell) := goodIn_app (goodIn_of _ (by decide +kernel)) ggX6_ask_X6_goesWell
set_option maxRecDepth 20000 in
theorem ggX6_ask_X6_isHad : GoodIn wsX6_ask wsX6_isHad := goodIn_r _ [13, 14, 15, 16, 17, 18, 19, 20, 21, 22, 23, 24, 25, 26, 27, 28, 29, 30, 31, 32, 33, 34, 35, 36, 37, 38, 39, 40, 41, 42, 43, 44, 45, 46] rfl (by decide +kernel)
set_option maxRecDepth 20000 in
theorem gX6_ask_X6_isHad : GoodIn wsX6_ask (wsV RX6 230 RX6 yX6_isHad wsX6_isHad) := goodIn_app (goodIn_of _ (by decide +kernel)) ggX6_ask_X6_isHad
theorem dX6_ask_0 : decode cX6_ask 0 = .ok (.iload_n 1, 1) := by decide +kernel
theorem dX6_ask_1 : decode cX6_ask 1 = .ok (.iconst 1, 1) := by decide +kernel
theorem dX6_ask_2 : decode cX6_ask 2 = .ok (.iconst 4, 1) := by decide +kernel
theorem dX6_ask_3 : decode cX6_ask 3 = .ok (.invokestatic 85, 3) := by decide +kernel
theorem dX6_ask_6 : decode cX6_ask 6 = .ok (.ifCond .eq 22, 3) := by decide +kernel
theorem dX6_ask_9 : decode cX6_ask 9 = .ok (.iload_n 2, 1) := by decide +kernel
theorem dX6_ask_10 : decode cX6_ask 10 = .ok (.iconst 0, 1) := by decide +kernel
theorem dX6_ask_11 : decode cX6_ask 11 = .ok (.iconst 1, 1) := by decide +kernel
theorem dX6_ask_12 : decode cX6_ask 12 = .ok (.iconst 1, 1) := by decide +kernel
theorem dX6_ask_13 : decode cX6_ask 13 = .ok (.iload_n 1, 1) := by decide +kernel
