theorem dX6_ask_14 : decode cX6_ask 14 = .ok (.ishl, 1) := by decide +kernel
theorem dX6_ask_15 : decode cX6_ask 15 = .ok (.ishl, 1) := by decide +kernel
theorem dX6_ask_16 : decode cX6_ask 16 = .ok (.iconst 1, 1) := by decide +kernel
theorem dX6_ask_17 : decode cX6_ask 17 = .ok (.isub, 1) := by decide +kernel
theorem dX6_ask_18 : decode cX6_ask 18 = .ok (.invokestatic 85, 3) := by decide +kernel
theorem dX6_ask_21 : decode cX6_ask 21 = .ok (.ifCond .eq 7, 3) := by decide +kernel
theorem dX6_ask_24 : decode cX6_ask 24 = .ok (.iconst 1, 1) := by decide +kernel
theorem dX6_ask_25 : decode cX6_ask 25 = .ok (.goto 4, 3) := by decide +kernel
theorem dX6_ask_28 : decode cX6_ask 28 = .ok (.iconst 0, 1) := by decide +kernel
theorem dX6_ask_29 : decode cX6_ask 29 = .ok (.istore_n 3, 1) := by decide +kernel
theorem dX6_ask_30 : decode cX6_ask 30 = .ok (.aload_n 0, 1) := by decide +kernel
theorem dX6_ask_31 : decode cX6_ask 31 = .ok (.iload_n 3, 1) := by decide +kernel
theorem dX6_ask_32 : decode cX6_ask 32 = .ok (.ifCond .eq 7, 3) := by decide +kernel
theorem dX6_ask_35 : decode cX6_ask 35 = .ok (.iconst 0, 1) := by decide +kernel
theorem dX6_ask_36 : decode cX6_ask 36 = .ok (.goto 4, 3) := by decide +kernel
theorem dX6_ask_39 : decode cX6_ask 39 = .ok (.iconst 1, 1) := by decide +kernel
theorem dX6_ask_40 : decode cX6_ask 40 = .ok (.invokevirtual 99, 3) := by decide +kernel
theorem dX6_ask_43 : decode cX6_ask 43 = .ok (.ifCond .eq 16, 3) := by decide +kernel
theorem dX6_ask_46 : decode cX6_ask 46 = .ok (.aload_n 0, 1) := by decide +kernel
theorem dX6_ask_47 : decode cX6_ask 47 = .ok (.iload_n 1, 1) := by decide +kernel
theorem dX6_ask_48 : decode cX6_ask 48 = .ok (.iload_n 2, 1) := by decide +kernel
theorem dX6_ask_49 : decode cX6_ask 49 = .ok (.invokevirtual 230, 3) := by decide +kernel
theorem dX6_ask_52 : decode cX6_ask 52 = .ok (.ifCond .eq 7, 3) := by decide +kernel
theorem dX6_ask_55 : decode cX6_ask 55 = .ok (.iconst 1, 1) := by decide +kernel
theorem dX6_ask_56 : decode cX6_ask 56 = .ok (.goto 4, 3) := by decide +kernel
theorem dX6_ask_59 : decode cX6_ask 59 = .ok (.iconst 0, 1) := by decide +kernel
theorem dX6_ask_60 : decode cX6_ask 60 = .ok (.ireturn, 1) := by decide +kernel
set_option maxRecDepth 20000 in
theorem ggX6_has_X6_ask : GoodIn wsX6_has wsX6_ask := goodIn_r _ [5, 6, 7, 4, 8, 9, 10, 11, 12, 13, 14, 15, 16, 17, 18, 19, 20, 21, 22, 23, 24, 25, 26, 27, 28, 29, 30, 31, 32, 33, 34, 35, 36, 37, 38, 39, 40, 41, 42, 43, 44, 45, 46, 47, 48, 49, 50] rfl (by decide +kernel)
set_option maxRecDepth 20000 in
theorem gX6_has_X6_ask : GoodIn wsX6_has (wsV RX6 234 RX6 yX6_ask wsX6_ask) := goodIn_app (goodIn_of _ (by decide +kernel)) ggX6_has_X6_ask
theorem dX6_has_0 : decode cX6_has 0 = .ok (.aload_n 0, 1) := by decide +kernel
theorem dX6_has_1 : decode cX6_has 1 = .ok (.iload_n 1, 1) := by decide +kernel
theorem dX6_has_2 : decode cX6_has 2 = .ok (.iload_n 2, 1) := by decide +kernel
theorem dX6_has_3 : decode cX6_has 3 = .ok (.invokevirtual 234, 3) := by decide +kernel
theorem dX6_has_6 : decode cX6_has 6 = .ok (.ireturn, 1) := by decide +kernel
set_option maxRecDepth 20000 in
theorem ggX6_hasAnew_X6_ask : GoodIn wsX6_hasAnew wsX6_ask := goodIn_r _ [5, 6, 7, 4, 8, 9, 10, 11, 12, 13, 14, 15, 16, 17, 18, 19, 20, 21, 22, 23, 24, 25, 26, 27, 28, 29, 30, 31, 32, 33, 34, 35, 36, 37, 38, 39, 40, 41, 42, 43, 44, 45, 46, 47, 48, 49, 50] rfl (by decide +kernel)
set_option maxRecDepth 20000 in
theorem gX6_hasAnew_X6_ask : GoodIn wsX6_hasAnew (wsV RX6 234 RX6 yX6_ask wsX6_ask) := goodIn_app (goodIn_of _ (by decide +kernel)) ggX6_hasAnew_X6_ask
theorem dX6_hasAnew_0 : decode cX6_hasAnew 0 = .ok (.aload_n 0, 1) := by decide +kernel
theorem dX6_hasAnew_1 : decode cX6_hasAnew 1 = .ok (.iload_n 1, 1) := by decide +kernel
theorem dX6_hasAnew_2 : decode cX6_hasAnew 2 = .ok (.iload_n 2, 1) := by decide +kernel
theorem dX6_hasAnew_3 : decode cX6_hasAnew 3 = .ok (.invokevirtual 234, 3) := by decide +kernel
theorem dX6_hasAnew_6 : decode cX6_hasAnew 6 = .ok (.ireturn, 1) := by decide +kernel
