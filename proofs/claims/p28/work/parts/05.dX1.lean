set_option maxRecDepth 20000 in
theorem ggX1_isInRange_X5_isBetween : GoodIn wsX1_isInRange wsX5_isBetween := goodIn_r _ [3] (by decide +kernel) (by decide +kernel)
set_option maxRecDepth 20000 in
theorem gX1_isInRange_X5_isBetween_n9 : GoodIn wsX1_isInRange (wsX5_isBetween) := ggX1_isInRange_X5_isBetween
theorem dX1_isInRange_0 : decode cX1_isInRange 0 = .ok (.iconst 1, 1) := by decide +kernel
theorem dX1_isInRange_1 : decode cX1_isInRange 1 = .ok (.iload_n 0, 1) := by decide +kernel
theorem dX1_isInRange_2 : decode cX1_isInRange 2 = .ok (.iconst 4, 1) := by decide +kernel
theorem dX1_isInRange_3 : decode cX1_isInRange 3 = .ok (.invokestatic 9, 3) := by decide +kernel
theorem dX1_isInRange_6 : decode cX1_isInRange 6 = .ok (.ifCond .eq 15, 3) := by decide +kernel
theorem dX1_isInRange_9 : decode cX1_isInRange 9 = .ok (.iload_n 1, 1) := by decide +kernel
theorem dX1_isInRange_10 : decode cX1_isInRange 10 = .ok (.iconst 1, 1) := by decide +kernel
theorem dX1_isInRange_11 : decode cX1_isInRange 11 = .ok (.iload_n 0, 1) := by decide +kernel
theorem dX1_isInRange_12 : decode cX1_isInRange 12 = .ok (.ishl, 1) := by decide +kernel
theorem dX1_isInRange_13 : decode cX1_isInRange 13 = .ok (.iushr, 1) := by decide +kernel
theorem dX1_isInRange_14 : decode cX1_isInRange 14 = .ok (.ifCond .ne 7, 3) := by decide +kernel
theorem dX1_isInRange_17 : decode cX1_isInRange 17 = .ok (.iconst 1, 1) := by decide +kernel
theorem dX1_isInRange_18 : decode cX1_isInRange 18 = .ok (.goto 4, 3) := by decide +kernel
theorem dX1_isInRange_21 : decode cX1_isInRange 21 = .ok (.iconst 0, 1) := by decide +kernel
theorem dX1_isInRange_22 : decode cX1_isInRange 22 = .ok (.ireturn, 1) := by decide +kernel
set_option maxRecDepth 20000 in
theorem ggX1_isWonBackwards_X1_wonAhead : GoodIn wsX1_isWonBackwards wsX1_wonAhead := goodIn_r _ [4, 5, 6, 3, 7] (by decide +kernel) (by decide +kernel)
set_option maxRecDepth 20000 in
theorem gX1_isWonBackwards_X1_wonAhead : GoodIn wsX1_isWonBackwards (va_wsS RX1 15 yX1_wonAhead wsX1_wonAhead) := goodIn_app (goodIn_of _ (by decide +kernel)) ggX1_isWonBackwards_X1_wonAhead
theorem dX1_isWonBackwards_0 : decode cX1_isWonBackwards 0 = .ok (.iload_n 1, 1) := by decide +kernel
theorem dX1_isWonBackwards_1 : decode cX1_isWonBackwards 1 = .ok (.istore_n 2, 1) := by decide +kernel
theorem dX1_isWonBackwards_2 : decode cX1_isWonBackwards 2 = .ok (.iload_n 0, 1) := by decide +kernel
theorem dX1_isWonBackwards_3 : decode cX1_isWonBackwards 3 = .ok (.iconst 1, 1) := by decide +kernel
theorem dX1_isWonBackwards_4 : decode cX1_isWonBackwards 4 = .ok (.isub, 1) := by decide +kernel
theorem dX1_isWonBackwards_5 : decode cX1_isWonBackwards 5 = .ok (.istore_n 3, 1) := by decide +kernel
theorem dX1_isWonBackwards_6 : decode cX1_isWonBackwards 6 = .ok (.iload_n 3, 1) := by decide +kernel
theorem dX1_isWonBackwards_7 : decode cX1_isWonBackwards 7 = .ok (.ifCond .lt 15, 3) := by decide +kernel
theorem dX1_isWonBackwards_10 : decode cX1_isWonBackwards 10 = .ok (.iload_n 3, 1) := by decide +kernel
theorem dX1_isWonBackwards_11 : decode cX1_isWonBackwards 11 = .ok (.iload_n 2, 1) := by decide +kernel
theorem dX1_isWonBackwards_12 : decode cX1_isWonBackwards 12 = .ok (.invokestatic 15, 3) := by decide +kernel
theorem dX1_isWonBackwards_15 : decode cX1_isWonBackwards 15 = .ok (.istore_n 2, 1) := by decide +kernel
theorem dX1_isWonBackwards_16 : decode cX1_isWonBackwards 16 = .ok (.iinc 3 (-1), 3) := by decide +kernel
theorem dX1_isWonBackwards_19 : decode cX1_isWonBackwards 19 = .ok (.goto (-13), 3) := by decide +kernel
theorem dX1_isWonBackwards_22 : decode cX1_isWonBackwards 22 = .ok (.iload_n 2, 1) := by decide +kernel
theorem dX1_isWonBackwards_23 : decode cX1_isWonBackwards 23 = .ok (.iconst 1, 1) := by decide +kernel
theorem dX1_isWonBackwards_24 : decode cX1_isWonBackwards 24 = .ok (.if_icmp .ne 7, 3) := by decide +kernel
theorem dX1_isWonBackwards_27 : decode cX1_isWonBackwards 27 = .ok (.iconst 1, 1) := by decide +kernel
theorem dX1_isWonBackwards_28 : decode cX1_isWonBackwards 28 = .ok (.goto 4, 3) := by decide +kernel
theorem dX1_isWonBackwards_31 : decode cX1_isWonBackwards 31 = .ok (.iconst 0, 1) := by decide +kernel
theorem dX1_isWonBackwards_32 : decode cX1_isWonBackwards 32 = .ok (.ireturn, 1) := by decide +kernel
set_option maxRecDepth 20000 in
theorem ggX1_wonAhead_X1_isOfFirst : GoodIn wsX1_wonAhead wsX1_isOfFirst := goodIn_r _ [4] (by decide +kernel) (by decide +kernel)
set_option maxRecDepth 20000 in
theorem gX1_wonAhead_X1_isOfFirst : GoodIn wsX1_wonAhead (va_wsS RX1 19 yX1_isOfFirst wsX1_isOfFirst) := goodIn_app (goodIn_of _ (by decide +kernel)) ggX1_wonAhead_X1_isOfFirst
theorem dX1_wonAhead_0 : decode cX1_wonAhead 0 = .ok (.iconst 0, 1) := by decide +kernel
theorem dX1_wonAhead_1 : decode cX1_wonAhead 1 = .ok (.istore_n 2, 1) := by decide +kernel
theorem dX1_wonAhead_2 : decode cX1_wonAhead 2 = .ok (.iconst 0, 1) := by decide +kernel
theorem dX1_wonAhead_3 : decode cX1_wonAhead 3 = .ok (.istore_n 3, 1) := by decide +kernel
theorem dX1_wonAhead_4 : decode cX1_wonAhead 4 = .ok (.iload_n 3, 1) := by decide +kernel
theorem dX1_wonAhead_5 : decode cX1_wonAhead 5 = .ok (.iconst 1, 1) := by decide +kernel
theorem dX1_wonAhead_6 : decode cX1_wonAhead 6 = .ok (.iload_n 0, 1) := by decide +kernel
theorem dX1_wonAhead_7 : decode cX1_wonAhead 7 = .ok (.ishl, 1) := by decide +kernel
theorem dX1_wonAhead_8 : decode cX1_wonAhead 8 = .ok (.if_icmp .ge 62, 3) := by decide +kernel
theorem dX1_wonAhead_11 : decode cX1_wonAhead 11 = .ok (.iload_n 1, 1) := by decide +kernel
theorem dX1_wonAhead_12 : decode cX1_wonAhead 12 = .ok (.iconst 2, 1) := by decide +kernel
theorem dX1_wonAhead_13 : decode cX1_wonAhead 13 = .ok (.iload_n 3, 1) := by decide +kernel
theorem dX1_wonAhead_14 : decode cX1_wonAhead 14 = .ok (.imul, 1) := by decide +kernel
theorem dX1_wonAhead_15 : decode cX1_wonAhead 15 = .ok (.ishr, 1) := by decide +kernel
theorem dX1_wonAhead_16 : decode cX1_wonAhead 16 = .ok (.iconst 3, 1) := by decide +kernel
theorem dX1_wonAhead_17 : decode cX1_wonAhead 17 = .ok (.iand, 1) := by decide +kernel
theorem dX1_wonAhead_18 : decode cX1_wonAhead 18 = .ok (.istore 4, 2) := by decide +kernel
theorem dX1_wonAhead_20 : decode cX1_wonAhead 20 = .ok (.iload_n 0, 1) := by decide +kernel
theorem dX1_wonAhead_21 : decode cX1_wonAhead 21 = .ok (.invokestatic 19, 3) := by decide +kernel
theorem dX1_wonAhead_24 : decode cX1_wonAhead 24 = .ok (.ifCond .eq 16, 3) := by decide +kernel
theorem dX1_wonAhead_27 : decode cX1_wonAhead 27 = .ok (.iload 4, 2) := by decide +kernel
theorem dX1_wonAhead_29 : decode cX1_wonAhead 29 = .ok (.ifCond .eq 7, 3) := by decide +kernel
theorem dX1_wonAhead_32 : decode cX1_wonAhead 32 = .ok (.iconst 1, 1) := by decide +kernel
theorem dX1_wonAhead_33 : decode cX1_wonAhead 33 = .ok (.goto 18, 3) := by decide +kernel
theorem dX1_wonAhead_36 : decode cX1_wonAhead 36 = .ok (.iconst 0, 1) := by decide +kernel
theorem dX1_wonAhead_37 : decode cX1_wonAhead 37 = .ok (.goto 14, 3) := by decide +kernel
theorem dX1_wonAhead_40 : decode cX1_wonAhead 40 = .ok (.iload 4, 2) := by decide +kernel
theorem dX1_wonAhead_42 : decode cX1_wonAhead 42 = .ok (.iconst 3, 1) := by decide +kernel
theorem dX1_wonAhead_43 : decode cX1_wonAhead 43 = .ok (.if_icmp .ne 7, 3) := by decide +kernel
theorem dX1_wonAhead_46 : decode cX1_wonAhead 46 = .ok (.iconst 1, 1) := by decide +kernel
theorem dX1_wonAhead_47 : decode cX1_wonAhead 47 = .ok (.goto 4, 3) := by decide +kernel
theorem dX1_wonAhead_50 : decode cX1_wonAhead 50 = .ok (.iconst 0, 1) := by decide +kernel
theorem dX1_wonAhead_51 : decode cX1_wonAhead 51 = .ok (.istore 5, 2) := by decide +kernel
theorem dX1_wonAhead_53 : decode cX1_wonAhead 53 = .ok (.iload 5, 2) := by decide +kernel
theorem dX1_wonAhead_55 : decode cX1_wonAhead 55 = .ok (.ifCond .eq 9, 3) := by decide +kernel
theorem dX1_wonAhead_58 : decode cX1_wonAhead 58 = .ok (.iload_n 2, 1) := by decide +kernel
theorem dX1_wonAhead_59 : decode cX1_wonAhead 59 = .ok (.iconst 1, 1) := by decide +kernel
theorem dX1_wonAhead_60 : decode cX1_wonAhead 60 = .ok (.iload_n 3, 1) := by decide +kernel
theorem dX1_wonAhead_61 : decode cX1_wonAhead 61 = .ok (.ishl, 1) := by decide +kernel
theorem dX1_wonAhead_62 : decode cX1_wonAhead 62 = .ok (.ior, 1) := by decide +kernel
theorem dX1_wonAhead_63 : decode cX1_wonAhead 63 = .ok (.istore_n 2, 1) := by decide +kernel
theorem dX1_wonAhead_64 : decode cX1_wonAhead 64 = .ok (.iinc 3 1, 3) := by decide +kernel
theorem dX1_wonAhead_67 : decode cX1_wonAhead 67 = .ok (.goto (-63), 3) := by decide +kernel
theorem dX1_wonAhead_70 : decode cX1_wonAhead 70 = .ok (.iload_n 2, 1) := by decide +kernel
theorem dX1_wonAhead_71 : decode cX1_wonAhead 71 = .ok (.ireturn, 1) := by decide +kernel
theorem dX1_isOfFirst_0 : decode cX1_isOfFirst 0 = .ok (.iload_n 0, 1) := by decide +kernel
theorem dX1_isOfFirst_1 : decode cX1_isOfFirst 1 = .ok (.iconst 1, 1) := by decide +kernel
theorem dX1_isOfFirst_2 : decode cX1_isOfFirst 2 = .ok (.iand, 1) := by decide +kernel
theorem dX1_isOfFirst_3 : decode cX1_isOfFirst 3 = .ok (.ifCond .ne 7, 3) := by decide +kernel
theorem dX1_isOfFirst_6 : decode cX1_isOfFirst 6 = .ok (.iconst 1, 1) := by decide +kernel
theorem dX1_isOfFirst_7 : decode cX1_isOfFirst 7 = .ok (.goto 4, 3) := by decide +kernel
theorem dX1_isOfFirst_10 : decode cX1_isOfFirst 10 = .ok (.iconst 0, 1) := by decide +kernel
theorem dX1_isOfFirst_11 : decode cX1_isOfFirst 11 = .ok (.ireturn, 1) := by decide +kernel
set_option maxRecDepth 20000 in
theorem ggX1_isWonBySomePlan_X1_winsAlways : GoodIn wsX1_isWonBySomePlan wsX1_winsAlways := goodIn_r _ [4, 5, 6, 3, 7, 8, 9, 10] (by decide +kernel) (by decide +kernel)
set_option maxRecDepth 20000 in
theorem gX1_isWonBySomePlan_X1_winsAlways : GoodIn wsX1_isWonBySomePlan (va_wsS RX1 23 yX1_winsAlways wsX1_winsAlways) := goodIn_app (goodIn_of _ (by decide +kernel)) ggX1_isWonBySomePlan_X1_winsAlways
theorem dX1_isWonBySomePlan_0 : decode cX1_isWonBySomePlan 0 = .ok (.iconst 0, 1) := by decide +kernel
theorem dX1_isWonBySomePlan_1 : decode cX1_isWonBySomePlan 1 = .ok (.istore_n 2, 1) := by decide +kernel
theorem dX1_isWonBySomePlan_2 : decode cX1_isWonBySomePlan 2 = .ok (.iload_n 2, 1) := by decide +kernel
theorem dX1_isWonBySomePlan_3 : decode cX1_isWonBySomePlan 3 = .ok (.bipush 8, 2) := by decide +kernel
theorem dX1_isWonBySomePlan_5 : decode cX1_isWonBySomePlan 5 = .ok (.if_icmp .ge 20, 3) := by decide +kernel
theorem dX1_isWonBySomePlan_8 : decode cX1_isWonBySomePlan 8 = .ok (.iload_n 2, 1) := by decide +kernel
theorem dX1_isWonBySomePlan_9 : decode cX1_isWonBySomePlan 9 = .ok (.iload_n 0, 1) := by decide +kernel
theorem dX1_isWonBySomePlan_10 : decode cX1_isWonBySomePlan 10 = .ok (.iload_n 1, 1) := by decide +kernel
theorem dX1_isWonBySomePlan_11 : decode cX1_isWonBySomePlan 11 = .ok (.invokestatic 23, 3) := by decide +kernel
theorem dX1_isWonBySomePlan_14 : decode cX1_isWonBySomePlan 14 = .ok (.ifCond .eq 5, 3) := by decide +kernel
theorem dX1_isWonBySomePlan_17 : decode cX1_isWonBySomePlan 17 = .ok (.iconst 1, 1) := by decide +kernel
theorem dX1_isWonBySomePlan_18 : decode cX1_isWonBySomePlan 18 = .ok (.ireturn, 1) := by decide +kernel
theorem dX1_isWonBySomePlan_19 : decode cX1_isWonBySomePlan 19 = .ok (.iinc 2 1, 3) := by decide +kernel
theorem dX1_isWonBySomePlan_22 : decode cX1_isWonBySomePlan 22 = .ok (.goto (-20), 3) := by decide +kernel
theorem dX1_isWonBySomePlan_25 : decode cX1_isWonBySomePlan 25 = .ok (.iconst 0, 1) := by decide +kernel
theorem dX1_isWonBySomePlan_26 : decode cX1_isWonBySomePlan 26 = .ok (.ireturn, 1) := by decide +kernel
set_option maxRecDepth 20000 in
theorem ggX1_winsAlways_X1_outcome : GoodIn wsX1_winsAlways wsX1_outcome := goodIn_r _ [4, 5, 6, 3, 7] (by decide +kernel) (by decide +kernel)
set_option maxRecDepth 20000 in
theorem gX1_winsAlways_X1_outcome : GoodIn wsX1_winsAlways (va_wsS RX1 26 yX1_outcome wsX1_outcome) := goodIn_app (goodIn_of _ (by decide +kernel)) ggX1_winsAlways_X1_outcome
theorem dX1_winsAlways_0 : decode cX1_winsAlways 0 = .ok (.iconst 0, 1) := by decide +kernel
theorem dX1_winsAlways_1 : decode cX1_winsAlways 1 = .ok (.istore_n 3, 1) := by decide +kernel
theorem dX1_winsAlways_2 : decode cX1_winsAlways 2 = .ok (.iload_n 3, 1) := by decide +kernel
theorem dX1_winsAlways_3 : decode cX1_winsAlways 3 = .ok (.iconst 4, 1) := by decide +kernel
theorem dX1_winsAlways_4 : decode cX1_winsAlways 4 = .ok (.if_icmp .ge 24, 3) := by decide +kernel
theorem dX1_winsAlways_7 : decode cX1_winsAlways 7 = .ok (.iload_n 2, 1) := by decide +kernel
theorem dX1_winsAlways_8 : decode cX1_winsAlways 8 = .ok (.iload_n 0, 1) := by decide +kernel
theorem dX1_winsAlways_9 : decode cX1_winsAlways 9 = .ok (.iload_n 3, 1) := by decide +kernel
theorem dX1_winsAlways_10 : decode cX1_winsAlways 10 = .ok (.iload_n 1, 1) := by decide +kernel
theorem dX1_winsAlways_11 : decode cX1_winsAlways 11 = .ok (.invokestatic 26, 3) := by decide +kernel
theorem dX1_winsAlways_14 : decode cX1_winsAlways 14 = .ok (.ishr, 1) := by decide +kernel
theorem dX1_winsAlways_15 : decode cX1_winsAlways 15 = .ok (.iconst 1, 1) := by decide +kernel
theorem dX1_winsAlways_16 : decode cX1_winsAlways 16 = .ok (.iand, 1) := by decide +kernel
theorem dX1_winsAlways_17 : decode cX1_winsAlways 17 = .ok (.ifCond .ne 5, 3) := by decide +kernel
theorem dX1_winsAlways_20 : decode cX1_winsAlways 20 = .ok (.iconst 0, 1) := by decide +kernel
theorem dX1_winsAlways_21 : decode cX1_winsAlways 21 = .ok (.ireturn, 1) := by decide +kernel
theorem dX1_winsAlways_22 : decode cX1_winsAlways 22 = .ok (.iinc 3 1, 3) := by decide +kernel
theorem dX1_winsAlways_25 : decode cX1_winsAlways 25 = .ok (.goto (-23), 3) := by decide +kernel
theorem dX1_winsAlways_28 : decode cX1_winsAlways 28 = .ok (.iconst 1, 1) := by decide +kernel
theorem dX1_winsAlways_29 : decode cX1_winsAlways 29 = .ok (.ireturn, 1) := by decide +kernel
set_option maxRecDepth 20000 in
theorem ggX1_outcome_X1_said : GoodIn wsX1_outcome wsX1_said := goodIn_r _ [4] (by decide +kernel) (by decide +kernel)
set_option maxRecDepth 20000 in
theorem gX1_outcome_X1_said : GoodIn wsX1_outcome (va_wsS RX1 30 yX1_said wsX1_said) := goodIn_app (goodIn_of _ (by decide +kernel)) ggX1_outcome_X1_said
theorem dX1_outcome_0 : decode cX1_outcome 0 = .ok (.iconst 0, 1) := by decide +kernel
theorem dX1_outcome_1 : decode cX1_outcome 1 = .ok (.istore_n 3, 1) := by decide +kernel
theorem dX1_outcome_2 : decode cX1_outcome 2 = .ok (.iconst 0, 1) := by decide +kernel
theorem dX1_outcome_3 : decode cX1_outcome 3 = .ok (.istore 4, 2) := by decide +kernel
theorem dX1_outcome_5 : decode cX1_outcome 5 = .ok (.iload 4, 2) := by decide +kernel
theorem dX1_outcome_7 : decode cX1_outcome 7 = .ok (.iload_n 2, 1) := by decide +kernel
theorem dX1_outcome_8 : decode cX1_outcome 8 = .ok (.if_icmp .ge 21, 3) := by decide +kernel
theorem dX1_outcome_11 : decode cX1_outcome 11 = .ok (.iconst 2, 1) := by decide +kernel
theorem dX1_outcome_12 : decode cX1_outcome 12 = .ok (.iload_n 3, 1) := by decide +kernel
theorem dX1_outcome_13 : decode cX1_outcome 13 = .ok (.imul, 1) := by decide +kernel
theorem dX1_outcome_14 : decode cX1_outcome 14 = .ok (.iload 4, 2) := by decide +kernel
theorem dX1_outcome_16 : decode cX1_outcome 16 = .ok (.iload_n 0, 1) := by decide +kernel
theorem dX1_outcome_17 : decode cX1_outcome 17 = .ok (.iload_n 1, 1) := by decide +kernel
theorem dX1_outcome_18 : decode cX1_outcome 18 = .ok (.invokestatic 30, 3) := by decide +kernel
theorem dX1_outcome_21 : decode cX1_outcome 21 = .ok (.iadd, 1) := by decide +kernel
theorem dX1_outcome_22 : decode cX1_outcome 22 = .ok (.istore_n 3, 1) := by decide +kernel
theorem dX1_outcome_23 : decode cX1_outcome 23 = .ok (.iinc 4 1, 3) := by decide +kernel
theorem dX1_outcome_26 : decode cX1_outcome 26 = .ok (.goto (-21), 3) := by decide +kernel
theorem dX1_outcome_29 : decode cX1_outcome 29 = .ok (.iload_n 3, 1) := by decide +kernel
theorem dX1_outcome_30 : decode cX1_outcome 30 = .ok (.ireturn, 1) := by decide +kernel
theorem dX1_said_0 : decode cX1_said 0 = .ok (.iload_n 2, 1) := by decide +kernel
theorem dX1_said_1 : decode cX1_said 1 = .ok (.iconst 1, 1) := by decide +kernel
theorem dX1_said_2 : decode cX1_said 2 = .ok (.iand, 1) := by decide +kernel
theorem dX1_said_3 : decode cX1_said 3 = .ok (.istore_n 3, 1) := by decide +kernel
theorem dX1_said_4 : decode cX1_said 4 = .ok (.iload_n 0, 1) := by decide +kernel
theorem dX1_said_5 : decode cX1_said 5 = .ok (.tableswitch 41 0 2 #[27, 31, 33], 27) := by decide +kernel
theorem dX1_said_32 : decode cX1_said 32 = .ok (.iload_n 1, 1) := by decide +kernel
theorem dX1_said_33 : decode cX1_said 33 = .ok (.iconst 1, 1) := by decide +kernel
theorem dX1_said_34 : decode cX1_said 34 = .ok (.iand, 1) := by decide +kernel
theorem dX1_said_35 : decode cX1_said 35 = .ok (.ireturn, 1) := by decide +kernel
theorem dX1_said_36 : decode cX1_said 36 = .ok (.iload_n 3, 1) := by decide +kernel
theorem dX1_said_37 : decode cX1_said 37 = .ok (.ireturn, 1) := by decide +kernel
theorem dX1_said_38 : decode cX1_said 38 = .ok (.iload_n 1, 1) := by decide +kernel
theorem dX1_said_39 : decode cX1_said 39 = .ok (.iconst 1, 1) := by decide +kernel
theorem dX1_said_40 : decode cX1_said 40 = .ok (.iload_n 3, 1) := by decide +kernel
theorem dX1_said_41 : decode cX1_said 41 = .ok (.iadd, 1) := by decide +kernel
theorem dX1_said_42 : decode cX1_said 42 = .ok (.ishr, 1) := by decide +kernel
theorem dX1_said_43 : decode cX1_said 43 = .ok (.iconst 1, 1) := by decide +kernel
theorem dX1_said_44 : decode cX1_said 44 = .ok (.iand, 1) := by decide +kernel
theorem dX1_said_45 : decode cX1_said 45 = .ok (.ireturn, 1) := by decide +kernel
theorem dX1_said_46 : decode cX1_said 46 = .ok (.iload_n 2, 1) := by decide +kernel
theorem dX1_said_47 : decode cX1_said 47 = .ok (.iconst 1, 1) := by decide +kernel
theorem dX1_said_48 : decode cX1_said 48 = .ok (.ishr, 1) := by decide +kernel
theorem dX1_said_49 : decode cX1_said 49 = .ok (.ireturn, 1) := by decide +kernel
