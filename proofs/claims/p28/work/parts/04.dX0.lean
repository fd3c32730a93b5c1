theorem dX0_init_0 : decode cX0_init 0 = .ok (.aload_n 0, 1) := by decide +kernel
theorem dX0_init_1 : decode cX0_init 1 = .ok (.invokespecial 5, 3) := by decide +kernel
theorem dX0_init_4 : decode cX0_init 4 = .ok (.aload_n 0, 1) := by decide +kernel
theorem dX0_init_5 : decode cX0_init 5 = .ok (.bipush 40, 2) := by decide +kernel
theorem dX0_init_7 : decode cX0_init 7 = .ok (.newarray .char, 2) := by decide +kernel
theorem dX0_init_9 : decode cX0_init 9 = .ok (.putfield 13, 3) := by decide +kernel
theorem dX0_init_12 : decode cX0_init 12 = .ok (.aload_n 0, 1) := by decide +kernel
theorem dX0_init_13 : decode cX0_init 13 = .ok (.bipush 40, 2) := by decide +kernel
theorem dX0_init_15 : decode cX0_init 15 = .ok (.newarray .int, 2) := by decide +kernel
theorem dX0_init_17 : decode cX0_init 17 = .ok (.putfield 17, 3) := by decide +kernel
theorem dX0_init_20 : decode cX0_init 20 = .ok (.aload_n 0, 1) := by decide +kernel
theorem dX0_init_21 : decode cX0_init 21 = .ok (.bipush 40, 2) := by decide +kernel
theorem dX0_init_23 : decode cX0_init 23 = .ok (.newarray .int, 2) := by decide +kernel
theorem dX0_init_25 : decode cX0_init 25 = .ok (.putfield 21, 3) := by decide +kernel
theorem dX0_init_28 : decode cX0_init 28 = .ok (.aload_n 0, 1) := by decide +kernel
theorem dX0_init_29 : decode cX0_init 29 = .ok (.bipush 40, 2) := by decide +kernel
theorem dX0_init_31 : decode cX0_init 31 = .ok (.newarray .int, 2) := by decide +kernel
theorem dX0_init_33 : decode cX0_init 33 = .ok (.putfield 24, 3) := by decide +kernel
theorem dX0_init_36 : decode cX0_init 36 = .ok (.aload_n 0, 1) := by decide +kernel
theorem dX0_init_37 : decode cX0_init 37 = .ok (.bipush 40, 2) := by decide +kernel
theorem dX0_init_39 : decode cX0_init 39 = .ok (.newarray .int, 2) := by decide +kernel
theorem dX0_init_41 : decode cX0_init 41 = .ok (.putfield 27, 3) := by decide +kernel
theorem dX0_init_44 : decode cX0_init 44 = .ok (.aload_n 0, 1) := by decide +kernel
theorem dX0_init_45 : decode cX0_init 45 = .ok (.bipush 40, 2) := by decide +kernel
theorem dX0_init_47 : decode cX0_init 47 = .ok (.newarray .int, 2) := by decide +kernel
theorem dX0_init_49 : decode cX0_init 49 = .ok (.putfield 30, 3) := by decide +kernel
theorem dX0_init_52 : decode cX0_init 52 = .ok (.aload_n 0, 1) := by decide +kernel
theorem dX0_init_53 : decode cX0_init 53 = .ok (.bipush 40, 2) := by decide +kernel
theorem dX0_init_55 : decode cX0_init 55 = .ok (.newarray .int, 2) := by decide +kernel
theorem dX0_init_57 : decode cX0_init 57 = .ok (.putfield 33, 3) := by decide +kernel
theorem dX0_init_60 : decode cX0_init 60 = .ok (.aload_n 0, 1) := by decide +kernel
theorem dX0_init_61 : decode cX0_init 61 = .ok (.bipush 40, 2) := by decide +kernel
theorem dX0_init_63 : decode cX0_init 63 = .ok (.newarray .int, 2) := by decide +kernel
theorem dX0_init_65 : decode cX0_init 65 = .ok (.putfield 36, 3) := by decide +kernel
theorem dX0_init_68 : decode cX0_init 68 = .ok (.aload_n 0, 1) := by decide +kernel
theorem dX0_init_69 : decode cX0_init 69 = .ok (.sipush 5000, 3) := by decide +kernel
theorem dX0_init_72 : decode cX0_init 72 = .ok (.newarray .boolean, 2) := by decide +kernel
theorem dX0_init_74 : decode cX0_init 74 = .ok (.putfield 39, 3) := by decide +kernel
theorem dX0_init_77 : decode cX0_init 77 = .ok (.aload_n 0, 1) := by decide +kernel
theorem dX0_init_78 : decode cX0_init 78 = .ok (.iconst 0, 1) := by decide +kernel
theorem dX0_init_79 : decode cX0_init 79 = .ok (.putfield 43, 3) := by decide +kernel
theorem dX0_init_82 : decode cX0_init 82 = .ok (.aload_n 0, 1) := by decide +kernel
theorem dX0_init_83 : decode cX0_init 83 = .ok (.iconst 0, 1) := by decide +kernel
theorem dX0_init_84 : decode cX0_init 84 = .ok (.putfield 47, 3) := by decide +kernel
theorem dX0_init_87 : decode cX0_init 87 = .ok (.return_, 1) := by decide +kernel
theorem dX0_clear_0 : decode cX0_clear 0 = .ok (.aload_n 0, 1) := by decide +kernel
theorem dX0_clear_1 : decode cX0_clear 1 = .ok (.iconst 0, 1) := by decide +kernel
theorem dX0_clear_2 : decode cX0_clear 2 = .ok (.putfield 43, 3) := by decide +kernel
theorem dX0_clear_5 : decode cX0_clear 5 = .ok (.aload_n 0, 1) := by decide +kernel
theorem dX0_clear_6 : decode cX0_clear 6 = .ok (.iconst 0, 1) := by decide +kernel
theorem dX0_clear_7 : decode cX0_clear 7 = .ok (.putfield 47, 3) := by decide +kernel
theorem dX0_clear_10 : decode cX0_clear 10 = .ok (.return_, 1) := by decide +kernel
set_option maxRecDepth 20000 in
theorem ggX0_add_X0_isBounded : GoodIn wsX0_add wsX0_isBounded := goodIn_r _ [7] (by decide +kernel) (by decide +kernel)
set_option maxRecDepth 20000 in
theorem gX0_add_X0_isBounded : GoodIn wsX0_add (va_wsS RX0 50 yX0_isBounded wsX0_isBounded) := goodIn_app (goodIn_of _ (by decide +kernel)) ggX0_add_X0_isBounded
theorem dX0_add_0 : decode cX0_add 0 = .ok (.aload_n 0, 1) := by decide +kernel
theorem dX0_add_1 : decode cX0_add 1 = .ok (.getfield 43, 3) := by decide +kernel
theorem dX0_add_4 : decode cX0_add 4 = .ok (.istore_n 2, 1) := by decide +kernel
theorem dX0_add_5 : decode cX0_add 5 = .ok (.aload_n 0, 1) := by decide +kernel
theorem dX0_add_6 : decode cX0_add 6 = .ok (.dup, 1) := by decide +kernel
theorem dX0_add_7 : decode cX0_add 7 = .ok (.getfield 43, 3) := by decide +kernel
theorem dX0_add_10 : decode cX0_add 10 = .ok (.iconst 1, 1) := by decide +kernel
theorem dX0_add_11 : decode cX0_add 11 = .ok (.iadd, 1) := by decide +kernel
theorem dX0_add_12 : decode cX0_add 12 = .ok (.putfield 43, 3) := by decide +kernel
theorem dX0_add_15 : decode cX0_add 15 = .ok (.aload_n 0, 1) := by decide +kernel
theorem dX0_add_16 : decode cX0_add 16 = .ok (.getfield 13, 3) := by decide +kernel
theorem dX0_add_19 : decode cX0_add 19 = .ok (.iload_n 2, 1) := by decide +kernel
theorem dX0_add_20 : decode cX0_add 20 = .ok (.iload_n 1, 1) := by decide +kernel
theorem dX0_add_21 : decode cX0_add 21 = .ok (.castore, 1) := by decide +kernel
theorem dX0_add_22 : decode cX0_add 22 = .ok (.iload_n 1, 1) := by decide +kernel
theorem dX0_add_23 : decode cX0_add 23 = .ok (.invokestatic 50, 3) := by decide +kernel
theorem dX0_add_26 : decode cX0_add 26 = .ok (.ifCond .ne 15, 3) := by decide +kernel
theorem dX0_add_29 : decode cX0_add 29 = .ok (.iload_n 1, 1) := by decide +kernel
theorem dX0_add_30 : decode cX0_add 30 = .ok (.bipush 65, 2) := by decide +kernel
theorem dX0_add_32 : decode cX0_add 32 = .ok (.if_icmp .eq 9, 3) := by decide +kernel
theorem dX0_add_35 : decode cX0_add 35 = .ok (.iload_n 1, 1) := by decide +kernel
theorem dX0_add_36 : decode cX0_add 36 = .ok (.bipush 69, 2) := by decide +kernel
theorem dX0_add_38 : decode cX0_add 38 = .ok (.if_icmp .ne 13, 3) := by decide +kernel
theorem dX0_add_41 : decode cX0_add 41 = .ok (.aload_n 0, 1) := by decide +kernel
theorem dX0_add_42 : decode cX0_add 42 = .ok (.dup, 1) := by decide +kernel
theorem dX0_add_43 : decode cX0_add 43 = .ok (.getfield 47, 3) := by decide +kernel
theorem dX0_add_46 : decode cX0_add 46 = .ok (.iconst 1, 1) := by decide +kernel
theorem dX0_add_47 : decode cX0_add 47 = .ok (.iadd, 1) := by decide +kernel
theorem dX0_add_48 : decode cX0_add 48 = .ok (.putfield 47, 3) := by decide +kernel
theorem dX0_add_51 : decode cX0_add 51 = .ok (.iload_n 2, 1) := by decide +kernel
theorem dX0_add_52 : decode cX0_add 52 = .ok (.ireturn, 1) := by decide +kernel
theorem dX0_wholeSigma_0 : decode cX0_wholeSigma 0 = .ok (.aload_n 0, 1) := by decide +kernel
theorem dX0_wholeSigma_1 : decode cX0_wholeSigma 1 = .ok (.getfield 30, 3) := by decide +kernel
theorem dX0_wholeSigma_4 : decode cX0_wholeSigma 4 = .ok (.iconst 0, 1) := by decide +kernel
theorem dX0_wholeSigma_5 : decode cX0_wholeSigma 5 = .ok (.iaload, 1) := by decide +kernel
theorem dX0_wholeSigma_6 : decode cX0_wholeSigma 6 = .ok (.ireturn, 1) := by decide +kernel
theorem dX0_wholePi_0 : decode cX0_wholePi 0 = .ok (.aload_n 0, 1) := by decide +kernel
theorem dX0_wholePi_1 : decode cX0_wholePi 1 = .ok (.getfield 33, 3) := by decide +kernel
theorem dX0_wholePi_4 : decode cX0_wholePi 4 = .ok (.iconst 0, 1) := by decide +kernel
theorem dX0_wholePi_5 : decode cX0_wholePi 5 = .ok (.iaload, 1) := by decide +kernel
theorem dX0_wholePi_6 : decode cX0_wholePi 6 = .ok (.ireturn, 1) := by decide +kernel
theorem dX0_wholeFree_0 : decode cX0_wholeFree 0 = .ok (.aload_n 0, 1) := by decide +kernel
theorem dX0_wholeFree_1 : decode cX0_wholeFree 1 = .ok (.getfield 36, 3) := by decide +kernel
theorem dX0_wholeFree_4 : decode cX0_wholeFree 4 = .ok (.iconst 0, 1) := by decide +kernel
theorem dX0_wholeFree_5 : decode cX0_wholeFree 5 = .ok (.iaload, 1) := by decide +kernel
theorem dX0_wholeFree_6 : decode cX0_wholeFree 6 = .ok (.ireturn, 1) := by decide +kernel
theorem dX0_isOperator_0 : decode cX0_isOperator 0 = .ok (.iload_n 0, 1) := by decide +kernel
theorem dX0_isOperator_1 : decode cX0_isOperator 1 = .ok (.bipush 38, 2) := by decide +kernel
theorem dX0_isOperator_3 : decode cX0_isOperator 3 = .ok (.if_icmp .eq 15, 3) := by decide +kernel
theorem dX0_isOperator_6 : decode cX0_isOperator 6 = .ok (.iload_n 0, 1) := by decide +kernel
theorem dX0_isOperator_7 : decode cX0_isOperator 7 = .ok (.bipush 124, 2) := by decide +kernel
theorem dX0_isOperator_9 : decode cX0_isOperator 9 = .ok (.if_icmp .eq 9, 3) := by decide +kernel
theorem dX0_isOperator_12 : decode cX0_isOperator 12 = .ok (.iload_n 0, 1) := by decide +kernel
theorem dX0_isOperator_13 : decode cX0_isOperator 13 = .ok (.bipush 62, 2) := by decide +kernel
theorem dX0_isOperator_15 : decode cX0_isOperator 15 = .ok (.if_icmp .ne 7, 3) := by decide +kernel
theorem dX0_isOperator_18 : decode cX0_isOperator 18 = .ok (.iconst 1, 1) := by decide +kernel
theorem dX0_isOperator_19 : decode cX0_isOperator 19 = .ok (.goto 4, 3) := by decide +kernel
theorem dX0_isOperator_22 : decode cX0_isOperator 22 = .ok (.iconst 0, 1) := by decide +kernel
theorem dX0_isOperator_23 : decode cX0_isOperator 23 = .ok (.ireturn, 1) := by decide +kernel
theorem dX0_isBounded_0 : decode cX0_isBounded 0 = .ok (.iload_n 0, 1) := by decide +kernel
theorem dX0_isBounded_1 : decode cX0_isBounded 1 = .ok (.bipush 97, 2) := by decide +kernel
theorem dX0_isBounded_3 : decode cX0_isBounded 3 = .ok (.if_icmp .eq 9, 3) := by decide +kernel
theorem dX0_isBounded_6 : decode cX0_isBounded 6 = .ok (.iload_n 0, 1) := by decide +kernel
theorem dX0_isBounded_7 : decode cX0_isBounded 7 = .ok (.bipush 101, 2) := by decide +kernel
theorem dX0_isBounded_9 : decode cX0_isBounded 9 = .ok (.if_icmp .ne 7, 3) := by decide +kernel
theorem dX0_isBounded_12 : decode cX0_isBounded 12 = .ok (.iconst 1, 1) := by decide +kernel
theorem dX0_isBounded_13 : decode cX0_isBounded 13 = .ok (.goto 4, 3) := by decide +kernel
theorem dX0_isBounded_16 : decode cX0_isBounded 16 = .ok (.iconst 0, 1) := by decide +kernel
theorem dX0_isBounded_17 : decode cX0_isBounded 17 = .ok (.ireturn, 1) := by decide +kernel
theorem dX0_isAtom_0 : decode cX0_isAtom 0 = .ok (.iload_n 0, 1) := by decide +kernel
theorem dX0_isAtom_1 : decode cX0_isAtom 1 = .ok (.bipush 60, 2) := by decide +kernel
theorem dX0_isAtom_3 : decode cX0_isAtom 3 = .ok (.if_icmp .eq 9, 3) := by decide +kernel
theorem dX0_isAtom_6 : decode cX0_isAtom 6 = .ok (.iload_n 0, 1) := by decide +kernel
theorem dX0_isAtom_7 : decode cX0_isAtom 7 = .ok (.bipush 61, 2) := by decide +kernel
theorem dX0_isAtom_9 : decode cX0_isAtom 9 = .ok (.if_icmp .ne 7, 3) := by decide +kernel
theorem dX0_isAtom_12 : decode cX0_isAtom 12 = .ok (.iconst 1, 1) := by decide +kernel
theorem dX0_isAtom_13 : decode cX0_isAtom 13 = .ok (.goto 4, 3) := by decide +kernel
theorem dX0_isAtom_16 : decode cX0_isAtom 16 = .ok (.iconst 0, 1) := by decide +kernel
theorem dX0_isAtom_17 : decode cX0_isAtom 17 = .ok (.ireturn, 1) := by decide +kernel
set_option maxRecDepth 20000 in
theorem ggX0_weigh_X0_isAtom : GoodIn wsX0_weigh wsX0_isAtom := goodIn_r _ [12] (by decide +kernel) (by decide +kernel)
set_option maxRecDepth 20000 in
theorem gX0_weigh_X0_isAtom : GoodIn wsX0_weigh (va_wsS RX0 54 yX0_isAtom wsX0_isAtom) := goodIn_app (goodIn_of _ (by decide +kernel)) ggX0_weigh_X0_isAtom
set_option maxRecDepth 20000 in
theorem ggX0_weigh_X0_bit : GoodIn wsX0_weigh wsX0_bit := goodIn_r _ [15] (by decide +kernel) (by decide +kernel)
set_option maxRecDepth 20000 in
theorem gX0_weigh_X0_bit : GoodIn wsX0_weigh (va_wsS RX0 57 yX0_bit wsX0_bit) := goodIn_app (goodIn_of _ (by decide +kernel)) ggX0_weigh_X0_bit
set_option maxRecDepth 20000 in
theorem ggX0_weigh_X0_setWeight : GoodIn wsX0_weigh wsX0_setWeight := goodIn_r _ [19, 7, 6, 8, 38, 39, 40, 41, 42, 43, 44, 45, 46, 47, 48] (by decide +kernel) (by decide +kernel)
set_option maxRecDepth 20000 in
theorem gX0_weigh_X0_setWeight : GoodIn wsX0_weigh (wsV RX0 61 RX0 yX0_setWeight wsX0_setWeight) := goodIn_app (goodIn_of _ (by decide +kernel)) ggX0_weigh_X0_setWeight
set_option maxRecDepth 20000 in
theorem ggX0_weigh_X0_isOperator : GoodIn wsX0_weigh wsX0_isOperator := goodIn_r _ [22] (by decide +kernel) (by decide +kernel)
set_option maxRecDepth 20000 in
theorem gX0_weigh_X0_isOperator : GoodIn wsX0_weigh (va_wsS RX0 65 yX0_isOperator wsX0_isOperator) := goodIn_app (goodIn_of _ (by decide +kernel)) ggX0_weigh_X0_isOperator
set_option maxRecDepth 20000 in
theorem ggX0_weigh_X0_weighOperator : GoodIn wsX0_weigh wsX0_weighOperator := goodIn_r _ [26, 1, 6, 7, 27, 28, 29, 30, 8, 16, 17, 18, 11, 19, 38, 39, 40, 41, 42, 43, 44, 45, 46, 47, 48] (by decide +kernel) (by decide +kernel)
set_option maxRecDepth 20000 in
theorem gX0_weigh_X0_weighOperator : GoodIn wsX0_weigh (wsV RX0 68 RX0 yX0_weighOperator wsX0_weighOperator) := goodIn_app (goodIn_of _ (by decide +kernel)) ggX0_weigh_X0_weighOperator
set_option maxRecDepth 20000 in
theorem ggX0_weigh_X0_weighQuantifier : GoodIn wsX0_weigh wsX0_weighQuantifier := goodIn_r _ [34, 8, 2, 7, 6, 1, 27, 28, 29, 30, 35, 36, 37, 3, 13, 14, 11, 15, 16, 17, 18, 19, 38, 39, 40, 41, 42, 43, 44, 45, 46, 47, 48] (by decide +kernel) (by decide +kernel)
set_option maxRecDepth 20000 in
theorem gX0_weigh_X0_weighQuantifier : GoodIn wsX0_weigh (wsV RX0 72 RX0 yX0_weighQuantifier wsX0_weighQuantifier) := goodIn_app (goodIn_of _ (by decide +kernel)) ggX0_weigh_X0_weighQuantifier
theorem dX0_weigh_0 : decode cX0_weigh 0 = .ok (.aload_n 0, 1) := by decide +kernel
theorem dX0_weigh_1 : decode cX0_weigh 1 = .ok (.getfield 13, 3) := by decide +kernel
theorem dX0_weigh_4 : decode cX0_weigh 4 = .ok (.iload_n 1, 1) := by decide +kernel
theorem dX0_weigh_5 : decode cX0_weigh 5 = .ok (.caload, 1) := by decide +kernel
theorem dX0_weigh_6 : decode cX0_weigh 6 = .ok (.istore_n 2, 1) := by decide +kernel
theorem dX0_weigh_7 : decode cX0_weigh 7 = .ok (.iload_n 2, 1) := by decide +kernel
theorem dX0_weigh_8 : decode cX0_weigh 8 = .ok (.invokestatic 54, 3) := by decide +kernel
theorem dX0_weigh_11 : decode cX0_weigh 11 = .ok (.ifCond .eq 32, 3) := by decide +kernel
theorem dX0_weigh_14 : decode cX0_weigh 14 = .ok (.aload_n 0, 1) := by decide +kernel
theorem dX0_weigh_15 : decode cX0_weigh 15 = .ok (.iload_n 1, 1) := by decide +kernel
theorem dX0_weigh_16 : decode cX0_weigh 16 = .ok (.iconst 0, 1) := by decide +kernel
theorem dX0_weigh_17 : decode cX0_weigh 17 = .ok (.iconst 0, 1) := by decide +kernel
theorem dX0_weigh_18 : decode cX0_weigh 18 = .ok (.aload_n 0, 1) := by decide +kernel
theorem dX0_weigh_19 : decode cX0_weigh 19 = .ok (.getfield 17, 3) := by decide +kernel
theorem dX0_weigh_22 : decode cX0_weigh 22 = .ok (.iload_n 1, 1) := by decide +kernel
theorem dX0_weigh_23 : decode cX0_weigh 23 = .ok (.iaload, 1) := by decide +kernel
theorem dX0_weigh_24 : decode cX0_weigh 24 = .ok (.invokestatic 57, 3) := by decide +kernel
theorem dX0_weigh_27 : decode cX0_weigh 27 = .ok (.aload_n 0, 1) := by decide +kernel
theorem dX0_weigh_28 : decode cX0_weigh 28 = .ok (.getfield 21, 3) := by decide +kernel
theorem dX0_weigh_31 : decode cX0_weigh 31 = .ok (.iload_n 1, 1) := by decide +kernel
theorem dX0_weigh_32 : decode cX0_weigh 32 = .ok (.iaload, 1) := by decide +kernel
theorem dX0_weigh_33 : decode cX0_weigh 33 = .ok (.invokestatic 57, 3) := by decide +kernel
theorem dX0_weigh_36 : decode cX0_weigh 36 = .ok (.ior, 1) := by decide +kernel
theorem dX0_weigh_37 : decode cX0_weigh 37 = .ok (.invokevirtual 61, 3) := by decide +kernel
theorem dX0_weigh_40 : decode cX0_weigh 40 = .ok (.goto 80, 3) := by decide +kernel
theorem dX0_weigh_43 : decode cX0_weigh 43 = .ok (.iload_n 2, 1) := by decide +kernel
theorem dX0_weigh_44 : decode cX0_weigh 44 = .ok (.invokestatic 65, 3) := by decide +kernel
theorem dX0_weigh_47 : decode cX0_weigh 47 = .ok (.ifCond .eq 23, 3) := by decide +kernel
theorem dX0_weigh_50 : decode cX0_weigh 50 = .ok (.aload_n 0, 1) := by decide +kernel
theorem dX0_weigh_51 : decode cX0_weigh 51 = .ok (.iload_n 1, 1) := by decide +kernel
theorem dX0_weigh_52 : decode cX0_weigh 52 = .ok (.aload_n 0, 1) := by decide +kernel
theorem dX0_weigh_53 : decode cX0_weigh 53 = .ok (.getfield 24, 3) := by decide +kernel
theorem dX0_weigh_56 : decode cX0_weigh 56 = .ok (.iload_n 1, 1) := by decide +kernel
theorem dX0_weigh_57 : decode cX0_weigh 57 = .ok (.iaload, 1) := by decide +kernel
theorem dX0_weigh_58 : decode cX0_weigh 58 = .ok (.aload_n 0, 1) := by decide +kernel
theorem dX0_weigh_59 : decode cX0_weigh 59 = .ok (.getfield 27, 3) := by decide +kernel
theorem dX0_weigh_62 : decode cX0_weigh 62 = .ok (.iload_n 1, 1) := by decide +kernel
theorem dX0_weigh_63 : decode cX0_weigh 63 = .ok (.iaload, 1) := by decide +kernel
theorem dX0_weigh_64 : decode cX0_weigh 64 = .ok (.invokevirtual 68, 3) := by decide +kernel
theorem dX0_weigh_67 : decode cX0_weigh 67 = .ok (.goto 53, 3) := by decide +kernel
theorem dX0_weigh_70 : decode cX0_weigh 70 = .ok (.iload_n 2, 1) := by decide +kernel
theorem dX0_weigh_71 : decode cX0_weigh 71 = .ok (.bipush 33, 2) := by decide +kernel
theorem dX0_weigh_73 : decode cX0_weigh 73 = .ok (.if_icmp .ne 36, 3) := by decide +kernel
theorem dX0_weigh_76 : decode cX0_weigh 76 = .ok (.aload_n 0, 1) := by decide +kernel
theorem dX0_weigh_77 : decode cX0_weigh 77 = .ok (.getfield 24, 3) := by decide +kernel
theorem dX0_weigh_80 : decode cX0_weigh 80 = .ok (.iload_n 1, 1) := by decide +kernel
theorem dX0_weigh_81 : decode cX0_weigh 81 = .ok (.iaload, 1) := by decide +kernel
theorem dX0_weigh_82 : decode cX0_weigh 82 = .ok (.istore_n 3, 1) := by decide +kernel
theorem dX0_weigh_83 : decode cX0_weigh 83 = .ok (.aload_n 0, 1) := by decide +kernel
theorem dX0_weigh_84 : decode cX0_weigh 84 = .ok (.iload_n 1, 1) := by decide +kernel
theorem dX0_weigh_85 : decode cX0_weigh 85 = .ok (.aload_n 0, 1) := by decide +kernel
theorem dX0_weigh_86 : decode cX0_weigh 86 = .ok (.getfield 33, 3) := by decide +kernel
theorem dX0_weigh_89 : decode cX0_weigh 89 = .ok (.iload_n 3, 1) := by decide +kernel
theorem dX0_weigh_90 : decode cX0_weigh 90 = .ok (.iaload, 1) := by decide +kernel
theorem dX0_weigh_91 : decode cX0_weigh 91 = .ok (.aload_n 0, 1) := by decide +kernel
theorem dX0_weigh_92 : decode cX0_weigh 92 = .ok (.getfield 30, 3) := by decide +kernel
theorem dX0_weigh_95 : decode cX0_weigh 95 = .ok (.iload_n 3, 1) := by decide +kernel
theorem dX0_weigh_96 : decode cX0_weigh 96 = .ok (.iaload, 1) := by decide +kernel
theorem dX0_weigh_97 : decode cX0_weigh 97 = .ok (.aload_n 0, 1) := by decide +kernel
theorem dX0_weigh_98 : decode cX0_weigh 98 = .ok (.getfield 36, 3) := by decide +kernel
theorem dX0_weigh_101 : decode cX0_weigh 101 = .ok (.iload_n 3, 1) := by decide +kernel
theorem dX0_weigh_102 : decode cX0_weigh 102 = .ok (.iaload, 1) := by decide +kernel
theorem dX0_weigh_103 : decode cX0_weigh 103 = .ok (.invokevirtual 61, 3) := by decide +kernel
theorem dX0_weigh_106 : decode cX0_weigh 106 = .ok (.goto 14, 3) := by decide +kernel
theorem dX0_weigh_109 : decode cX0_weigh 109 = .ok (.aload_n 0, 1) := by decide +kernel
theorem dX0_weigh_110 : decode cX0_weigh 110 = .ok (.iload_n 1, 1) := by decide +kernel
theorem dX0_weigh_111 : decode cX0_weigh 111 = .ok (.aload_n 0, 1) := by decide +kernel
theorem dX0_weigh_112 : decode cX0_weigh 112 = .ok (.getfield 24, 3) := by decide +kernel
theorem dX0_weigh_115 : decode cX0_weigh 115 = .ok (.iload_n 1, 1) := by decide +kernel
theorem dX0_weigh_116 : decode cX0_weigh 116 = .ok (.iaload, 1) := by decide +kernel
theorem dX0_weigh_117 : decode cX0_weigh 117 = .ok (.invokevirtual 72, 3) := by decide +kernel
theorem dX0_weigh_120 : decode cX0_weigh 120 = .ok (.return_, 1) := by decide +kernel
set_option maxRecDepth 20000 in
theorem ggX0_weighOperator_X0_setWeight : GoodIn wsX0_weighOperator wsX0_setWeight := goodIn_r _ [13, 3, 2, 8, 14, 15, 16, 17, 18, 19, 20, 21, 22, 23, 24] (by decide +kernel) (by decide +kernel)
set_option maxRecDepth 20000 in
theorem gX0_weighOperator_X0_setWeight : GoodIn wsX0_weighOperator (wsV RX0 61 RX0 yX0_setWeight wsX0_setWeight) := goodIn_app (goodIn_of _ (by decide +kernel)) ggX0_weighOperator_X0_setWeight
theorem dX0_weighOperator_0 : decode cX0_weighOperator 0 = .ok (.aload_n 0, 1) := by decide +kernel
theorem dX0_weighOperator_1 : decode cX0_weighOperator 1 = .ok (.getfield 13, 3) := by decide +kernel
theorem dX0_weighOperator_4 : decode cX0_weighOperator 4 = .ok (.iload_n 1, 1) := by decide +kernel
theorem dX0_weighOperator_5 : decode cX0_weighOperator 5 = .ok (.caload, 1) := by decide +kernel
theorem dX0_weighOperator_6 : decode cX0_weighOperator 6 = .ok (.bipush 62, 2) := by decide +kernel
theorem dX0_weighOperator_8 : decode cX0_weighOperator 8 = .ok (.if_icmp .ne 7, 3) := by decide +kernel
theorem dX0_weighOperator_11 : decode cX0_weighOperator 11 = .ok (.iconst 1, 1) := by decide +kernel
theorem dX0_weighOperator_12 : decode cX0_weighOperator 12 = .ok (.goto 4, 3) := by decide +kernel
theorem dX0_weighOperator_15 : decode cX0_weighOperator 15 = .ok (.iconst 0, 1) := by decide +kernel
theorem dX0_weighOperator_16 : decode cX0_weighOperator 16 = .ok (.istore 4, 2) := by decide +kernel
theorem dX0_weighOperator_18 : decode cX0_weighOperator 18 = .ok (.iload 4, 2) := by decide +kernel
theorem dX0_weighOperator_20 : decode cX0_weighOperator 20 = .ok (.ifCond .eq 12, 3) := by decide +kernel
theorem dX0_weighOperator_23 : decode cX0_weighOperator 23 = .ok (.aload_n 0, 1) := by decide +kernel
theorem dX0_weighOperator_24 : decode cX0_weighOperator 24 = .ok (.getfield 33, 3) := by decide +kernel
theorem dX0_weighOperator_27 : decode cX0_weighOperator 27 = .ok (.iload_n 2, 1) := by decide +kernel
theorem dX0_weighOperator_28 : decode cX0_weighOperator 28 = .ok (.iaload, 1) := by decide +kernel
theorem dX0_weighOperator_29 : decode cX0_weighOperator 29 = .ok (.goto 9, 3) := by decide +kernel
theorem dX0_weighOperator_32 : decode cX0_weighOperator 32 = .ok (.aload_n 0, 1) := by decide +kernel
theorem dX0_weighOperator_33 : decode cX0_weighOperator 33 = .ok (.getfield 30, 3) := by decide +kernel
theorem dX0_weighOperator_36 : decode cX0_weighOperator 36 = .ok (.iload_n 2, 1) := by decide +kernel
theorem dX0_weighOperator_37 : decode cX0_weighOperator 37 = .ok (.iaload, 1) := by decide +kernel
theorem dX0_weighOperator_38 : decode cX0_weighOperator 38 = .ok (.istore 5, 2) := by decide +kernel
theorem dX0_weighOperator_40 : decode cX0_weighOperator 40 = .ok (.iload 4, 2) := by decide +kernel
theorem dX0_weighOperator_42 : decode cX0_weighOperator 42 = .ok (.ifCond .eq 12, 3) := by decide +kernel
theorem dX0_weighOperator_45 : decode cX0_weighOperator 45 = .ok (.aload_n 0, 1) := by decide +kernel
theorem dX0_weighOperator_46 : decode cX0_weighOperator 46 = .ok (.getfield 30, 3) := by decide +kernel
theorem dX0_weighOperator_49 : decode cX0_weighOperator 49 = .ok (.iload_n 2, 1) := by decide +kernel
theorem dX0_weighOperator_50 : decode cX0_weighOperator 50 = .ok (.iaload, 1) := by decide +kernel
theorem dX0_weighOperator_51 : decode cX0_weighOperator 51 = .ok (.goto 9, 3) := by decide +kernel
theorem dX0_weighOperator_54 : decode cX0_weighOperator 54 = .ok (.aload_n 0, 1) := by decide +kernel
theorem dX0_weighOperator_55 : decode cX0_weighOperator 55 = .ok (.getfield 33, 3) := by decide +kernel
theorem dX0_weighOperator_58 : decode cX0_weighOperator 58 = .ok (.iload_n 2, 1) := by decide +kernel
theorem dX0_weighOperator_59 : decode cX0_weighOperator 59 = .ok (.iaload, 1) := by decide +kernel
theorem dX0_weighOperator_60 : decode cX0_weighOperator 60 = .ok (.istore 6, 2) := by decide +kernel
theorem dX0_weighOperator_62 : decode cX0_weighOperator 62 = .ok (.aload_n 0, 1) := by decide +kernel
theorem dX0_weighOperator_63 : decode cX0_weighOperator 63 = .ok (.iload_n 1, 1) := by decide +kernel
theorem dX0_weighOperator_64 : decode cX0_weighOperator 64 = .ok (.iload 5, 2) := by decide +kernel
theorem dX0_weighOperator_66 : decode cX0_weighOperator 66 = .ok (.aload_n 0, 1) := by decide +kernel
theorem dX0_weighOperator_67 : decode cX0_weighOperator 67 = .ok (.getfield 30, 3) := by decide +kernel
theorem dX0_weighOperator_70 : decode cX0_weighOperator 70 = .ok (.iload_n 3, 1) := by decide +kernel
theorem dX0_weighOperator_71 : decode cX0_weighOperator 71 = .ok (.iaload, 1) := by decide +kernel
theorem dX0_weighOperator_72 : decode cX0_weighOperator 72 = .ok (.invokestatic 76, 3) := by decide +kernel
theorem dX0_weighOperator_75 : decode cX0_weighOperator 75 = .ok (.iload 6, 2) := by decide +kernel
theorem dX0_weighOperator_77 : decode cX0_weighOperator 77 = .ok (.aload_n 0, 1) := by decide +kernel
theorem dX0_weighOperator_78 : decode cX0_weighOperator 78 = .ok (.getfield 33, 3) := by decide +kernel
theorem dX0_weighOperator_81 : decode cX0_weighOperator 81 = .ok (.iload_n 3, 1) := by decide +kernel
theorem dX0_weighOperator_82 : decode cX0_weighOperator 82 = .ok (.iaload, 1) := by decide +kernel
theorem dX0_weighOperator_83 : decode cX0_weighOperator 83 = .ok (.invokestatic 76, 3) := by decide +kernel
theorem dX0_weighOperator_86 : decode cX0_weighOperator 86 = .ok (.aload_n 0, 1) := by decide +kernel
theorem dX0_weighOperator_87 : decode cX0_weighOperator 87 = .ok (.getfield 36, 3) := by decide +kernel
theorem dX0_weighOperator_90 : decode cX0_weighOperator 90 = .ok (.iload_n 2, 1) := by decide +kernel
theorem dX0_weighOperator_91 : decode cX0_weighOperator 91 = .ok (.iaload, 1) := by decide +kernel
theorem dX0_weighOperator_92 : decode cX0_weighOperator 92 = .ok (.aload_n 0, 1) := by decide +kernel
theorem dX0_weighOperator_93 : decode cX0_weighOperator 93 = .ok (.getfield 36, 3) := by decide +kernel
theorem dX0_weighOperator_96 : decode cX0_weighOperator 96 = .ok (.iload_n 3, 1) := by decide +kernel
theorem dX0_weighOperator_97 : decode cX0_weighOperator 97 = .ok (.iaload, 1) := by decide +kernel
theorem dX0_weighOperator_98 : decode cX0_weighOperator 98 = .ok (.ior, 1) := by decide +kernel
theorem dX0_weighOperator_99 : decode cX0_weighOperator 99 = .ok (.invokevirtual 61, 3) := by decide +kernel
theorem dX0_weighOperator_102 : decode cX0_weighOperator 102 = .ok (.return_, 1) := by decide +kernel
set_option maxRecDepth 20000 in
theorem ggX0_weighQuantifier_X0_bit : GoodIn wsX0_weighQuantifier wsX0_bit := goodIn_r _ [17] (by decide +kernel) (by decide +kernel)
set_option maxRecDepth 20000 in
theorem gX0_weighQuantifier_X0_bit : GoodIn wsX0_weighQuantifier (va_wsS RX0 57 yX0_bit wsX0_bit) := goodIn_app (goodIn_of _ (by decide +kernel)) ggX0_weighQuantifier_X0_bit
set_option maxRecDepth 20000 in
theorem ggX0_weighQuantifier_X0_setWeight : GoodIn wsX0_weighQuantifier wsX0_setWeight := goodIn_r _ [21, 3, 4, 1, 22, 23, 24, 25, 26, 27, 28, 29, 30, 31, 32] (by decide +kernel) (by decide +kernel)
set_option maxRecDepth 20000 in
theorem gX0_weighQuantifier_X0_setWeight : GoodIn wsX0_weighQuantifier (wsV RX0 61 RX0 yX0_setWeight wsX0_setWeight) := goodIn_app (goodIn_of _ (by decide +kernel)) ggX0_weighQuantifier_X0_setWeight
theorem dX0_weighQuantifier_0 : decode cX0_weighQuantifier 0 = .ok (.aload_n 0, 1) := by decide +kernel
theorem dX0_weighQuantifier_1 : decode cX0_weighQuantifier 1 = .ok (.getfield 36, 3) := by decide +kernel
theorem dX0_weighQuantifier_4 : decode cX0_weighQuantifier 4 = .ok (.iload_n 2, 1) := by decide +kernel
theorem dX0_weighQuantifier_5 : decode cX0_weighQuantifier 5 = .ok (.iaload, 1) := by decide +kernel
theorem dX0_weighQuantifier_6 : decode cX0_weighQuantifier 6 = .ok (.aload_n 0, 1) := by decide +kernel
theorem dX0_weighQuantifier_7 : decode cX0_weighQuantifier 7 = .ok (.getfield 17, 3) := by decide +kernel
theorem dX0_weighQuantifier_10 : decode cX0_weighQuantifier 10 = .ok (.iload_n 1, 1) := by decide +kernel
theorem dX0_weighQuantifier_11 : decode cX0_weighQuantifier 11 = .ok (.iaload, 1) := by decide +kernel
theorem dX0_weighQuantifier_12 : decode cX0_weighQuantifier 12 = .ok (.invokestatic 57, 3) := by decide +kernel
theorem dX0_weighQuantifier_15 : decode cX0_weighQuantifier 15 = .ok (.iconst (-1), 1) := by decide +kernel
theorem dX0_weighQuantifier_16 : decode cX0_weighQuantifier 16 = .ok (.ixor, 1) := by decide +kernel
theorem dX0_weighQuantifier_17 : decode cX0_weighQuantifier 17 = .ok (.iand, 1) := by decide +kernel
theorem dX0_weighQuantifier_18 : decode cX0_weighQuantifier 18 = .ok (.istore_n 3, 1) := by decide +kernel
theorem dX0_weighQuantifier_19 : decode cX0_weighQuantifier 19 = .ok (.aload_n 0, 1) := by decide +kernel
theorem dX0_weighQuantifier_20 : decode cX0_weighQuantifier 20 = .ok (.getfield 30, 3) := by decide +kernel
theorem dX0_weighQuantifier_23 : decode cX0_weighQuantifier 23 = .ok (.iload_n 2, 1) := by decide +kernel
theorem dX0_weighQuantifier_24 : decode cX0_weighQuantifier 24 = .ok (.iaload, 1) := by decide +kernel
theorem dX0_weighQuantifier_25 : decode cX0_weighQuantifier 25 = .ok (.istore 4, 2) := by decide +kernel
theorem dX0_weighQuantifier_27 : decode cX0_weighQuantifier 27 = .ok (.aload_n 0, 1) := by decide +kernel
theorem dX0_weighQuantifier_28 : decode cX0_weighQuantifier 28 = .ok (.getfield 33, 3) := by decide +kernel
theorem dX0_weighQuantifier_31 : decode cX0_weighQuantifier 31 = .ok (.iload_n 2, 1) := by decide +kernel
theorem dX0_weighQuantifier_32 : decode cX0_weighQuantifier 32 = .ok (.iaload, 1) := by decide +kernel
theorem dX0_weighQuantifier_33 : decode cX0_weighQuantifier 33 = .ok (.istore 5, 2) := by decide +kernel
theorem dX0_weighQuantifier_35 : decode cX0_weighQuantifier 35 = .ok (.aload_n 0, 1) := by decide +kernel
theorem dX0_weighQuantifier_36 : decode cX0_weighQuantifier 36 = .ok (.getfield 13, 3) := by decide +kernel
theorem dX0_weighQuantifier_39 : decode cX0_weighQuantifier 39 = .ok (.iload_n 1, 1) := by decide +kernel
theorem dX0_weighQuantifier_40 : decode cX0_weighQuantifier 40 = .ok (.caload, 1) := by decide +kernel
theorem dX0_weighQuantifier_41 : decode cX0_weighQuantifier 41 = .ok (.lookupswitch 87 #[(65, 57), (69, 27)], 27) := by decide +kernel
theorem dX0_weighQuantifier_68 : decode cX0_weighQuantifier 68 = .ok (.iload 4, 2) := by decide +kernel
theorem dX0_weighQuantifier_70 : decode cX0_weighQuantifier 70 = .ok (.iconst 1, 1) := by decide +kernel
theorem dX0_weighQuantifier_71 : decode cX0_weighQuantifier 71 = .ok (.invokestatic 76, 3) := by decide +kernel
theorem dX0_weighQuantifier_74 : decode cX0_weighQuantifier 74 = .ok (.iload 5, 2) := by decide +kernel
theorem dX0_weighQuantifier_76 : decode cX0_weighQuantifier 76 = .ok (.iconst 1, 1) := by decide +kernel
theorem dX0_weighQuantifier_77 : decode cX0_weighQuantifier 77 = .ok (.iadd, 1) := by decide +kernel
theorem dX0_weighQuantifier_78 : decode cX0_weighQuantifier 78 = .ok (.invokestatic 82, 3) := by decide +kernel
theorem dX0_weighQuantifier_81 : decode cX0_weighQuantifier 81 = .ok (.istore 4, 2) := by decide +kernel
theorem dX0_weighQuantifier_83 : decode cX0_weighQuantifier 83 = .ok (.aload_n 0, 1) := by decide +kernel
theorem dX0_weighQuantifier_84 : decode cX0_weighQuantifier 84 = .ok (.iload_n 1, 1) := by decide +kernel
theorem dX0_weighQuantifier_85 : decode cX0_weighQuantifier 85 = .ok (.iload 4, 2) := by decide +kernel
theorem dX0_weighQuantifier_87 : decode cX0_weighQuantifier 87 = .ok (.iload 4, 2) := by decide +kernel
theorem dX0_weighQuantifier_89 : decode cX0_weighQuantifier 89 = .ok (.iconst 1, 1) := by decide +kernel
theorem dX0_weighQuantifier_90 : decode cX0_weighQuantifier 90 = .ok (.iadd, 1) := by decide +kernel
theorem dX0_weighQuantifier_91 : decode cX0_weighQuantifier 91 = .ok (.iload_n 3, 1) := by decide +kernel
theorem dX0_weighQuantifier_92 : decode cX0_weighQuantifier 92 = .ok (.invokevirtual 61, 3) := by decide +kernel
theorem dX0_weighQuantifier_95 : decode cX0_weighQuantifier 95 = .ok (.goto 53, 3) := by decide +kernel
theorem dX0_weighQuantifier_98 : decode cX0_weighQuantifier 98 = .ok (.iload 5, 2) := by decide +kernel
theorem dX0_weighQuantifier_100 : decode cX0_weighQuantifier 100 = .ok (.iconst 1, 1) := by decide +kernel
theorem dX0_weighQuantifier_101 : decode cX0_weighQuantifier 101 = .ok (.invokestatic 76, 3) := by decide +kernel
theorem dX0_weighQuantifier_104 : decode cX0_weighQuantifier 104 = .ok (.iload 4, 2) := by decide +kernel
theorem dX0_weighQuantifier_106 : decode cX0_weighQuantifier 106 = .ok (.iconst 1, 1) := by decide +kernel
theorem dX0_weighQuantifier_107 : decode cX0_weighQuantifier 107 = .ok (.iadd, 1) := by decide +kernel
theorem dX0_weighQuantifier_108 : decode cX0_weighQuantifier 108 = .ok (.invokestatic 82, 3) := by decide +kernel
theorem dX0_weighQuantifier_111 : decode cX0_weighQuantifier 111 = .ok (.istore 5, 2) := by decide +kernel
theorem dX0_weighQuantifier_113 : decode cX0_weighQuantifier 113 = .ok (.aload_n 0, 1) := by decide +kernel
theorem dX0_weighQuantifier_114 : decode cX0_weighQuantifier 114 = .ok (.iload_n 1, 1) := by decide +kernel
theorem dX0_weighQuantifier_115 : decode cX0_weighQuantifier 115 = .ok (.iload 5, 2) := by decide +kernel
theorem dX0_weighQuantifier_117 : decode cX0_weighQuantifier 117 = .ok (.iconst 1, 1) := by decide +kernel
theorem dX0_weighQuantifier_118 : decode cX0_weighQuantifier 118 = .ok (.iadd, 1) := by decide +kernel
theorem dX0_weighQuantifier_119 : decode cX0_weighQuantifier 119 = .ok (.iload 5, 2) := by decide +kernel
theorem dX0_weighQuantifier_121 : decode cX0_weighQuantifier 121 = .ok (.iload_n 3, 1) := by decide +kernel
theorem dX0_weighQuantifier_122 : decode cX0_weighQuantifier 122 = .ok (.invokevirtual 61, 3) := by decide +kernel
theorem dX0_weighQuantifier_125 : decode cX0_weighQuantifier 125 = .ok (.goto 23, 3) := by decide +kernel
theorem dX0_weighQuantifier_128 : decode cX0_weighQuantifier 128 = .ok (.aload_n 0, 1) := by decide +kernel
theorem dX0_weighQuantifier_129 : decode cX0_weighQuantifier 129 = .ok (.iload_n 1, 1) := by decide +kernel
theorem dX0_weighQuantifier_130 : decode cX0_weighQuantifier 130 = .ok (.iload 4, 2) := by decide +kernel
theorem dX0_weighQuantifier_132 : decode cX0_weighQuantifier 132 = .ok (.iload 5, 2) := by decide +kernel
theorem dX0_weighQuantifier_134 : decode cX0_weighQuantifier 134 = .ok (.iload_n 3, 1) := by decide +kernel
theorem dX0_weighQuantifier_135 : decode cX0_weighQuantifier 135 = .ok (.aload_n 0, 1) := by decide +kernel
theorem dX0_weighQuantifier_136 : decode cX0_weighQuantifier 136 = .ok (.getfield 21, 3) := by decide +kernel
theorem dX0_weighQuantifier_139 : decode cX0_weighQuantifier 139 = .ok (.iload_n 1, 1) := by decide +kernel
theorem dX0_weighQuantifier_140 : decode cX0_weighQuantifier 140 = .ok (.iaload, 1) := by decide +kernel
theorem dX0_weighQuantifier_141 : decode cX0_weighQuantifier 141 = .ok (.invokestatic 57, 3) := by decide +kernel
theorem dX0_weighQuantifier_144 : decode cX0_weighQuantifier 144 = .ok (.ior, 1) := by decide +kernel
theorem dX0_weighQuantifier_145 : decode cX0_weighQuantifier 145 = .ok (.invokevirtual 61, 3) := by decide +kernel
theorem dX0_weighQuantifier_148 : decode cX0_weighQuantifier 148 = .ok (.return_, 1) := by decide +kernel
theorem dX0_setWeight_0 : decode cX0_setWeight 0 = .ok (.aload_n 0, 1) := by decide +kernel
theorem dX0_setWeight_1 : decode cX0_setWeight 1 = .ok (.getfield 30, 3) := by decide +kernel
theorem dX0_setWeight_4 : decode cX0_setWeight 4 = .ok (.iload_n 1, 1) := by decide +kernel
theorem dX0_setWeight_5 : decode cX0_setWeight 5 = .ok (.iload_n 2, 1) := by decide +kernel
theorem dX0_setWeight_6 : decode cX0_setWeight 6 = .ok (.iastore, 1) := by decide +kernel
theorem dX0_setWeight_7 : decode cX0_setWeight 7 = .ok (.aload_n 0, 1) := by decide +kernel
theorem dX0_setWeight_8 : decode cX0_setWeight 8 = .ok (.getfield 33, 3) := by decide +kernel
theorem dX0_setWeight_11 : decode cX0_setWeight 11 = .ok (.iload_n 1, 1) := by decide +kernel
theorem dX0_setWeight_12 : decode cX0_setWeight 12 = .ok (.iload_n 3, 1) := by decide +kernel
theorem dX0_setWeight_13 : decode cX0_setWeight 13 = .ok (.iastore, 1) := by decide +kernel
theorem dX0_setWeight_14 : decode cX0_setWeight 14 = .ok (.aload_n 0, 1) := by decide +kernel
theorem dX0_setWeight_15 : decode cX0_setWeight 15 = .ok (.getfield 36, 3) := by decide +kernel
theorem dX0_setWeight_18 : decode cX0_setWeight 18 = .ok (.iload_n 1, 1) := by decide +kernel
theorem dX0_setWeight_19 : decode cX0_setWeight 19 = .ok (.iload 4, 2) := by decide +kernel
theorem dX0_setWeight_21 : decode cX0_setWeight 21 = .ok (.iastore, 1) := by decide +kernel
theorem dX0_setWeight_22 : decode cX0_setWeight 22 = .ok (.return_, 1) := by decide +kernel
theorem dX0_bit_0 : decode cX0_bit 0 = .ok (.iconst 1, 1) := by decide +kernel
theorem dX0_bit_1 : decode cX0_bit 1 = .ok (.iload_n 0, 1) := by decide +kernel
theorem dX0_bit_2 : decode cX0_bit 2 = .ok (.ishl, 1) := by decide +kernel
theorem dX0_bit_3 : decode cX0_bit 3 = .ok (.ireturn, 1) := by decide +kernel
set_option maxRecDepth 20000 in
theorem ggX0_isTrue_X0_truth : GoodIn wsX0_isTrue wsX0_truth := goodIn_r _ [7, 8, 9, 10, 2, 11, 12, 13, 6, 14, 15, 16, 17, 18, 19, 20, 21, 22, 23, 24, 25, 26, 27, 28, 29, 30, 31, 32, 33, 34, 35, 36, 37] (by decide +kernel) (by decide +kernel)
set_option maxRecDepth 20000 in
theorem gX0_isTrue_X0_truth : GoodIn wsX0_isTrue (wsV RX0 85 RX0 yX0_truth wsX0_truth) := goodIn_app (goodIn_of _ (by decide +kernel)) ggX0_isTrue_X0_truth
set_option maxRecDepth 20000 in
theorem ggX0_isTrue_X0_step : GoodIn wsX0_isTrue wsX0_step := goodIn_r _ [21] (by decide +kernel) (by decide +kernel)
set_option maxRecDepth 20000 in
theorem gX0_isTrue_X0_step : GoodIn wsX0_isTrue (va_wsS RX0 89 yX0_step wsX0_step) := goodIn_app (goodIn_of _ (by decide +kernel)) ggX0_isTrue_X0_step
theorem dX0_isTrue_0 : decode cX0_isTrue 0 = .ok (.aload_n 0, 1) := by decide +kernel
theorem dX0_isTrue_1 : decode cX0_isTrue 1 = .ok (.getfield 43, 3) := by decide +kernel
theorem dX0_isTrue_4 : decode cX0_isTrue 4 = .ok (.iconst 1, 1) := by decide +kernel
theorem dX0_isTrue_5 : decode cX0_isTrue 5 = .ok (.isub, 1) := by decide +kernel
theorem dX0_isTrue_6 : decode cX0_isTrue 6 = .ok (.istore 5, 2) := by decide +kernel
theorem dX0_isTrue_8 : decode cX0_isTrue 8 = .ok (.iload 5, 2) := by decide +kernel
theorem dX0_isTrue_10 : decode cX0_isTrue 10 = .ok (.ifCond .lt 47, 3) := by decide +kernel
theorem dX0_isTrue_13 : decode cX0_isTrue 13 = .ok (.iconst 0, 1) := by decide +kernel
theorem dX0_isTrue_14 : decode cX0_isTrue 14 = .ok (.istore 6, 2) := by decide +kernel
theorem dX0_isTrue_16 : decode cX0_isTrue 16 = .ok (.iload 6, 2) := by decide +kernel
theorem dX0_isTrue_18 : decode cX0_isTrue 18 = .ok (.bipush 125, 2) := by decide +kernel
theorem dX0_isTrue_20 : decode cX0_isTrue 20 = .ok (.if_icmp .ge 31, 3) := by decide +kernel
theorem dX0_isTrue_23 : decode cX0_isTrue 23 = .ok (.aload_n 0, 1) := by decide +kernel
theorem dX0_isTrue_24 : decode cX0_isTrue 24 = .ok (.getfield 39, 3) := by decide +kernel
theorem dX0_isTrue_27 : decode cX0_isTrue 27 = .ok (.iload 5, 2) := by decide +kernel
theorem dX0_isTrue_29 : decode cX0_isTrue 29 = .ok (.bipush 125, 2) := by decide +kernel
theorem dX0_isTrue_31 : decode cX0_isTrue 31 = .ok (.imul, 1) := by decide +kernel
theorem dX0_isTrue_32 : decode cX0_isTrue 32 = .ok (.iload 6, 2) := by decide +kernel
theorem dX0_isTrue_34 : decode cX0_isTrue 34 = .ok (.iadd, 1) := by decide +kernel
theorem dX0_isTrue_35 : decode cX0_isTrue 35 = .ok (.aload_n 0, 1) := by decide +kernel
theorem dX0_isTrue_36 : decode cX0_isTrue 36 = .ok (.iload 5, 2) := by decide +kernel
theorem dX0_isTrue_38 : decode cX0_isTrue 38 = .ok (.iload 6, 2) := by decide +kernel
theorem dX0_isTrue_40 : decode cX0_isTrue 40 = .ok (.iload_n 1, 1) := by decide +kernel
theorem dX0_isTrue_41 : decode cX0_isTrue 41 = .ok (.invokevirtual 85, 3) := by decide +kernel
theorem dX0_isTrue_44 : decode cX0_isTrue 44 = .ok (.bastore, 1) := by decide +kernel
theorem dX0_isTrue_45 : decode cX0_isTrue 45 = .ok (.iinc 6 1, 3) := by decide +kernel
theorem dX0_isTrue_48 : decode cX0_isTrue 48 = .ok (.goto (-32), 3) := by decide +kernel
theorem dX0_isTrue_51 : decode cX0_isTrue 51 = .ok (.iinc 5 (-1), 3) := by decide +kernel
theorem dX0_isTrue_54 : decode cX0_isTrue 54 = .ok (.goto (-46), 3) := by decide +kernel
theorem dX0_isTrue_57 : decode cX0_isTrue 57 = .ok (.aload_n 0, 1) := by decide +kernel
theorem dX0_isTrue_58 : decode cX0_isTrue 58 = .ok (.getfield 39, 3) := by decide +kernel
theorem dX0_isTrue_61 : decode cX0_isTrue 61 = .ok (.iload_n 2, 1) := by decide +kernel
theorem dX0_isTrue_62 : decode cX0_isTrue 62 = .ok (.iconst 0, 1) := by decide +kernel
theorem dX0_isTrue_63 : decode cX0_isTrue 63 = .ok (.invokestatic 89, 3) := by decide +kernel
theorem dX0_isTrue_66 : decode cX0_isTrue 66 = .ok (.imul, 1) := by decide +kernel
theorem dX0_isTrue_67 : decode cX0_isTrue 67 = .ok (.iload_n 3, 1) := by decide +kernel
theorem dX0_isTrue_68 : decode cX0_isTrue 68 = .ok (.iconst 1, 1) := by decide +kernel
theorem dX0_isTrue_69 : decode cX0_isTrue 69 = .ok (.invokestatic 89, 3) := by decide +kernel
theorem dX0_isTrue_72 : decode cX0_isTrue 72 = .ok (.imul, 1) := by decide +kernel
theorem dX0_isTrue_73 : decode cX0_isTrue 73 = .ok (.iadd, 1) := by decide +kernel
theorem dX0_isTrue_74 : decode cX0_isTrue 74 = .ok (.iload 4, 2) := by decide +kernel
theorem dX0_isTrue_76 : decode cX0_isTrue 76 = .ok (.iconst 2, 1) := by decide +kernel
theorem dX0_isTrue_77 : decode cX0_isTrue 77 = .ok (.invokestatic 89, 3) := by decide +kernel
theorem dX0_isTrue_80 : decode cX0_isTrue 80 = .ok (.imul, 1) := by decide +kernel
theorem dX0_isTrue_81 : decode cX0_isTrue 81 = .ok (.iadd, 1) := by decide +kernel
theorem dX0_isTrue_82 : decode cX0_isTrue 82 = .ok (.baload, 1) := by decide +kernel
theorem dX0_isTrue_83 : decode cX0_isTrue 83 = .ok (.ireturn, 1) := by decide +kernel
set_option maxRecDepth 20000 in
theorem ggX0_truth_X0_number : GoodIn wsX0_truth wsX0_number := goodIn_r _ [9] (by decide +kernel) (by decide +kernel)
set_option maxRecDepth 20000 in
theorem gX0_truth_X0_number : GoodIn wsX0_truth (va_wsS RX0 92 yX0_number wsX0_number) := goodIn_app (goodIn_of _ (by decide +kernel)) ggX0_truth_X0_number
set_option maxRecDepth 20000 in
theorem ggX0_truth_X0_isSomewhere : GoodIn wsX0_truth wsX0_isSomewhere := goodIn_r _ [13, 1, 5, 4, 14, 15, 8, 16, 6, 7, 9, 22, 23, 24, 25, 26, 27, 28, 29, 30, 31, 32] (by decide +kernel) (by decide +kernel)
set_option maxRecDepth 20000 in
theorem gX0_truth_X0_isSomewhere : GoodIn wsX0_truth (wsV RX0 95 RX0 yX0_isSomewhere wsX0_isSomewhere) := goodIn_app (goodIn_of _ (by decide +kernel)) ggX0_truth_X0_isSomewhere
set_option maxRecDepth 20000 in
theorem ggX0_truth_X0_truthOfOperator : GoodIn wsX0_truth wsX0_truthOfOperator := goodIn_r _ [20, 4, 5, 21, 3, 22, 23, 24, 25, 26, 27, 28, 29, 30, 31, 32] (by decide +kernel) (by decide +kernel)
set_option maxRecDepth 20000 in
theorem gX0_truth_X0_truthOfOperator : GoodIn wsX0_truth (wsV RX0 99 RX0 yX0_truthOfOperator wsX0_truthOfOperator) := goodIn_app (goodIn_of _ (by decide +kernel)) ggX0_truth_X0_truthOfOperator
theorem dX0_truth_0 : decode cX0_truth 0 = .ok (.iload_n 2, 1) := by decide +kernel
theorem dX0_truth_1 : decode cX0_truth 1 = .ok (.aload_n 0, 1) := by decide +kernel
theorem dX0_truth_2 : decode cX0_truth 2 = .ok (.getfield 17, 3) := by decide +kernel
theorem dX0_truth_5 : decode cX0_truth 5 = .ok (.iload_n 1, 1) := by decide +kernel
theorem dX0_truth_6 : decode cX0_truth 6 = .ok (.iaload, 1) := by decide +kernel
theorem dX0_truth_7 : decode cX0_truth 7 = .ok (.invokestatic 92, 3) := by decide +kernel
theorem dX0_truth_10 : decode cX0_truth 10 = .ok (.istore 4, 2) := by decide +kernel
theorem dX0_truth_12 : decode cX0_truth 12 = .ok (.iload_n 2, 1) := by decide +kernel
theorem dX0_truth_13 : decode cX0_truth 13 = .ok (.aload_n 0, 1) := by decide +kernel
theorem dX0_truth_14 : decode cX0_truth 14 = .ok (.getfield 21, 3) := by decide +kernel
theorem dX0_truth_17 : decode cX0_truth 17 = .ok (.iload_n 1, 1) := by decide +kernel
theorem dX0_truth_18 : decode cX0_truth 18 = .ok (.iaload, 1) := by decide +kernel
theorem dX0_truth_19 : decode cX0_truth 19 = .ok (.invokestatic 92, 3) := by decide +kernel
theorem dX0_truth_22 : decode cX0_truth 22 = .ok (.istore 5, 2) := by decide +kernel
theorem dX0_truth_24 : decode cX0_truth 24 = .ok (.aload_n 0, 1) := by decide +kernel
theorem dX0_truth_25 : decode cX0_truth 25 = .ok (.getfield 13, 3) := by decide +kernel
theorem dX0_truth_28 : decode cX0_truth 28 = .ok (.iload_n 1, 1) := by decide +kernel
theorem dX0_truth_29 : decode cX0_truth 29 = .ok (.caload, 1) := by decide +kernel
theorem dX0_truth_30 : decode cX0_truth 30 = .ok (.lookupswitch 171 #[(33, 92), (60, 66), (61, 79), (65, 117), (69, 134), (97, 143), (101, 161)], 66) := by decide +kernel
theorem dX0_truth_96 : decode cX0_truth 96 = .ok (.iload 4, 2) := by decide +kernel
theorem dX0_truth_98 : decode cX0_truth 98 = .ok (.iload 5, 2) := by decide +kernel
theorem dX0_truth_100 : decode cX0_truth 100 = .ok (.if_icmp .ge 7, 3) := by decide +kernel
theorem dX0_truth_103 : decode cX0_truth 103 = .ok (.iconst 1, 1) := by decide +kernel
theorem dX0_truth_104 : decode cX0_truth 104 = .ok (.goto 4, 3) := by decide +kernel
theorem dX0_truth_107 : decode cX0_truth 107 = .ok (.iconst 0, 1) := by decide +kernel
theorem dX0_truth_108 : decode cX0_truth 108 = .ok (.ireturn, 1) := by decide +kernel
theorem dX0_truth_109 : decode cX0_truth 109 = .ok (.iload 4, 2) := by decide +kernel
theorem dX0_truth_111 : decode cX0_truth 111 = .ok (.iload 5, 2) := by decide +kernel
theorem dX0_truth_113 : decode cX0_truth 113 = .ok (.if_icmp .ne 7, 3) := by decide +kernel
theorem dX0_truth_116 : decode cX0_truth 116 = .ok (.iconst 1, 1) := by decide +kernel
theorem dX0_truth_117 : decode cX0_truth 117 = .ok (.goto 4, 3) := by decide +kernel
theorem dX0_truth_120 : decode cX0_truth 120 = .ok (.iconst 0, 1) := by decide +kernel
theorem dX0_truth_121 : decode cX0_truth 121 = .ok (.ireturn, 1) := by decide +kernel
theorem dX0_truth_122 : decode cX0_truth 122 = .ok (.aload_n 0, 1) := by decide +kernel
theorem dX0_truth_123 : decode cX0_truth 123 = .ok (.getfield 39, 3) := by decide +kernel
theorem dX0_truth_126 : decode cX0_truth 126 = .ok (.aload_n 0, 1) := by decide +kernel
theorem dX0_truth_127 : decode cX0_truth 127 = .ok (.getfield 24, 3) := by decide +kernel
theorem dX0_truth_130 : decode cX0_truth 130 = .ok (.iload_n 1, 1) := by decide +kernel
theorem dX0_truth_131 : decode cX0_truth 131 = .ok (.iaload, 1) := by decide +kernel
theorem dX0_truth_132 : decode cX0_truth 132 = .ok (.bipush 125, 2) := by decide +kernel
theorem dX0_truth_134 : decode cX0_truth 134 = .ok (.imul, 1) := by decide +kernel
theorem dX0_truth_135 : decode cX0_truth 135 = .ok (.iload_n 2, 1) := by decide +kernel
theorem dX0_truth_136 : decode cX0_truth 136 = .ok (.iadd, 1) := by decide +kernel
theorem dX0_truth_137 : decode cX0_truth 137 = .ok (.baload, 1) := by decide +kernel
theorem dX0_truth_138 : decode cX0_truth 138 = .ok (.ifCond .ne 7, 3) := by decide +kernel
theorem dX0_truth_141 : decode cX0_truth 141 = .ok (.iconst 1, 1) := by decide +kernel
theorem dX0_truth_142 : decode cX0_truth 142 = .ok (.goto 4, 3) := by decide +kernel
theorem dX0_truth_145 : decode cX0_truth 145 = .ok (.iconst 0, 1) := by decide +kernel
theorem dX0_truth_146 : decode cX0_truth 146 = .ok (.ireturn, 1) := by decide +kernel
theorem dX0_truth_147 : decode cX0_truth 147 = .ok (.aload_n 0, 1) := by decide +kernel
theorem dX0_truth_148 : decode cX0_truth 148 = .ok (.iload_n 1, 1) := by decide +kernel
theorem dX0_truth_149 : decode cX0_truth 149 = .ok (.iload_n 2, 1) := by decide +kernel
theorem dX0_truth_150 : decode cX0_truth 150 = .ok (.iload_n 3, 1) := by decide +kernel
theorem dX0_truth_151 : decode cX0_truth 151 = .ok (.iconst 0, 1) := by decide +kernel
theorem dX0_truth_152 : decode cX0_truth 152 = .ok (.invokevirtual 95, 3) := by decide +kernel
theorem dX0_truth_155 : decode cX0_truth 155 = .ok (.ifCond .ne 7, 3) := by decide +kernel
theorem dX0_truth_158 : decode cX0_truth 158 = .ok (.iconst 1, 1) := by decide +kernel
theorem dX0_truth_159 : decode cX0_truth 159 = .ok (.goto 4, 3) := by decide +kernel
theorem dX0_truth_162 : decode cX0_truth 162 = .ok (.iconst 0, 1) := by decide +kernel
theorem dX0_truth_163 : decode cX0_truth 163 = .ok (.ireturn, 1) := by decide +kernel
theorem dX0_truth_164 : decode cX0_truth 164 = .ok (.aload_n 0, 1) := by decide +kernel
theorem dX0_truth_165 : decode cX0_truth 165 = .ok (.iload_n 1, 1) := by decide +kernel
theorem dX0_truth_166 : decode cX0_truth 166 = .ok (.iload_n 2, 1) := by decide +kernel
theorem dX0_truth_167 : decode cX0_truth 167 = .ok (.iload_n 3, 1) := by decide +kernel
theorem dX0_truth_168 : decode cX0_truth 168 = .ok (.iconst 1, 1) := by decide +kernel
theorem dX0_truth_169 : decode cX0_truth 169 = .ok (.invokevirtual 95, 3) := by decide +kernel
theorem dX0_truth_172 : decode cX0_truth 172 = .ok (.ireturn, 1) := by decide +kernel
theorem dX0_truth_173 : decode cX0_truth 173 = .ok (.aload_n 0, 1) := by decide +kernel
theorem dX0_truth_174 : decode cX0_truth 174 = .ok (.iload_n 1, 1) := by decide +kernel
theorem dX0_truth_175 : decode cX0_truth 175 = .ok (.iload_n 2, 1) := by decide +kernel
theorem dX0_truth_176 : decode cX0_truth 176 = .ok (.iload 5, 2) := by decide +kernel
theorem dX0_truth_178 : decode cX0_truth 178 = .ok (.iconst 0, 1) := by decide +kernel
theorem dX0_truth_179 : decode cX0_truth 179 = .ok (.invokevirtual 95, 3) := by decide +kernel
theorem dX0_truth_182 : decode cX0_truth 182 = .ok (.ifCond .ne 7, 3) := by decide +kernel
theorem dX0_truth_185 : decode cX0_truth 185 = .ok (.iconst 1, 1) := by decide +kernel
theorem dX0_truth_186 : decode cX0_truth 186 = .ok (.goto 4, 3) := by decide +kernel
theorem dX0_truth_189 : decode cX0_truth 189 = .ok (.iconst 0, 1) := by decide +kernel
theorem dX0_truth_190 : decode cX0_truth 190 = .ok (.ireturn, 1) := by decide +kernel
theorem dX0_truth_191 : decode cX0_truth 191 = .ok (.aload_n 0, 1) := by decide +kernel
theorem dX0_truth_192 : decode cX0_truth 192 = .ok (.iload_n 1, 1) := by decide +kernel
theorem dX0_truth_193 : decode cX0_truth 193 = .ok (.iload_n 2, 1) := by decide +kernel
theorem dX0_truth_194 : decode cX0_truth 194 = .ok (.iload 5, 2) := by decide +kernel
theorem dX0_truth_196 : decode cX0_truth 196 = .ok (.iconst 1, 1) := by decide +kernel
theorem dX0_truth_197 : decode cX0_truth 197 = .ok (.invokevirtual 95, 3) := by decide +kernel
theorem dX0_truth_200 : decode cX0_truth 200 = .ok (.ireturn, 1) := by decide +kernel
theorem dX0_truth_201 : decode cX0_truth 201 = .ok (.aload_n 0, 1) := by decide +kernel
theorem dX0_truth_202 : decode cX0_truth 202 = .ok (.iload_n 1, 1) := by decide +kernel
theorem dX0_truth_203 : decode cX0_truth 203 = .ok (.iload_n 2, 1) := by decide +kernel
theorem dX0_truth_204 : decode cX0_truth 204 = .ok (.invokevirtual 99, 3) := by decide +kernel
theorem dX0_truth_207 : decode cX0_truth 207 = .ok (.ireturn, 1) := by decide +kernel
theorem dX0_truthOfOperator_0 : decode cX0_truthOfOperator 0 = .ok (.aload_n 0, 1) := by decide +kernel
theorem dX0_truthOfOperator_1 : decode cX0_truthOfOperator 1 = .ok (.getfield 39, 3) := by decide +kernel
theorem dX0_truthOfOperator_4 : decode cX0_truthOfOperator 4 = .ok (.aload_n 0, 1) := by decide +kernel
theorem dX0_truthOfOperator_5 : decode cX0_truthOfOperator 5 = .ok (.getfield 24, 3) := by decide +kernel
theorem dX0_truthOfOperator_8 : decode cX0_truthOfOperator 8 = .ok (.iload_n 1, 1) := by decide +kernel
theorem dX0_truthOfOperator_9 : decode cX0_truthOfOperator 9 = .ok (.iaload, 1) := by decide +kernel
theorem dX0_truthOfOperator_10 : decode cX0_truthOfOperator 10 = .ok (.bipush 125, 2) := by decide +kernel
theorem dX0_truthOfOperator_12 : decode cX0_truthOfOperator 12 = .ok (.imul, 1) := by decide +kernel
theorem dX0_truthOfOperator_13 : decode cX0_truthOfOperator 13 = .ok (.iload_n 2, 1) := by decide +kernel
theorem dX0_truthOfOperator_14 : decode cX0_truthOfOperator 14 = .ok (.iadd, 1) := by decide +kernel
theorem dX0_truthOfOperator_15 : decode cX0_truthOfOperator 15 = .ok (.baload, 1) := by decide +kernel
theorem dX0_truthOfOperator_16 : decode cX0_truthOfOperator 16 = .ok (.istore_n 3, 1) := by decide +kernel
theorem dX0_truthOfOperator_17 : decode cX0_truthOfOperator 17 = .ok (.aload_n 0, 1) := by decide +kernel
theorem dX0_truthOfOperator_18 : decode cX0_truthOfOperator 18 = .ok (.getfield 39, 3) := by decide +kernel
theorem dX0_truthOfOperator_21 : decode cX0_truthOfOperator 21 = .ok (.aload_n 0, 1) := by decide +kernel
theorem dX0_truthOfOperator_22 : decode cX0_truthOfOperator 22 = .ok (.getfield 27, 3) := by decide +kernel
theorem dX0_truthOfOperator_25 : decode cX0_truthOfOperator 25 = .ok (.iload_n 1, 1) := by decide +kernel
theorem dX0_truthOfOperator_26 : decode cX0_truthOfOperator 26 = .ok (.iaload, 1) := by decide +kernel
theorem dX0_truthOfOperator_27 : decode cX0_truthOfOperator 27 = .ok (.bipush 125, 2) := by decide +kernel
theorem dX0_truthOfOperator_29 : decode cX0_truthOfOperator 29 = .ok (.imul, 1) := by decide +kernel
theorem dX0_truthOfOperator_30 : decode cX0_truthOfOperator 30 = .ok (.iload_n 2, 1) := by decide +kernel
theorem dX0_truthOfOperator_31 : decode cX0_truthOfOperator 31 = .ok (.iadd, 1) := by decide +kernel
theorem dX0_truthOfOperator_32 : decode cX0_truthOfOperator 32 = .ok (.baload, 1) := by decide +kernel
theorem dX0_truthOfOperator_33 : decode cX0_truthOfOperator 33 = .ok (.istore 4, 2) := by decide +kernel
theorem dX0_truthOfOperator_35 : decode cX0_truthOfOperator 35 = .ok (.aload_n 0, 1) := by decide +kernel
theorem dX0_truthOfOperator_36 : decode cX0_truthOfOperator 36 = .ok (.getfield 13, 3) := by decide +kernel
theorem dX0_truthOfOperator_39 : decode cX0_truthOfOperator 39 = .ok (.iload_n 1, 1) := by decide +kernel
theorem dX0_truthOfOperator_40 : decode cX0_truthOfOperator 40 = .ok (.caload, 1) := by decide +kernel
theorem dX0_truthOfOperator_41 : decode cX0_truthOfOperator 41 = .ok (.lookupswitch 57 #[(38, 27), (124, 42)], 27) := by decide +kernel
theorem dX0_truthOfOperator_68 : decode cX0_truthOfOperator 68 = .ok (.iload_n 3, 1) := by decide +kernel
theorem dX0_truthOfOperator_69 : decode cX0_truthOfOperator 69 = .ok (.ifCond .eq 12, 3) := by decide +kernel
theorem dX0_truthOfOperator_72 : decode cX0_truthOfOperator 72 = .ok (.iload 4, 2) := by decide +kernel
theorem dX0_truthOfOperator_74 : decode cX0_truthOfOperator 74 = .ok (.ifCond .eq 7, 3) := by decide +kernel
theorem dX0_truthOfOperator_77 : decode cX0_truthOfOperator 77 = .ok (.iconst 1, 1) := by decide +kernel
theorem dX0_truthOfOperator_78 : decode cX0_truthOfOperator 78 = .ok (.goto 4, 3) := by decide +kernel
theorem dX0_truthOfOperator_81 : decode cX0_truthOfOperator 81 = .ok (.iconst 0, 1) := by decide +kernel
theorem dX0_truthOfOperator_82 : decode cX0_truthOfOperator 82 = .ok (.ireturn, 1) := by decide +kernel
theorem dX0_truthOfOperator_83 : decode cX0_truthOfOperator 83 = .ok (.iload_n 3, 1) := by decide +kernel
theorem dX0_truthOfOperator_84 : decode cX0_truthOfOperator 84 = .ok (.ifCond .ne 8, 3) := by decide +kernel
theorem dX0_truthOfOperator_87 : decode cX0_truthOfOperator 87 = .ok (.iload 4, 2) := by decide +kernel
theorem dX0_truthOfOperator_89 : decode cX0_truthOfOperator 89 = .ok (.ifCond .eq 7, 3) := by decide +kernel
theorem dX0_truthOfOperator_92 : decode cX0_truthOfOperator 92 = .ok (.iconst 1, 1) := by decide +kernel
theorem dX0_truthOfOperator_93 : decode cX0_truthOfOperator 93 = .ok (.goto 4, 3) := by decide +kernel
theorem dX0_truthOfOperator_96 : decode cX0_truthOfOperator 96 = .ok (.iconst 0, 1) := by decide +kernel
theorem dX0_truthOfOperator_97 : decode cX0_truthOfOperator 97 = .ok (.ireturn, 1) := by decide +kernel
theorem dX0_truthOfOperator_98 : decode cX0_truthOfOperator 98 = .ok (.iload_n 3, 1) := by decide +kernel
theorem dX0_truthOfOperator_99 : decode cX0_truthOfOperator 99 = .ok (.ifCond .eq 8, 3) := by decide +kernel
theorem dX0_truthOfOperator_102 : decode cX0_truthOfOperator 102 = .ok (.iload 4, 2) := by decide +kernel
theorem dX0_truthOfOperator_104 : decode cX0_truthOfOperator 104 = .ok (.ifCond .eq 7, 3) := by decide +kernel
theorem dX0_truthOfOperator_107 : decode cX0_truthOfOperator 107 = .ok (.iconst 1, 1) := by decide +kernel
theorem dX0_truthOfOperator_108 : decode cX0_truthOfOperator 108 = .ok (.goto 4, 3) := by decide +kernel
theorem dX0_truthOfOperator_111 : decode cX0_truthOfOperator 111 = .ok (.iconst 0, 1) := by decide +kernel
theorem dX0_truthOfOperator_112 : decode cX0_truthOfOperator 112 = .ok (.ireturn, 1) := by decide +kernel
set_option maxRecDepth 20000 in
theorem ggX0_isSomewhere_X0_step : GoodIn wsX0_isSomewhere wsX0_step := goodIn_r _ [7] (by decide +kernel) (by decide +kernel)
set_option maxRecDepth 20000 in
theorem gX0_isSomewhere_X0_step : GoodIn wsX0_isSomewhere (va_wsS RX0 89 yX0_step wsX0_step) := goodIn_app (goodIn_of _ (by decide +kernel)) ggX0_isSomewhere_X0_step
set_option maxRecDepth 20000 in
theorem ggX0_isSomewhere_X0_number : GoodIn wsX0_isSomewhere wsX0_number := goodIn_r _ [10] (by decide +kernel) (by decide +kernel)
set_option maxRecDepth 20000 in
theorem gX0_isSomewhere_X0_number : GoodIn wsX0_isSomewhere (va_wsS RX0 92 yX0_number wsX0_number) := goodIn_app (goodIn_of _ (by decide +kernel)) ggX0_isSomewhere_X0_number
theorem dX0_isSomewhere_0 : decode cX0_isSomewhere 0 = .ok (.aload_n 0, 1) := by decide +kernel
theorem dX0_isSomewhere_1 : decode cX0_isSomewhere 1 = .ok (.getfield 17, 3) := by decide +kernel
theorem dX0_isSomewhere_4 : decode cX0_isSomewhere 4 = .ok (.iload_n 1, 1) := by decide +kernel
theorem dX0_isSomewhere_5 : decode cX0_isSomewhere 5 = .ok (.iaload, 1) := by decide +kernel
theorem dX0_isSomewhere_6 : decode cX0_isSomewhere 6 = .ok (.istore 5, 2) := by decide +kernel
theorem dX0_isSomewhere_8 : decode cX0_isSomewhere 8 = .ok (.iload 5, 2) := by decide +kernel
theorem dX0_isSomewhere_10 : decode cX0_isSomewhere 10 = .ok (.invokestatic 89, 3) := by decide +kernel
theorem dX0_isSomewhere_13 : decode cX0_isSomewhere 13 = .ok (.istore 6, 2) := by decide +kernel
theorem dX0_isSomewhere_15 : decode cX0_isSomewhere 15 = .ok (.aload_n 0, 1) := by decide +kernel
theorem dX0_isSomewhere_16 : decode cX0_isSomewhere 16 = .ok (.getfield 24, 3) := by decide +kernel
theorem dX0_isSomewhere_19 : decode cX0_isSomewhere 19 = .ok (.iload_n 1, 1) := by decide +kernel
theorem dX0_isSomewhere_20 : decode cX0_isSomewhere 20 = .ok (.iaload, 1) := by decide +kernel
theorem dX0_isSomewhere_21 : decode cX0_isSomewhere 21 = .ok (.bipush 125, 2) := by decide +kernel
theorem dX0_isSomewhere_23 : decode cX0_isSomewhere 23 = .ok (.imul, 1) := by decide +kernel
theorem dX0_isSomewhere_24 : decode cX0_isSomewhere 24 = .ok (.iload_n 2, 1) := by decide +kernel
theorem dX0_isSomewhere_25 : decode cX0_isSomewhere 25 = .ok (.iadd, 1) := by decide +kernel
theorem dX0_isSomewhere_26 : decode cX0_isSomewhere 26 = .ok (.iload_n 2, 1) := by decide +kernel
theorem dX0_isSomewhere_27 : decode cX0_isSomewhere 27 = .ok (.iload 5, 2) := by decide +kernel
theorem dX0_isSomewhere_29 : decode cX0_isSomewhere 29 = .ok (.invokestatic 92, 3) := by decide +kernel
theorem dX0_isSomewhere_32 : decode cX0_isSomewhere 32 = .ok (.iload 6, 2) := by decide +kernel
theorem dX0_isSomewhere_34 : decode cX0_isSomewhere 34 = .ok (.imul, 1) := by decide +kernel
theorem dX0_isSomewhere_35 : decode cX0_isSomewhere 35 = .ok (.isub, 1) := by decide +kernel
theorem dX0_isSomewhere_36 : decode cX0_isSomewhere 36 = .ok (.istore 7, 2) := by decide +kernel
theorem dX0_isSomewhere_38 : decode cX0_isSomewhere 38 = .ok (.iconst 0, 1) := by decide +kernel
theorem dX0_isSomewhere_39 : decode cX0_isSomewhere 39 = .ok (.istore 8, 2) := by decide +kernel
theorem dX0_isSomewhere_41 : decode cX0_isSomewhere 41 = .ok (.iload 8, 2) := by decide +kernel
theorem dX0_isSomewhere_43 : decode cX0_isSomewhere 43 = .ok (.iload_n 3, 1) := by decide +kernel
theorem dX0_isSomewhere_44 : decode cX0_isSomewhere 44 = .ok (.if_icmp .ge 29, 3) := by decide +kernel
theorem dX0_isSomewhere_47 : decode cX0_isSomewhere 47 = .ok (.aload_n 0, 1) := by decide +kernel
theorem dX0_isSomewhere_48 : decode cX0_isSomewhere 48 = .ok (.getfield 39, 3) := by decide +kernel
theorem dX0_isSomewhere_51 : decode cX0_isSomewhere 51 = .ok (.iload 7, 2) := by decide +kernel
theorem dX0_isSomewhere_53 : decode cX0_isSomewhere 53 = .ok (.iload 8, 2) := by decide +kernel
theorem dX0_isSomewhere_55 : decode cX0_isSomewhere 55 = .ok (.iload 6, 2) := by decide +kernel
theorem dX0_isSomewhere_57 : decode cX0_isSomewhere 57 = .ok (.imul, 1) := by decide +kernel
theorem dX0_isSomewhere_58 : decode cX0_isSomewhere 58 = .ok (.iadd, 1) := by decide +kernel
theorem dX0_isSomewhere_59 : decode cX0_isSomewhere 59 = .ok (.baload, 1) := by decide +kernel
theorem dX0_isSomewhere_60 : decode cX0_isSomewhere 60 = .ok (.iload 4, 2) := by decide +kernel
theorem dX0_isSomewhere_62 : decode cX0_isSomewhere 62 = .ok (.if_icmp .ne 5, 3) := by decide +kernel
theorem dX0_isSomewhere_65 : decode cX0_isSomewhere 65 = .ok (.iconst 1, 1) := by decide +kernel
theorem dX0_isSomewhere_66 : decode cX0_isSomewhere 66 = .ok (.ireturn, 1) := by decide +kernel
theorem dX0_isSomewhere_67 : decode cX0_isSomewhere 67 = .ok (.iinc 8 1, 3) := by decide +kernel
theorem dX0_isSomewhere_70 : decode cX0_isSomewhere 70 = .ok (.goto (-29), 3) := by decide +kernel
theorem dX0_isSomewhere_73 : decode cX0_isSomewhere 73 = .ok (.iconst 0, 1) := by decide +kernel
theorem dX0_isSomewhere_74 : decode cX0_isSomewhere 74 = .ok (.ireturn, 1) := by decide +kernel
theorem dX0_number_0 : decode cX0_number 0 = .ok (.iload_n 1, 1) := by decide +kernel
theorem dX0_number_1 : decode cX0_number 1 = .ok (.lookupswitch 37 #[(0, 27), (1, 31)], 27) := by decide +kernel
theorem dX0_number_28 : decode cX0_number 28 = .ok (.iload_n 0, 1) := by decide +kernel
theorem dX0_number_29 : decode cX0_number 29 = .ok (.iconst 5, 1) := by decide +kernel
theorem dX0_number_30 : decode cX0_number 30 = .ok (.irem, 1) := by decide +kernel
theorem dX0_number_31 : decode cX0_number 31 = .ok (.ireturn, 1) := by decide +kernel
theorem dX0_number_32 : decode cX0_number 32 = .ok (.iload_n 0, 1) := by decide +kernel
theorem dX0_number_33 : decode cX0_number 33 = .ok (.iconst 5, 1) := by decide +kernel
theorem dX0_number_34 : decode cX0_number 34 = .ok (.idiv, 1) := by decide +kernel
theorem dX0_number_35 : decode cX0_number 35 = .ok (.iconst 5, 1) := by decide +kernel
theorem dX0_number_36 : decode cX0_number 36 = .ok (.irem, 1) := by decide +kernel
theorem dX0_number_37 : decode cX0_number 37 = .ok (.ireturn, 1) := by decide +kernel
theorem dX0_number_38 : decode cX0_number 38 = .ok (.iload_n 0, 1) := by decide +kernel
theorem dX0_number_39 : decode cX0_number 39 = .ok (.bipush 25, 2) := by decide +kernel
theorem dX0_number_41 : decode cX0_number 41 = .ok (.idiv, 1) := by decide +kernel
theorem dX0_number_42 : decode cX0_number 42 = .ok (.ireturn, 1) := by decide +kernel
theorem dX0_step_0 : decode cX0_step 0 = .ok (.iload_n 0, 1) := by decide +kernel
theorem dX0_step_1 : decode cX0_step 1 = .ok (.lookupswitch 31 #[(0, 27), (1, 29)], 27) := by decide +kernel
theorem dX0_step_28 : decode cX0_step 28 = .ok (.iconst 1, 1) := by decide +kernel
theorem dX0_step_29 : decode cX0_step 29 = .ok (.ireturn, 1) := by decide +kernel
theorem dX0_step_30 : decode cX0_step 30 = .ok (.iconst 5, 1) := by decide +kernel
theorem dX0_step_31 : decode cX0_step 31 = .ok (.ireturn, 1) := by decide +kernel
theorem dX0_step_32 : decode cX0_step 32 = .ok (.bipush 25, 2) := by decide +kernel
theorem dX0_step_34 : decode cX0_step 34 = .ok (.ireturn, 1) := by decide +kernel
