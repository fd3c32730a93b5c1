theorem dX3_init_0 : decode cX3_init 0 = .ok (.aload_n 0, 1) := by decide +kernel
theorem dX3_init_1 : decode cX3_init 1 = .ok (.invokespecial 3, 3) := by decide +kernel
theorem dX3_init_4 : decode cX3_init 4 = .ok (.aload_n 0, 1) := by decide +kernel
theorem dX3_init_5 : decode cX3_init 5 = .ok (.bipush 6, 2) := by decide +kernel
theorem dX3_init_7 : decode cX3_init 7 = .ok (.newarray .int, 2) := by decide +kernel
theorem dX3_init_9 : decode cX3_init 9 = .ok (.putfield 11, 3) := by decide +kernel
theorem dX3_init_12 : decode cX3_init 12 = .ok (.aload_n 0, 1) := by decide +kernel
theorem dX3_init_13 : decode cX3_init 13 = .ok (.bipush 6, 2) := by decide +kernel
theorem dX3_init_15 : decode cX3_init 15 = .ok (.newarray .int, 2) := by decide +kernel
theorem dX3_init_17 : decode cX3_init 17 = .ok (.putfield 15, 3) := by decide +kernel
theorem dX3_init_20 : decode cX3_init 20 = .ok (.aload_n 0, 1) := by decide +kernel
theorem dX3_init_21 : decode cX3_init 21 = .ok (.bipush 6, 2) := by decide +kernel
theorem dX3_init_23 : decode cX3_init 23 = .ok (.newarray .int, 2) := by decide +kernel
theorem dX3_init_25 : decode cX3_init 25 = .ok (.putfield 18, 3) := by decide +kernel
theorem dX3_init_28 : decode cX3_init 28 = .ok (.aload_n 0, 1) := by decide +kernel
theorem dX3_init_29 : decode cX3_init 29 = .ok (.iconst 4, 1) := by decide +kernel
theorem dX3_init_30 : decode cX3_init 30 = .ok (.newarray .int, 2) := by decide +kernel
theorem dX3_init_32 : decode cX3_init 32 = .ok (.putfield 21, 3) := by decide +kernel
theorem dX3_init_35 : decode cX3_init 35 = .ok (.aload_n 0, 1) := by decide +kernel
theorem dX3_init_36 : decode cX3_init 36 = .ok (.iconst 4, 1) := by decide +kernel
theorem dX3_init_37 : decode cX3_init 37 = .ok (.newarray .int, 2) := by decide +kernel
theorem dX3_init_39 : decode cX3_init 39 = .ok (.putfield 24, 3) := by decide +kernel
theorem dX3_init_42 : decode cX3_init 42 = .ok (.aload_n 0, 1) := by decide +kernel
theorem dX3_init_43 : decode cX3_init 43 = .ok (.iconst 4, 1) := by decide +kernel
theorem dX3_init_44 : decode cX3_init 44 = .ok (.newarray .int, 2) := by decide +kernel
theorem dX3_init_46 : decode cX3_init 46 = .ok (.putfield 27, 3) := by decide +kernel
theorem dX3_init_49 : decode cX3_init 49 = .ok (.aload_n 0, 1) := by decide +kernel
theorem dX3_init_50 : decode cX3_init 50 = .ok (.iconst 0, 1) := by decide +kernel
theorem dX3_init_51 : decode cX3_init 51 = .ok (.putfield 30, 3) := by decide +kernel
theorem dX3_init_54 : decode cX3_init 54 = .ok (.return_, 1) := by decide +kernel
set_option maxRecDepth 20000 in
theorem ggX3_areInRange_X5_isBetween : GoodIn wsX3_areInRange wsX5_isBetween := goodIn_r _ [3] (by decide +kernel) (by decide +kernel)
set_option maxRecDepth 20000 in
theorem gX3_areInRange_X5_isBetween_n34 : GoodIn wsX3_areInRange (wsX5_isBetween) := ggX3_areInRange_X5_isBetween
set_option maxRecDepth 20000 in
theorem ggX3_areInRange_X3_solving : GoodIn wsX3_areInRange wsX3_solving := goodIn_r _ [7] (by decide +kernel) (by decide +kernel)
set_option maxRecDepth 20000 in
theorem gX3_areInRange_X3_solving : GoodIn wsX3_areInRange (va_wsS RX3 38 yX3_solving wsX3_solving) := goodIn_app (goodIn_of _ (by decide +kernel)) ggX3_areInRange_X3_solving
theorem dX3_areInRange_0 : decode cX3_areInRange 0 = .ok (.iconst 1, 1) := by decide +kernel
theorem dX3_areInRange_1 : decode cX3_areInRange 1 = .ok (.iload_n 0, 1) := by decide +kernel
theorem dX3_areInRange_2 : decode cX3_areInRange 2 = .ok (.iconst 4, 1) := by decide +kernel
theorem dX3_areInRange_3 : decode cX3_areInRange 3 = .ok (.invokestatic 34, 3) := by decide +kernel
theorem dX3_areInRange_6 : decode cX3_areInRange 6 = .ok (.ifCond .eq 12, 3) := by decide +kernel
theorem dX3_areInRange_9 : decode cX3_areInRange 9 = .ok (.iconst 1, 1) := by decide +kernel
theorem dX3_areInRange_10 : decode cX3_areInRange 10 = .ok (.iload_n 1, 1) := by decide +kernel
theorem dX3_areInRange_11 : decode cX3_areInRange 11 = .ok (.iconst 4, 1) := by decide +kernel
theorem dX3_areInRange_12 : decode cX3_areInRange 12 = .ok (.invokestatic 34, 3) := by decide +kernel
theorem dX3_areInRange_15 : decode cX3_areInRange 15 = .ok (.ifCond .ne 5, 3) := by decide +kernel
theorem dX3_areInRange_18 : decode cX3_areInRange 18 = .ok (.iconst 0, 1) := by decide +kernel
theorem dX3_areInRange_19 : decode cX3_areInRange 19 = .ok (.ireturn, 1) := by decide +kernel
theorem dX3_areInRange_20 : decode cX3_areInRange 20 = .ok (.iconst 0, 1) := by decide +kernel
theorem dX3_areInRange_21 : decode cX3_areInRange 21 = .ok (.istore_n 3, 1) := by decide +kernel
theorem dX3_areInRange_22 : decode cX3_areInRange 22 = .ok (.iload_n 3, 1) := by decide +kernel
theorem dX3_areInRange_23 : decode cX3_areInRange 23 = .ok (.iload_n 0, 1) := by decide +kernel
theorem dX3_areInRange_24 : decode cX3_areInRange 24 = .ok (.if_icmp .ge 30, 3) := by decide +kernel
theorem dX3_areInRange_27 : decode cX3_areInRange 27 = .ok (.iload_n 2, 1) := by decide +kernel
theorem dX3_areInRange_28 : decode cX3_areInRange 28 = .ok (.iload_n 3, 1) := by decide +kernel
theorem dX3_areInRange_29 : decode cX3_areInRange 29 = .ok (.invokestatic 38, 3) := by decide +kernel
theorem dX3_areInRange_32 : decode cX3_areInRange 32 = .ok (.istore 4, 2) := by decide +kernel
theorem dX3_areInRange_34 : decode cX3_areInRange 34 = .ok (.iload 4, 2) := by decide +kernel
theorem dX3_areInRange_36 : decode cX3_areInRange 36 = .ok (.ifCond .eq 10, 3) := by decide +kernel
theorem dX3_areInRange_39 : decode cX3_areInRange 39 = .ok (.iload 4, 2) := by decide +kernel
theorem dX3_areInRange_41 : decode cX3_areInRange 41 = .ok (.iload_n 1, 1) := by decide +kernel
theorem dX3_areInRange_42 : decode cX3_areInRange 42 = .ok (.iushr, 1) := by decide +kernel
theorem dX3_areInRange_43 : decode cX3_areInRange 43 = .ok (.ifCond .eq 5, 3) := by decide +kernel
theorem dX3_areInRange_46 : decode cX3_areInRange 46 = .ok (.iconst 0, 1) := by decide +kernel
theorem dX3_areInRange_47 : decode cX3_areInRange 47 = .ok (.ireturn, 1) := by decide +kernel
theorem dX3_areInRange_48 : decode cX3_areInRange 48 = .ok (.iinc 3 1, 3) := by decide +kernel
theorem dX3_areInRange_51 : decode cX3_areInRange 51 = .ok (.goto (-29), 3) := by decide +kernel
theorem dX3_areInRange_54 : decode cX3_areInRange 54 = .ok (.iload_n 2, 1) := by decide +kernel
theorem dX3_areInRange_55 : decode cX3_areInRange 55 = .ok (.iconst 4, 1) := by decide +kernel
theorem dX3_areInRange_56 : decode cX3_areInRange 56 = .ok (.iload_n 0, 1) := by decide +kernel
theorem dX3_areInRange_57 : decode cX3_areInRange 57 = .ok (.imul, 1) := by decide +kernel
theorem dX3_areInRange_58 : decode cX3_areInRange 58 = .ok (.iushr, 1) := by decide +kernel
theorem dX3_areInRange_59 : decode cX3_areInRange 59 = .ok (.ifCond .ne 7, 3) := by decide +kernel
theorem dX3_areInRange_62 : decode cX3_areInRange 62 = .ok (.iconst 1, 1) := by decide +kernel
theorem dX3_areInRange_63 : decode cX3_areInRange 63 = .ok (.goto 4, 3) := by decide +kernel
theorem dX3_areInRange_66 : decode cX3_areInRange 66 = .ok (.iconst 0, 1) := by decide +kernel
theorem dX3_areInRange_67 : decode cX3_areInRange 67 = .ok (.ireturn, 1) := by decide +kernel
theorem dX3_solving_0 : decode cX3_solving 0 = .ok (.iload_n 0, 1) := by decide +kernel
theorem dX3_solving_1 : decode cX3_solving 1 = .ok (.iconst 4, 1) := by decide +kernel
theorem dX3_solving_2 : decode cX3_solving 2 = .ok (.iload_n 1, 1) := by decide +kernel
theorem dX3_solving_3 : decode cX3_solving 3 = .ok (.imul, 1) := by decide +kernel
theorem dX3_solving_4 : decode cX3_solving 4 = .ok (.iushr, 1) := by decide +kernel
theorem dX3_solving_5 : decode cX3_solving 5 = .ok (.bipush 15, 2) := by decide +kernel
theorem dX3_solving_7 : decode cX3_solving 7 = .ok (.iand, 1) := by decide +kernel
theorem dX3_solving_8 : decode cX3_solving 8 = .ok (.ireturn, 1) := by decide +kernel
set_option maxRecDepth 20000 in
theorem ggX3_hasNumber_X5_isBelow : GoodIn wsX3_hasNumber wsX5_isBelow := goodIn_r _ [4] (by decide +kernel) (by decide +kernel)
set_option maxRecDepth 20000 in
theorem gX3_hasNumber_X5_isBelow_n42 : GoodIn wsX3_hasNumber (wsX5_isBelow) := ggX3_hasNumber_X5_isBelow
theorem dX3_hasNumber_0 : decode cX3_hasNumber 0 = .ok (.iload_n 1, 1) := by decide +kernel
theorem dX3_hasNumber_1 : decode cX3_hasNumber 1 = .ok (.aload_n 0, 1) := by decide +kernel
theorem dX3_hasNumber_2 : decode cX3_hasNumber 2 = .ok (.getfield 30, 3) := by decide +kernel
theorem dX3_hasNumber_5 : decode cX3_hasNumber 5 = .ok (.invokestatic 42, 3) := by decide +kernel
theorem dX3_hasNumber_8 : decode cX3_hasNumber 8 = .ok (.ireturn, 1) := by decide +kernel
set_option maxRecDepth 20000 in
theorem ggX3_hasBoth_X3_hasNumber : GoodIn wsX3_hasBoth wsX3_hasNumber := goodIn_r _ [5, 6, 7, 8, 9, 10, 11, 12, 13, 14, 15, 16] (by decide +kernel) (by decide +kernel)
set_option maxRecDepth 20000 in
theorem gX3_hasBoth_X3_hasNumber : GoodIn wsX3_hasBoth (wsV RX3 46 RX3 yX3_hasNumber wsX3_hasNumber) := goodIn_app (goodIn_of _ (by decide +kernel)) ggX3_hasBoth_X3_hasNumber
theorem dX3_hasBoth_0 : decode cX3_hasBoth 0 = .ok (.aload_n 0, 1) := by decide +kernel
theorem dX3_hasBoth_1 : decode cX3_hasBoth 1 = .ok (.iload_n 1, 1) := by decide +kernel
theorem dX3_hasBoth_2 : decode cX3_hasBoth 2 = .ok (.invokevirtual 46, 3) := by decide +kernel
theorem dX3_hasBoth_5 : decode cX3_hasBoth 5 = .ok (.ifCond .eq 15, 3) := by decide +kernel
theorem dX3_hasBoth_8 : decode cX3_hasBoth 8 = .ok (.aload_n 0, 1) := by decide +kernel
theorem dX3_hasBoth_9 : decode cX3_hasBoth 9 = .ok (.iload_n 2, 1) := by decide +kernel
theorem dX3_hasBoth_10 : decode cX3_hasBoth 10 = .ok (.invokevirtual 46, 3) := by decide +kernel
theorem dX3_hasBoth_13 : decode cX3_hasBoth 13 = .ok (.ifCond .eq 7, 3) := by decide +kernel
theorem dX3_hasBoth_16 : decode cX3_hasBoth 16 = .ok (.iconst 1, 1) := by decide +kernel
theorem dX3_hasBoth_17 : decode cX3_hasBoth 17 = .ok (.goto 4, 3) := by decide +kernel
theorem dX3_hasBoth_20 : decode cX3_hasBoth 20 = .ok (.iconst 0, 1) := by decide +kernel
theorem dX3_hasBoth_21 : decode cX3_hasBoth 21 = .ok (.ireturn, 1) := by decide +kernel
set_option maxRecDepth 20000 in
theorem ggX3_hasInstance_X5_isBelow : GoodIn wsX3_hasInstance wsX5_isBelow := goodIn_r _ [4] (by decide +kernel) (by decide +kernel)
set_option maxRecDepth 20000 in
theorem gX3_hasInstance_X5_isBelow_n42 : GoodIn wsX3_hasInstance (wsX5_isBelow) := ggX3_hasInstance_X5_isBelow
theorem dX3_hasInstance_0 : decode cX3_hasInstance 0 = .ok (.iload_n 2, 1) := by decide +kernel
theorem dX3_hasInstance_1 : decode cX3_hasInstance 1 = .ok (.aload_n 0, 1) := by decide +kernel
theorem dX3_hasInstance_2 : decode cX3_hasInstance 2 = .ok (.getfield 11, 3) := by decide +kernel
theorem dX3_hasInstance_5 : decode cX3_hasInstance 5 = .ok (.iload_n 1, 1) := by decide +kernel
theorem dX3_hasInstance_6 : decode cX3_hasInstance 6 = .ok (.iaload, 1) := by decide +kernel
theorem dX3_hasInstance_7 : decode cX3_hasInstance 7 = .ok (.invokestatic 42, 3) := by decide +kernel
theorem dX3_hasInstance_10 : decode cX3_hasInstance 10 = .ok (.ireturn, 1) := by decide +kernel
theorem dX3_hasAll_0 : decode cX3_hasAll 0 = .ok (.aload_n 0, 1) := by decide +kernel
theorem dX3_hasAll_1 : decode cX3_hasAll 1 = .ok (.getfield 30, 3) := by decide +kernel
theorem dX3_hasAll_4 : decode cX3_hasAll 4 = .ok (.bipush 6, 2) := by decide +kernel
theorem dX3_hasAll_6 : decode cX3_hasAll 6 = .ok (.if_icmp .lt 7, 3) := by decide +kernel
theorem dX3_hasAll_9 : decode cX3_hasAll 9 = .ok (.iconst 1, 1) := by decide +kernel
theorem dX3_hasAll_10 : decode cX3_hasAll 10 = .ok (.goto 4, 3) := by decide +kernel
theorem dX3_hasAll_13 : decode cX3_hasAll 13 = .ok (.iconst 0, 1) := by decide +kernel
theorem dX3_hasAll_14 : decode cX3_hasAll 14 = .ok (.ireturn, 1) := by decide +kernel
theorem dX3_add_0 : decode cX3_add 0 = .ok (.aload_n 0, 1) := by decide +kernel
theorem dX3_add_1 : decode cX3_add 1 = .ok (.getfield 30, 3) := by decide +kernel
theorem dX3_add_4 : decode cX3_add 4 = .ok (.istore 4, 2) := by decide +kernel
theorem dX3_add_6 : decode cX3_add 6 = .ok (.aload_n 0, 1) := by decide +kernel
theorem dX3_add_7 : decode cX3_add 7 = .ok (.getfield 11, 3) := by decide +kernel
theorem dX3_add_10 : decode cX3_add 10 = .ok (.iload 4, 2) := by decide +kernel
theorem dX3_add_12 : decode cX3_add 12 = .ok (.iload_n 1, 1) := by decide +kernel
theorem dX3_add_13 : decode cX3_add 13 = .ok (.iastore, 1) := by decide +kernel
theorem dX3_add_14 : decode cX3_add 14 = .ok (.aload_n 0, 1) := by decide +kernel
theorem dX3_add_15 : decode cX3_add 15 = .ok (.getfield 15, 3) := by decide +kernel
theorem dX3_add_18 : decode cX3_add 18 = .ok (.iload 4, 2) := by decide +kernel
theorem dX3_add_20 : decode cX3_add 20 = .ok (.iload_n 2, 1) := by decide +kernel
theorem dX3_add_21 : decode cX3_add 21 = .ok (.iastore, 1) := by decide +kernel
theorem dX3_add_22 : decode cX3_add 22 = .ok (.aload_n 0, 1) := by decide +kernel
theorem dX3_add_23 : decode cX3_add 23 = .ok (.getfield 18, 3) := by decide +kernel
theorem dX3_add_26 : decode cX3_add 26 = .ok (.iload 4, 2) := by decide +kernel
theorem dX3_add_28 : decode cX3_add 28 = .ok (.iload_n 3, 1) := by decide +kernel
theorem dX3_add_29 : decode cX3_add 29 = .ok (.iastore, 1) := by decide +kernel
theorem dX3_add_30 : decode cX3_add 30 = .ok (.aload_n 0, 1) := by decide +kernel
theorem dX3_add_31 : decode cX3_add 31 = .ok (.dup, 1) := by decide +kernel
theorem dX3_add_32 : decode cX3_add 32 = .ok (.getfield 30, 3) := by decide +kernel
theorem dX3_add_35 : decode cX3_add 35 = .ok (.iconst 1, 1) := by decide +kernel
theorem dX3_add_36 : decode cX3_add 36 = .ok (.iadd, 1) := by decide +kernel
theorem dX3_add_37 : decode cX3_add 37 = .ok (.putfield 30, 3) := by decide +kernel
theorem dX3_add_40 : decode cX3_add 40 = .ok (.iload 4, 2) := by decide +kernel
theorem dX3_add_42 : decode cX3_add 42 = .ok (.ireturn, 1) := by decide +kernel
theorem dX3_canMultiply_0 : decode cX3_canMultiply 0 = .ok (.aload_n 0, 1) := by decide +kernel
theorem dX3_canMultiply_1 : decode cX3_canMultiply 1 = .ok (.getfield 11, 3) := by decide +kernel
theorem dX3_canMultiply_4 : decode cX3_canMultiply 4 = .ok (.iload_n 1, 1) := by decide +kernel
theorem dX3_canMultiply_5 : decode cX3_canMultiply 5 = .ok (.iaload, 1) := by decide +kernel
theorem dX3_canMultiply_6 : decode cX3_canMultiply 6 = .ok (.aload_n 0, 1) := by decide +kernel
theorem dX3_canMultiply_7 : decode cX3_canMultiply 7 = .ok (.getfield 11, 3) := by decide +kernel
theorem dX3_canMultiply_10 : decode cX3_canMultiply 10 = .ok (.iload_n 2, 1) := by decide +kernel
theorem dX3_canMultiply_11 : decode cX3_canMultiply 11 = .ok (.iaload, 1) := by decide +kernel
theorem dX3_canMultiply_12 : decode cX3_canMultiply 12 = .ok (.imul, 1) := by decide +kernel
theorem dX3_canMultiply_13 : decode cX3_canMultiply 13 = .ok (.iconst 4, 1) := by decide +kernel
theorem dX3_canMultiply_14 : decode cX3_canMultiply 14 = .ok (.if_icmp .gt 24, 3) := by decide +kernel
theorem dX3_canMultiply_17 : decode cX3_canMultiply 17 = .ok (.aload_n 0, 1) := by decide +kernel
theorem dX3_canMultiply_18 : decode cX3_canMultiply 18 = .ok (.getfield 15, 3) := by decide +kernel
theorem dX3_canMultiply_21 : decode cX3_canMultiply 21 = .ok (.iload_n 1, 1) := by decide +kernel
theorem dX3_canMultiply_22 : decode cX3_canMultiply 22 = .ok (.iaload, 1) := by decide +kernel
theorem dX3_canMultiply_23 : decode cX3_canMultiply 23 = .ok (.aload_n 0, 1) := by decide +kernel
theorem dX3_canMultiply_24 : decode cX3_canMultiply 24 = .ok (.getfield 15, 3) := by decide +kernel
theorem dX3_canMultiply_27 : decode cX3_canMultiply 27 = .ok (.iload_n 2, 1) := by decide +kernel
theorem dX3_canMultiply_28 : decode cX3_canMultiply 28 = .ok (.iaload, 1) := by decide +kernel
theorem dX3_canMultiply_29 : decode cX3_canMultiply 29 = .ok (.imul, 1) := by decide +kernel
theorem dX3_canMultiply_30 : decode cX3_canMultiply 30 = .ok (.iconst 4, 1) := by decide +kernel
theorem dX3_canMultiply_31 : decode cX3_canMultiply 31 = .ok (.if_icmp .gt 7, 3) := by decide +kernel
theorem dX3_canMultiply_34 : decode cX3_canMultiply 34 = .ok (.iconst 1, 1) := by decide +kernel
theorem dX3_canMultiply_35 : decode cX3_canMultiply 35 = .ok (.goto 4, 3) := by decide +kernel
theorem dX3_canMultiply_38 : decode cX3_canMultiply 38 = .ok (.iconst 0, 1) := by decide +kernel
theorem dX3_canMultiply_39 : decode cX3_canMultiply 39 = .ok (.ireturn, 1) := by decide +kernel
set_option maxRecDepth 20000 in
theorem ggX3_addProduct_X3_solving : GoodIn wsX3_addProduct wsX3_solving := goodIn_r _ [7] (by decide +kernel) (by decide +kernel)
set_option maxRecDepth 20000 in
theorem gX3_addProduct_X3_solving : GoodIn wsX3_addProduct (va_wsS RX3 38 yX3_solving wsX3_solving) := goodIn_app (goodIn_of _ (by decide +kernel)) ggX3_addProduct_X3_solving
set_option maxRecDepth 20000 in
theorem ggX3_addProduct_X3_solvingBoth : GoodIn wsX3_addProduct wsX3_solvingBoth := goodIn_r _ [10] (by decide +kernel) (by decide +kernel)
set_option maxRecDepth 20000 in
theorem gX3_addProduct_X3_solvingBoth : GoodIn wsX3_addProduct (va_wsS RX3 50 yX3_solvingBoth wsX3_solvingBoth) := goodIn_app (goodIn_of _ (by decide +kernel)) ggX3_addProduct_X3_solvingBoth
set_option maxRecDepth 20000 in
theorem ggX3_addProduct_X3_add : GoodIn wsX3_addProduct wsX3_add := goodIn_r _ [14, 15, 1, 3, 2, 16, 17, 18, 19, 20, 21, 22] (by decide +kernel) (by decide +kernel)
set_option maxRecDepth 20000 in
theorem gX3_addProduct_X3_add : GoodIn wsX3_addProduct (wsV RX3 54 RX3 yX3_add wsX3_add) := goodIn_app (goodIn_of _ (by decide +kernel)) ggX3_addProduct_X3_add
theorem dX3_addProduct_0 : decode cX3_addProduct 0 = .ok (.iconst 0, 1) := by decide +kernel
theorem dX3_addProduct_1 : decode cX3_addProduct 1 = .ok (.istore_n 3, 1) := by decide +kernel
theorem dX3_addProduct_2 : decode cX3_addProduct 2 = .ok (.iconst 0, 1) := by decide +kernel
theorem dX3_addProduct_3 : decode cX3_addProduct 3 = .ok (.istore 4, 2) := by decide +kernel
theorem dX3_addProduct_5 : decode cX3_addProduct 5 = .ok (.iconst 0, 1) := by decide +kernel
theorem dX3_addProduct_6 : decode cX3_addProduct 6 = .ok (.istore 5, 2) := by decide +kernel
theorem dX3_addProduct_8 : decode cX3_addProduct 8 = .ok (.iload 5, 2) := by decide +kernel
theorem dX3_addProduct_10 : decode cX3_addProduct 10 = .ok (.aload_n 0, 1) := by decide +kernel
theorem dX3_addProduct_11 : decode cX3_addProduct 11 = .ok (.getfield 11, 3) := by decide +kernel
theorem dX3_addProduct_14 : decode cX3_addProduct 14 = .ok (.iload_n 1, 1) := by decide +kernel
theorem dX3_addProduct_15 : decode cX3_addProduct 15 = .ok (.iaload, 1) := by decide +kernel
theorem dX3_addProduct_16 : decode cX3_addProduct 16 = .ok (.if_icmp .ge 75, 3) := by decide +kernel
theorem dX3_addProduct_19 : decode cX3_addProduct 19 = .ok (.iconst 0, 1) := by decide +kernel
theorem dX3_addProduct_20 : decode cX3_addProduct 20 = .ok (.istore 6, 2) := by decide +kernel
theorem dX3_addProduct_22 : decode cX3_addProduct 22 = .ok (.iload 6, 2) := by decide +kernel
theorem dX3_addProduct_24 : decode cX3_addProduct 24 = .ok (.aload_n 0, 1) := by decide +kernel
theorem dX3_addProduct_25 : decode cX3_addProduct 25 = .ok (.getfield 11, 3) := by decide +kernel
theorem dX3_addProduct_28 : decode cX3_addProduct 28 = .ok (.iload_n 2, 1) := by decide +kernel
theorem dX3_addProduct_29 : decode cX3_addProduct 29 = .ok (.iaload, 1) := by decide +kernel
theorem dX3_addProduct_30 : decode cX3_addProduct 30 = .ok (.if_icmp .ge 55, 3) := by decide +kernel
theorem dX3_addProduct_33 : decode cX3_addProduct 33 = .ok (.aload_n 0, 1) := by decide +kernel
theorem dX3_addProduct_34 : decode cX3_addProduct 34 = .ok (.getfield 18, 3) := by decide +kernel
theorem dX3_addProduct_37 : decode cX3_addProduct 37 = .ok (.iload_n 1, 1) := by decide +kernel
theorem dX3_addProduct_38 : decode cX3_addProduct 38 = .ok (.iaload, 1) := by decide +kernel
theorem dX3_addProduct_39 : decode cX3_addProduct 39 = .ok (.iload 5, 2) := by decide +kernel
theorem dX3_addProduct_41 : decode cX3_addProduct 41 = .ok (.invokestatic 38, 3) := by decide +kernel
theorem dX3_addProduct_44 : decode cX3_addProduct 44 = .ok (.aload_n 0, 1) := by decide +kernel
theorem dX3_addProduct_45 : decode cX3_addProduct 45 = .ok (.getfield 18, 3) := by decide +kernel
theorem dX3_addProduct_48 : decode cX3_addProduct 48 = .ok (.iload_n 2, 1) := by decide +kernel
theorem dX3_addProduct_49 : decode cX3_addProduct 49 = .ok (.iaload, 1) := by decide +kernel
theorem dX3_addProduct_50 : decode cX3_addProduct 50 = .ok (.iload 6, 2) := by decide +kernel
theorem dX3_addProduct_52 : decode cX3_addProduct 52 = .ok (.invokestatic 38, 3) := by decide +kernel
theorem dX3_addProduct_55 : decode cX3_addProduct 55 = .ok (.aload_n 0, 1) := by decide +kernel
theorem dX3_addProduct_56 : decode cX3_addProduct 56 = .ok (.getfield 15, 3) := by decide +kernel
theorem dX3_addProduct_59 : decode cX3_addProduct 59 = .ok (.iload_n 2, 1) := by decide +kernel
theorem dX3_addProduct_60 : decode cX3_addProduct 60 = .ok (.iaload, 1) := by decide +kernel
theorem dX3_addProduct_61 : decode cX3_addProduct 61 = .ok (.invokestatic 50, 3) := by decide +kernel
theorem dX3_addProduct_64 : decode cX3_addProduct 64 = .ok (.istore 7, 2) := by decide +kernel
theorem dX3_addProduct_66 : decode cX3_addProduct 66 = .ok (.iload_n 3, 1) := by decide +kernel
theorem dX3_addProduct_67 : decode cX3_addProduct 67 = .ok (.iload 7, 2) := by decide +kernel
theorem dX3_addProduct_69 : decode cX3_addProduct 69 = .ok (.iconst 4, 1) := by decide +kernel
theorem dX3_addProduct_70 : decode cX3_addProduct 70 = .ok (.iload 4, 2) := by decide +kernel
theorem dX3_addProduct_72 : decode cX3_addProduct 72 = .ok (.imul, 1) := by decide +kernel
theorem dX3_addProduct_73 : decode cX3_addProduct 73 = .ok (.ishl, 1) := by decide +kernel
theorem dX3_addProduct_74 : decode cX3_addProduct 74 = .ok (.ior, 1) := by decide +kernel
theorem dX3_addProduct_75 : decode cX3_addProduct 75 = .ok (.istore_n 3, 1) := by decide +kernel
theorem dX3_addProduct_76 : decode cX3_addProduct 76 = .ok (.iinc 4 1, 3) := by decide +kernel
theorem dX3_addProduct_79 : decode cX3_addProduct 79 = .ok (.iinc 6 1, 3) := by decide +kernel
theorem dX3_addProduct_82 : decode cX3_addProduct 82 = .ok (.goto (-60), 3) := by decide +kernel
theorem dX3_addProduct_85 : decode cX3_addProduct 85 = .ok (.iinc 5 1, 3) := by decide +kernel
theorem dX3_addProduct_88 : decode cX3_addProduct 88 = .ok (.goto (-80), 3) := by decide +kernel
theorem dX3_addProduct_91 : decode cX3_addProduct 91 = .ok (.aload_n 0, 1) := by decide +kernel
theorem dX3_addProduct_92 : decode cX3_addProduct 92 = .ok (.iload 4, 2) := by decide +kernel
theorem dX3_addProduct_94 : decode cX3_addProduct 94 = .ok (.aload_n 0, 1) := by decide +kernel
theorem dX3_addProduct_95 : decode cX3_addProduct 95 = .ok (.getfield 15, 3) := by decide +kernel
theorem dX3_addProduct_98 : decode cX3_addProduct 98 = .ok (.iload_n 1, 1) := by decide +kernel
theorem dX3_addProduct_99 : decode cX3_addProduct 99 = .ok (.iaload, 1) := by decide +kernel
theorem dX3_addProduct_100 : decode cX3_addProduct 100 = .ok (.aload_n 0, 1) := by decide +kernel
theorem dX3_addProduct_101 : decode cX3_addProduct 101 = .ok (.getfield 15, 3) := by decide +kernel
theorem dX3_addProduct_104 : decode cX3_addProduct 104 = .ok (.iload_n 2, 1) := by decide +kernel
theorem dX3_addProduct_105 : decode cX3_addProduct 105 = .ok (.iaload, 1) := by decide +kernel
theorem dX3_addProduct_106 : decode cX3_addProduct 106 = .ok (.imul, 1) := by decide +kernel
theorem dX3_addProduct_107 : decode cX3_addProduct 107 = .ok (.iload_n 3, 1) := by decide +kernel
theorem dX3_addProduct_108 : decode cX3_addProduct 108 = .ok (.invokevirtual 54, 3) := by decide +kernel
theorem dX3_addProduct_111 : decode cX3_addProduct 111 = .ok (.ireturn, 1) := by decide +kernel
theorem dX3_solvingBoth_0 : decode cX3_solvingBoth 0 = .ok (.iconst 0, 1) := by decide +kernel
theorem dX3_solvingBoth_1 : decode cX3_solvingBoth 1 = .ok (.istore_n 3, 1) := by decide +kernel
theorem dX3_solvingBoth_2 : decode cX3_solvingBoth 2 = .ok (.iconst 0, 1) := by decide +kernel
theorem dX3_solvingBoth_3 : decode cX3_solvingBoth 3 = .ok (.istore 4, 2) := by decide +kernel
theorem dX3_solvingBoth_5 : decode cX3_solvingBoth 5 = .ok (.iload 4, 2) := by decide +kernel
theorem dX3_solvingBoth_7 : decode cX3_solvingBoth 7 = .ok (.iconst 4, 1) := by decide +kernel
theorem dX3_solvingBoth_8 : decode cX3_solvingBoth 8 = .ok (.if_icmp .ge 27, 3) := by decide +kernel
theorem dX3_solvingBoth_11 : decode cX3_solvingBoth 11 = .ok (.iload_n 0, 1) := by decide +kernel
theorem dX3_solvingBoth_12 : decode cX3_solvingBoth 12 = .ok (.iload 4, 2) := by decide +kernel
theorem dX3_solvingBoth_14 : decode cX3_solvingBoth 14 = .ok (.ishr, 1) := by decide +kernel
theorem dX3_solvingBoth_15 : decode cX3_solvingBoth 15 = .ok (.iconst 1, 1) := by decide +kernel
theorem dX3_solvingBoth_16 : decode cX3_solvingBoth 16 = .ok (.iand, 1) := by decide +kernel
theorem dX3_solvingBoth_17 : decode cX3_solvingBoth 17 = .ok (.ifCond .eq 12, 3) := by decide +kernel
theorem dX3_solvingBoth_20 : decode cX3_solvingBoth 20 = .ok (.iload_n 3, 1) := by decide +kernel
theorem dX3_solvingBoth_21 : decode cX3_solvingBoth 21 = .ok (.iload_n 1, 1) := by decide +kernel
theorem dX3_solvingBoth_22 : decode cX3_solvingBoth 22 = .ok (.iload 4, 2) := by decide +kernel
theorem dX3_solvingBoth_24 : decode cX3_solvingBoth 24 = .ok (.iload_n 2, 1) := by decide +kernel
theorem dX3_solvingBoth_25 : decode cX3_solvingBoth 25 = .ok (.imul, 1) := by decide +kernel
theorem dX3_solvingBoth_26 : decode cX3_solvingBoth 26 = .ok (.ishl, 1) := by decide +kernel
theorem dX3_solvingBoth_27 : decode cX3_solvingBoth 27 = .ok (.ior, 1) := by decide +kernel
theorem dX3_solvingBoth_28 : decode cX3_solvingBoth 28 = .ok (.istore_n 3, 1) := by decide +kernel
theorem dX3_solvingBoth_29 : decode cX3_solvingBoth 29 = .ok (.iinc 4 1, 3) := by decide +kernel
theorem dX3_solvingBoth_32 : decode cX3_solvingBoth 32 = .ok (.goto (-27), 3) := by decide +kernel
theorem dX3_solvingBoth_35 : decode cX3_solvingBoth 35 = .ok (.iload_n 3, 1) := by decide +kernel
theorem dX3_solvingBoth_36 : decode cX3_solvingBoth 36 = .ok (.ireturn, 1) := by decide +kernel
set_option maxRecDepth 20000 in
theorem ggX3_lowestCode_X3_clear : GoodIn wsX3_lowestCode wsX3_clear := goodIn_r _ [6] (by decide +kernel) (by decide +kernel)
set_option maxRecDepth 20000 in
theorem gX3_lowestCode_X3_clear : GoodIn wsX3_lowestCode (va_wsS RX3 57 yX3_clear wsX3_clear) := goodIn_app (goodIn_of _ (by decide +kernel)) ggX3_lowestCode_X3_clear
set_option maxRecDepth 20000 in
theorem ggX3_lowestCode_X3_power : GoodIn wsX3_lowestCode wsX3_power := goodIn_r _ [9] (by decide +kernel) (by decide +kernel)
set_option maxRecDepth 20000 in
theorem gX3_lowestCode_X3_power : GoodIn wsX3_lowestCode (va_wsS RX3 61 yX3_power wsX3_power) := goodIn_app (goodIn_of _ (by decide +kernel)) ggX3_lowestCode_X3_power
set_option maxRecDepth 20000 in
theorem ggX3_lowestCode_X3_give : GoodIn wsX3_lowestCode wsX3_give := goodIn_r _ [13, 14, 15, 2, 1, 16, 17, 18, 5, 19, 44, 45, 46, 47, 48, 49, 50] (by decide +kernel) (by decide +kernel)
set_option maxRecDepth 20000 in
theorem gX3_lowestCode_X3_give : GoodIn wsX3_lowestCode (wsV RX3 64 RX3 yX3_give wsX3_give) := goodIn_app (goodIn_of _ (by decide +kernel)) ggX3_lowestCode_X3_give
set_option maxRecDepth 20000 in
theorem ggX3_lowestCode_X3_someForthDoes : GoodIn wsX3_lowestCode wsX3_someForthDoes := goodIn_r _ [23, 24, 14, 3, 4, 5, 6, 7, 8, 9, 25, 26, 27, 28, 29, 30, 31, 32, 16, 15, 17, 18, 19, 33, 34, 35, 44, 45, 46, 47, 48, 49, 50] (by decide +kernel) (by decide +kernel)
set_option maxRecDepth 20000 in
theorem gX3_lowestCode_X3_someForthDoes : GoodIn wsX3_lowestCode (wsV RX3 68 RX3 yX3_someForthDoes wsX3_someForthDoes) := goodIn_app (goodIn_of _ (by decide +kernel)) ggX3_lowestCode_X3_someForthDoes
set_option maxRecDepth 20000 in
theorem ggX3_lowestCode_X3_hasForth : GoodIn wsX3_lowestCode wsX3_hasForth := goodIn_r _ [39, 14, 40, 41, 42, 5, 43, 29, 30, 31, 32, 16, 15, 17, 18, 19, 44, 45, 46, 47, 48, 49, 50] (by decide +kernel) (by decide +kernel)
set_option maxRecDepth 20000 in
theorem gX3_lowestCode_X3_hasForth : GoodIn wsX3_lowestCode (wsV RX3 71 RX3 yX3_hasForth wsX3_hasForth) := goodIn_app (goodIn_of _ (by decide +kernel)) ggX3_lowestCode_X3_hasForth
set_option maxRecDepth 20000 in
theorem ggX3_lowestCode_X3_advance : GoodIn wsX3_lowestCode wsX3_advance := goodIn_r _ [35] (by decide +kernel) (by decide +kernel)
set_option maxRecDepth 20000 in
theorem gX3_lowestCode_X3_advance : GoodIn wsX3_lowestCode (va_wsS RX3 74 yX3_advance wsX3_advance) := goodIn_app (goodIn_of _ (by decide +kernel)) ggX3_lowestCode_X3_advance
theorem dX3_lowestCode_0 : decode cX3_lowestCode 0 = .ok (.aload_n 0, 1) := by decide +kernel
theorem dX3_lowestCode_1 : decode cX3_lowestCode 1 = .ok (.getfield 21, 3) := by decide +kernel
theorem dX3_lowestCode_4 : decode cX3_lowestCode 4 = .ok (.invokestatic 57, 3) := by decide +kernel
theorem dX3_lowestCode_7 : decode cX3_lowestCode 7 = .ok (.aload_n 0, 1) := by decide +kernel
theorem dX3_lowestCode_8 : decode cX3_lowestCode 8 = .ok (.getfield 15, 3) := by decide +kernel
theorem dX3_lowestCode_11 : decode cX3_lowestCode 11 = .ok (.iload_n 1, 1) := by decide +kernel
theorem dX3_lowestCode_12 : decode cX3_lowestCode 12 = .ok (.iaload, 1) := by decide +kernel
theorem dX3_lowestCode_13 : decode cX3_lowestCode 13 = .ok (.aload_n 0, 1) := by decide +kernel
theorem dX3_lowestCode_14 : decode cX3_lowestCode 14 = .ok (.getfield 15, 3) := by decide +kernel
theorem dX3_lowestCode_17 : decode cX3_lowestCode 17 = .ok (.iload_n 2, 1) := by decide +kernel
theorem dX3_lowestCode_18 : decode cX3_lowestCode 18 = .ok (.iaload, 1) := by decide +kernel
theorem dX3_lowestCode_19 : decode cX3_lowestCode 19 = .ok (.invokestatic 61, 3) := by decide +kernel
theorem dX3_lowestCode_22 : decode cX3_lowestCode 22 = .ok (.istore 4, 2) := by decide +kernel
theorem dX3_lowestCode_24 : decode cX3_lowestCode 24 = .ok (.iconst 0, 1) := by decide +kernel
theorem dX3_lowestCode_25 : decode cX3_lowestCode 25 = .ok (.istore 5, 2) := by decide +kernel
theorem dX3_lowestCode_27 : decode cX3_lowestCode 27 = .ok (.iload 5, 2) := by decide +kernel
theorem dX3_lowestCode_29 : decode cX3_lowestCode 29 = .ok (.iload 4, 2) := by decide +kernel
theorem dX3_lowestCode_31 : decode cX3_lowestCode 31 = .ok (.if_icmp .ge 61, 3) := by decide +kernel
theorem dX3_lowestCode_34 : decode cX3_lowestCode 34 = .ok (.aload_n 0, 1) := by decide +kernel
theorem dX3_lowestCode_35 : decode cX3_lowestCode 35 = .ok (.iload_n 2, 1) := by decide +kernel
theorem dX3_lowestCode_36 : decode cX3_lowestCode 36 = .ok (.invokevirtual 64, 3) := by decide +kernel
theorem dX3_lowestCode_39 : decode cX3_lowestCode 39 = .ok (.iload_n 3, 1) := by decide +kernel
theorem dX3_lowestCode_40 : decode cX3_lowestCode 40 = .ok (.ifCond .eq 15, 3) := by decide +kernel
theorem dX3_lowestCode_43 : decode cX3_lowestCode 43 = .ok (.aload_n 0, 1) := by decide +kernel
theorem dX3_lowestCode_44 : decode cX3_lowestCode 44 = .ok (.iload_n 1, 1) := by decide +kernel
theorem dX3_lowestCode_45 : decode cX3_lowestCode 45 = .ok (.iload_n 2, 1) := by decide +kernel
theorem dX3_lowestCode_46 : decode cX3_lowestCode 46 = .ok (.invokevirtual 68, 3) := by decide +kernel
theorem dX3_lowestCode_49 : decode cX3_lowestCode 49 = .ok (.ifCond .eq 18, 3) := by decide +kernel
theorem dX3_lowestCode_52 : decode cX3_lowestCode 52 = .ok (.goto 12, 3) := by decide +kernel
theorem dX3_lowestCode_55 : decode cX3_lowestCode 55 = .ok (.aload_n 0, 1) := by decide +kernel
theorem dX3_lowestCode_56 : decode cX3_lowestCode 56 = .ok (.iload_n 1, 1) := by decide +kernel
theorem dX3_lowestCode_57 : decode cX3_lowestCode 57 = .ok (.iload_n 2, 1) := by decide +kernel
theorem dX3_lowestCode_58 : decode cX3_lowestCode 58 = .ok (.invokevirtual 71, 3) := by decide +kernel
theorem dX3_lowestCode_61 : decode cX3_lowestCode 61 = .ok (.ifCond .eq 6, 3) := by decide +kernel
theorem dX3_lowestCode_64 : decode cX3_lowestCode 64 = .ok (.iload 5, 2) := by decide +kernel
theorem dX3_lowestCode_66 : decode cX3_lowestCode 66 = .ok (.ireturn, 1) := by decide +kernel
theorem dX3_lowestCode_67 : decode cX3_lowestCode 67 = .ok (.aload_n 0, 1) := by decide +kernel
theorem dX3_lowestCode_68 : decode cX3_lowestCode 68 = .ok (.getfield 21, 3) := by decide +kernel
theorem dX3_lowestCode_71 : decode cX3_lowestCode 71 = .ok (.aload_n 0, 1) := by decide +kernel
theorem dX3_lowestCode_72 : decode cX3_lowestCode 72 = .ok (.getfield 15, 3) := by decide +kernel
theorem dX3_lowestCode_75 : decode cX3_lowestCode 75 = .ok (.iload_n 2, 1) := by decide +kernel
theorem dX3_lowestCode_76 : decode cX3_lowestCode 76 = .ok (.iaload, 1) := by decide +kernel
theorem dX3_lowestCode_77 : decode cX3_lowestCode 77 = .ok (.aload_n 0, 1) := by decide +kernel
theorem dX3_lowestCode_78 : decode cX3_lowestCode 78 = .ok (.getfield 15, 3) := by decide +kernel
theorem dX3_lowestCode_81 : decode cX3_lowestCode 81 = .ok (.iload_n 1, 1) := by decide +kernel
theorem dX3_lowestCode_82 : decode cX3_lowestCode 82 = .ok (.iaload, 1) := by decide +kernel
theorem dX3_lowestCode_83 : decode cX3_lowestCode 83 = .ok (.invokestatic 74, 3) := by decide +kernel
theorem dX3_lowestCode_86 : decode cX3_lowestCode 86 = .ok (.iinc 5 1, 3) := by decide +kernel
theorem dX3_lowestCode_89 : decode cX3_lowestCode 89 = .ok (.goto (-62), 3) := by decide +kernel
theorem dX3_lowestCode_92 : decode cX3_lowestCode 92 = .ok (.iconst (-1), 1) := by decide +kernel
theorem dX3_lowestCode_93 : decode cX3_lowestCode 93 = .ok (.ireturn, 1) := by decide +kernel
set_option maxRecDepth 20000 in
theorem ggX3_forthOf_X3_lowestCode : GoodIn wsX3_forthOf wsX3_lowestCode := goodIn_r _ [5, 6, 7, 8, 9, 4, 10, 11, 12, 13, 14, 15, 16, 17, 18, 19, 20, 21, 22, 23, 24, 25, 26, 27, 28, 29, 30, 31, 32, 33, 34, 35, 36, 37, 38, 39, 40, 41, 42, 43, 44, 45, 46, 47, 48, 49, 50, 51, 52, 53, 54] (by decide +kernel) (by decide +kernel)
set_option maxRecDepth 20000 in
theorem gX3_forthOf_X3_lowestCode : GoodIn wsX3_forthOf (wsV RX3 78 RX3 yX3_lowestCode wsX3_lowestCode) := goodIn_app (goodIn_of _ (by decide +kernel)) ggX3_forthOf_X3_lowestCode
set_option maxRecDepth 20000 in
theorem ggX3_forthOf_X3_lowestForth : GoodIn wsX3_forthOf wsX3_lowestForth := goodIn_r _ [47, 18, 33, 34, 35, 4, 36, 20, 19, 21, 22, 23, 48, 49, 50, 51, 52, 53, 54] (by decide +kernel) (by decide +kernel)
set_option maxRecDepth 20000 in
theorem gX3_forthOf_X3_lowestForth : GoodIn wsX3_forthOf (wsV RX3 82 RX3 yX3_lowestForth wsX3_lowestForth) := goodIn_app (goodIn_of _ (by decide +kernel)) ggX3_forthOf_X3_lowestForth
theorem dX3_forthOf_0 : decode cX3_forthOf 0 = .ok (.aload_n 0, 1) := by decide +kernel
theorem dX3_forthOf_1 : decode cX3_forthOf 1 = .ok (.iload_n 1, 1) := by decide +kernel
theorem dX3_forthOf_2 : decode cX3_forthOf 2 = .ok (.iload_n 2, 1) := by decide +kernel
theorem dX3_forthOf_3 : decode cX3_forthOf 3 = .ok (.iconst 0, 1) := by decide +kernel
theorem dX3_forthOf_4 : decode cX3_forthOf 4 = .ok (.invokevirtual 78, 3) := by decide +kernel
theorem dX3_forthOf_7 : decode cX3_forthOf 7 = .ok (.iconst (-1), 1) := by decide +kernel
theorem dX3_forthOf_8 : decode cX3_forthOf 8 = .ok (.if_icmp .ne 5, 3) := by decide +kernel
theorem dX3_forthOf_11 : decode cX3_forthOf 11 = .ok (.iconst (-1), 1) := by decide +kernel
theorem dX3_forthOf_12 : decode cX3_forthOf 12 = .ok (.ireturn, 1) := by decide +kernel
theorem dX3_forthOf_13 : decode cX3_forthOf 13 = .ok (.aload_n 0, 1) := by decide +kernel
theorem dX3_forthOf_14 : decode cX3_forthOf 14 = .ok (.iload_n 1, 1) := by decide +kernel
theorem dX3_forthOf_15 : decode cX3_forthOf 15 = .ok (.iload_n 2, 1) := by decide +kernel
theorem dX3_forthOf_16 : decode cX3_forthOf 16 = .ok (.iload_n 3, 1) := by decide +kernel
theorem dX3_forthOf_17 : decode cX3_forthOf 17 = .ok (.invokevirtual 82, 3) := by decide +kernel
theorem dX3_forthOf_20 : decode cX3_forthOf 20 = .ok (.ireturn, 1) := by decide +kernel
set_option maxRecDepth 20000 in
theorem ggX3_hasForth_X3_lowestForth : GoodIn wsX3_hasForth wsX3_lowestForth := goodIn_r _ [6, 1, 7, 8, 9, 5, 10, 11, 12, 13, 14, 15, 16, 17, 18, 19, 20, 21, 22] (by decide +kernel) (by decide +kernel)
set_option maxRecDepth 20000 in
theorem gX3_hasForth_X3_lowestForth : GoodIn wsX3_hasForth (wsV RX3 82 RX3 yX3_lowestForth wsX3_lowestForth) := goodIn_app (goodIn_of _ (by decide +kernel)) ggX3_hasForth_X3_lowestForth
theorem dX3_hasForth_0 : decode cX3_hasForth 0 = .ok (.iconst 0, 1) := by decide +kernel
theorem dX3_hasForth_1 : decode cX3_hasForth 1 = .ok (.istore_n 3, 1) := by decide +kernel
theorem dX3_hasForth_2 : decode cX3_hasForth 2 = .ok (.iload_n 3, 1) := by decide +kernel
theorem dX3_hasForth_3 : decode cX3_hasForth 3 = .ok (.aload_n 0, 1) := by decide +kernel
theorem dX3_hasForth_4 : decode cX3_hasForth 4 = .ok (.getfield 11, 3) := by decide +kernel
theorem dX3_hasForth_7 : decode cX3_hasForth 7 = .ok (.iload_n 1, 1) := by decide +kernel
theorem dX3_hasForth_8 : decode cX3_hasForth 8 = .ok (.iaload, 1) := by decide +kernel
theorem dX3_hasForth_9 : decode cX3_hasForth 9 = .ok (.if_icmp .ge 22, 3) := by decide +kernel
theorem dX3_hasForth_12 : decode cX3_hasForth 12 = .ok (.aload_n 0, 1) := by decide +kernel
theorem dX3_hasForth_13 : decode cX3_hasForth 13 = .ok (.iload_n 1, 1) := by decide +kernel
theorem dX3_hasForth_14 : decode cX3_hasForth 14 = .ok (.iload_n 2, 1) := by decide +kernel
theorem dX3_hasForth_15 : decode cX3_hasForth 15 = .ok (.iload_n 3, 1) := by decide +kernel
theorem dX3_hasForth_16 : decode cX3_hasForth 16 = .ok (.invokevirtual 82, 3) := by decide +kernel
theorem dX3_hasForth_19 : decode cX3_hasForth 19 = .ok (.iconst (-1), 1) := by decide +kernel
theorem dX3_hasForth_20 : decode cX3_hasForth 20 = .ok (.if_icmp .ne 5, 3) := by decide +kernel
theorem dX3_hasForth_23 : decode cX3_hasForth 23 = .ok (.iconst 0, 1) := by decide +kernel
theorem dX3_hasForth_24 : decode cX3_hasForth 24 = .ok (.ireturn, 1) := by decide +kernel
theorem dX3_hasForth_25 : decode cX3_hasForth 25 = .ok (.iinc 3 1, 3) := by decide +kernel
theorem dX3_hasForth_28 : decode cX3_hasForth 28 = .ok (.goto (-26), 3) := by decide +kernel
theorem dX3_hasForth_31 : decode cX3_hasForth 31 = .ok (.iconst 1, 1) := by decide +kernel
theorem dX3_hasForth_32 : decode cX3_hasForth 32 = .ok (.ireturn, 1) := by decide +kernel
set_option maxRecDepth 20000 in
theorem ggX3_lowestForth_X3_isSolvedBack : GoodIn wsX3_lowestForth wsX3_isSolvedBack := goodIn_r _ [6, 7, 8, 9, 10, 5, 11, 12, 13, 14, 15, 16, 17, 18] (by decide +kernel) (by decide +kernel)
set_option maxRecDepth 20000 in
theorem gX3_lowestForth_X3_isSolvedBack : GoodIn wsX3_lowestForth (wsV RX3 85 RX3 yX3_isSolvedBack wsX3_isSolvedBack) := goodIn_app (goodIn_of _ (by decide +kernel)) ggX3_lowestForth_X3_isSolvedBack
theorem dX3_lowestForth_0 : decode cX3_lowestForth 0 = .ok (.iconst 0, 1) := by decide +kernel
theorem dX3_lowestForth_1 : decode cX3_lowestForth 1 = .ok (.istore 4, 2) := by decide +kernel
theorem dX3_lowestForth_3 : decode cX3_lowestForth 3 = .ok (.iload 4, 2) := by decide +kernel
theorem dX3_lowestForth_5 : decode cX3_lowestForth 5 = .ok (.aload_n 0, 1) := by decide +kernel
theorem dX3_lowestForth_6 : decode cX3_lowestForth 6 = .ok (.getfield 11, 3) := by decide +kernel
theorem dX3_lowestForth_9 : decode cX3_lowestForth 9 = .ok (.iload_n 2, 1) := by decide +kernel
theorem dX3_lowestForth_10 : decode cX3_lowestForth 10 = .ok (.iaload, 1) := by decide +kernel
theorem dX3_lowestForth_11 : decode cX3_lowestForth 11 = .ok (.if_icmp .ge 23, 3) := by decide +kernel
theorem dX3_lowestForth_14 : decode cX3_lowestForth 14 = .ok (.aload_n 0, 1) := by decide +kernel
theorem dX3_lowestForth_15 : decode cX3_lowestForth 15 = .ok (.iload_n 1, 1) := by decide +kernel
theorem dX3_lowestForth_16 : decode cX3_lowestForth 16 = .ok (.iload_n 3, 1) := by decide +kernel
theorem dX3_lowestForth_17 : decode cX3_lowestForth 17 = .ok (.iload 4, 2) := by decide +kernel
theorem dX3_lowestForth_19 : decode cX3_lowestForth 19 = .ok (.invokevirtual 85, 3) := by decide +kernel
theorem dX3_lowestForth_22 : decode cX3_lowestForth 22 = .ok (.ifCond .eq 6, 3) := by decide +kernel
theorem dX3_lowestForth_25 : decode cX3_lowestForth 25 = .ok (.iload 4, 2) := by decide +kernel
theorem dX3_lowestForth_27 : decode cX3_lowestForth 27 = .ok (.ireturn, 1) := by decide +kernel
theorem dX3_lowestForth_28 : decode cX3_lowestForth 28 = .ok (.iinc 4 1, 3) := by decide +kernel
theorem dX3_lowestForth_31 : decode cX3_lowestForth 31 = .ok (.goto (-28), 3) := by decide +kernel
theorem dX3_lowestForth_34 : decode cX3_lowestForth 34 = .ok (.iconst (-1), 1) := by decide +kernel
theorem dX3_lowestForth_35 : decode cX3_lowestForth 35 = .ok (.ireturn, 1) := by decide +kernel
set_option maxRecDepth 20000 in
theorem ggX3_someForthDoes_X3_clear : GoodIn wsX3_someForthDoes wsX3_clear := goodIn_r _ [6] (by decide +kernel) (by decide +kernel)
set_option maxRecDepth 20000 in
theorem gX3_someForthDoes_X3_clear : GoodIn wsX3_someForthDoes (va_wsS RX3 57 yX3_clear wsX3_clear) := goodIn_app (goodIn_of _ (by decide +kernel)) ggX3_someForthDoes_X3_clear
set_option maxRecDepth 20000 in
theorem ggX3_someForthDoes_X3_power : GoodIn wsX3_someForthDoes wsX3_power := goodIn_r _ [9] (by decide +kernel) (by decide +kernel)
set_option maxRecDepth 20000 in
theorem gX3_someForthDoes_X3_power : GoodIn wsX3_someForthDoes (va_wsS RX3 61 yX3_power wsX3_power) := goodIn_app (goodIn_of _ (by decide +kernel)) ggX3_someForthDoes_X3_power
set_option maxRecDepth 20000 in
theorem ggX3_someForthDoes_X3_forthDoes : GoodIn wsX3_someForthDoes wsX3_forthDoes := goodIn_r _ [13, 2, 1, 14, 15, 16, 5, 17, 18, 19, 20, 21, 22, 26, 27, 28, 29, 30, 31, 32] (by decide +kernel) (by decide +kernel)
set_option maxRecDepth 20000 in
theorem gX3_someForthDoes_X3_forthDoes : GoodIn wsX3_someForthDoes (wsV RX3 88 RX3 yX3_forthDoes wsX3_forthDoes) := goodIn_app (goodIn_of _ (by decide +kernel)) ggX3_someForthDoes_X3_forthDoes
set_option maxRecDepth 20000 in
theorem ggX3_someForthDoes_X3_advance : GoodIn wsX3_someForthDoes wsX3_advance := goodIn_r _ [25] (by decide +kernel) (by decide +kernel)
set_option maxRecDepth 20000 in
theorem gX3_someForthDoes_X3_advance : GoodIn wsX3_someForthDoes (va_wsS RX3 74 yX3_advance wsX3_advance) := goodIn_app (goodIn_of _ (by decide +kernel)) ggX3_someForthDoes_X3_advance
theorem dX3_someForthDoes_0 : decode cX3_someForthDoes 0 = .ok (.aload_n 0, 1) := by decide +kernel
theorem dX3_someForthDoes_1 : decode cX3_someForthDoes 1 = .ok (.getfield 24, 3) := by decide +kernel
theorem dX3_someForthDoes_4 : decode cX3_someForthDoes 4 = .ok (.invokestatic 57, 3) := by decide +kernel
theorem dX3_someForthDoes_7 : decode cX3_someForthDoes 7 = .ok (.aload_n 0, 1) := by decide +kernel
theorem dX3_someForthDoes_8 : decode cX3_someForthDoes 8 = .ok (.getfield 11, 3) := by decide +kernel
theorem dX3_someForthDoes_11 : decode cX3_someForthDoes 11 = .ok (.iload_n 2, 1) := by decide +kernel
theorem dX3_someForthDoes_12 : decode cX3_someForthDoes 12 = .ok (.iaload, 1) := by decide +kernel
theorem dX3_someForthDoes_13 : decode cX3_someForthDoes 13 = .ok (.aload_n 0, 1) := by decide +kernel
theorem dX3_someForthDoes_14 : decode cX3_someForthDoes 14 = .ok (.getfield 11, 3) := by decide +kernel
theorem dX3_someForthDoes_17 : decode cX3_someForthDoes 17 = .ok (.iload_n 1, 1) := by decide +kernel
theorem dX3_someForthDoes_18 : decode cX3_someForthDoes 18 = .ok (.iaload, 1) := by decide +kernel
theorem dX3_someForthDoes_19 : decode cX3_someForthDoes 19 = .ok (.invokestatic 61, 3) := by decide +kernel
theorem dX3_someForthDoes_22 : decode cX3_someForthDoes 22 = .ok (.istore_n 3, 1) := by decide +kernel
theorem dX3_someForthDoes_23 : decode cX3_someForthDoes 23 = .ok (.iconst 0, 1) := by decide +kernel
theorem dX3_someForthDoes_24 : decode cX3_someForthDoes 24 = .ok (.istore 4, 2) := by decide +kernel
theorem dX3_someForthDoes_26 : decode cX3_someForthDoes 26 = .ok (.iload 4, 2) := by decide +kernel
theorem dX3_someForthDoes_28 : decode cX3_someForthDoes 28 = .ok (.iload_n 3, 1) := by decide +kernel
theorem dX3_someForthDoes_29 : decode cX3_someForthDoes 29 = .ok (.if_icmp .ge 38, 3) := by decide +kernel
theorem dX3_someForthDoes_32 : decode cX3_someForthDoes 32 = .ok (.aload_n 0, 1) := by decide +kernel
theorem dX3_someForthDoes_33 : decode cX3_someForthDoes 33 = .ok (.iload_n 1, 1) := by decide +kernel
theorem dX3_someForthDoes_34 : decode cX3_someForthDoes 34 = .ok (.invokevirtual 88, 3) := by decide +kernel
theorem dX3_someForthDoes_37 : decode cX3_someForthDoes 37 = .ok (.ifCond .eq 5, 3) := by decide +kernel
theorem dX3_someForthDoes_40 : decode cX3_someForthDoes 40 = .ok (.iconst 1, 1) := by decide +kernel
theorem dX3_someForthDoes_41 : decode cX3_someForthDoes 41 = .ok (.ireturn, 1) := by decide +kernel
theorem dX3_someForthDoes_42 : decode cX3_someForthDoes 42 = .ok (.aload_n 0, 1) := by decide +kernel
theorem dX3_someForthDoes_43 : decode cX3_someForthDoes 43 = .ok (.getfield 24, 3) := by decide +kernel
theorem dX3_someForthDoes_46 : decode cX3_someForthDoes 46 = .ok (.aload_n 0, 1) := by decide +kernel
theorem dX3_someForthDoes_47 : decode cX3_someForthDoes 47 = .ok (.getfield 11, 3) := by decide +kernel
theorem dX3_someForthDoes_50 : decode cX3_someForthDoes 50 = .ok (.iload_n 1, 1) := by decide +kernel
theorem dX3_someForthDoes_51 : decode cX3_someForthDoes 51 = .ok (.iaload, 1) := by decide +kernel
theorem dX3_someForthDoes_52 : decode cX3_someForthDoes 52 = .ok (.aload_n 0, 1) := by decide +kernel
theorem dX3_someForthDoes_53 : decode cX3_someForthDoes 53 = .ok (.getfield 11, 3) := by decide +kernel
theorem dX3_someForthDoes_56 : decode cX3_someForthDoes 56 = .ok (.iload_n 2, 1) := by decide +kernel
theorem dX3_someForthDoes_57 : decode cX3_someForthDoes 57 = .ok (.iaload, 1) := by decide +kernel
theorem dX3_someForthDoes_58 : decode cX3_someForthDoes 58 = .ok (.invokestatic 74, 3) := by decide +kernel
theorem dX3_someForthDoes_61 : decode cX3_someForthDoes 61 = .ok (.iinc 4 1, 3) := by decide +kernel
theorem dX3_someForthDoes_64 : decode cX3_someForthDoes 64 = .ok (.goto (-38), 3) := by decide +kernel
theorem dX3_someForthDoes_67 : decode cX3_someForthDoes 67 = .ok (.iconst 0, 1) := by decide +kernel
theorem dX3_someForthDoes_68 : decode cX3_someForthDoes 68 = .ok (.ireturn, 1) := by decide +kernel
set_option maxRecDepth 20000 in
theorem ggX3_forthDoes_X3_isSolvedBack : GoodIn wsX3_forthDoes wsX3_isSolvedBack := goodIn_r _ [7, 8, 9, 10, 11, 6, 12, 13, 14, 15, 16, 17, 18, 19] (by decide +kernel) (by decide +kernel)
set_option maxRecDepth 20000 in
theorem gX3_forthDoes_X3_isSolvedBack : GoodIn wsX3_forthDoes (wsV RX3 85 RX3 yX3_isSolvedBack wsX3_isSolvedBack) := goodIn_app (goodIn_of _ (by decide +kernel)) ggX3_forthDoes_X3_isSolvedBack
theorem dX3_forthDoes_0 : decode cX3_forthDoes 0 = .ok (.iconst 0, 1) := by decide +kernel
theorem dX3_forthDoes_1 : decode cX3_forthDoes 1 = .ok (.istore_n 2, 1) := by decide +kernel
theorem dX3_forthDoes_2 : decode cX3_forthDoes 2 = .ok (.iload_n 2, 1) := by decide +kernel
theorem dX3_forthDoes_3 : decode cX3_forthDoes 3 = .ok (.aload_n 0, 1) := by decide +kernel
theorem dX3_forthDoes_4 : decode cX3_forthDoes 4 = .ok (.getfield 11, 3) := by decide +kernel
theorem dX3_forthDoes_7 : decode cX3_forthDoes 7 = .ok (.iload_n 1, 1) := by decide +kernel
theorem dX3_forthDoes_8 : decode cX3_forthDoes 8 = .ok (.iaload, 1) := by decide +kernel
theorem dX3_forthDoes_9 : decode cX3_forthDoes 9 = .ok (.if_icmp .ge 26, 3) := by decide +kernel
theorem dX3_forthDoes_12 : decode cX3_forthDoes 12 = .ok (.aload_n 0, 1) := by decide +kernel
theorem dX3_forthDoes_13 : decode cX3_forthDoes 13 = .ok (.iload_n 1, 1) := by decide +kernel
theorem dX3_forthDoes_14 : decode cX3_forthDoes 14 = .ok (.iload_n 2, 1) := by decide +kernel
theorem dX3_forthDoes_15 : decode cX3_forthDoes 15 = .ok (.aload_n 0, 1) := by decide +kernel
theorem dX3_forthDoes_16 : decode cX3_forthDoes 16 = .ok (.getfield 24, 3) := by decide +kernel
theorem dX3_forthDoes_19 : decode cX3_forthDoes 19 = .ok (.iload_n 2, 1) := by decide +kernel
theorem dX3_forthDoes_20 : decode cX3_forthDoes 20 = .ok (.iaload, 1) := by decide +kernel
theorem dX3_forthDoes_21 : decode cX3_forthDoes 21 = .ok (.invokevirtual 85, 3) := by decide +kernel
theorem dX3_forthDoes_24 : decode cX3_forthDoes 24 = .ok (.ifCond .ne 5, 3) := by decide +kernel
theorem dX3_forthDoes_27 : decode cX3_forthDoes 27 = .ok (.iconst 0, 1) := by decide +kernel
theorem dX3_forthDoes_28 : decode cX3_forthDoes 28 = .ok (.ireturn, 1) := by decide +kernel
theorem dX3_forthDoes_29 : decode cX3_forthDoes 29 = .ok (.iinc 2 1, 3) := by decide +kernel
theorem dX3_forthDoes_32 : decode cX3_forthDoes 32 = .ok (.goto (-30), 3) := by decide +kernel
theorem dX3_forthDoes_35 : decode cX3_forthDoes 35 = .ok (.iconst 1, 1) := by decide +kernel
theorem dX3_forthDoes_36 : decode cX3_forthDoes 36 = .ok (.ireturn, 1) := by decide +kernel
set_option maxRecDepth 20000 in
theorem ggX3_isSolvedBack_X3_solving : GoodIn wsX3_isSolvedBack wsX3_solving := goodIn_r _ [6] (by decide +kernel) (by decide +kernel)
set_option maxRecDepth 20000 in
theorem gX3_isSolvedBack_X3_solving : GoodIn wsX3_isSolvedBack (va_wsS RX3 38 yX3_solving wsX3_solving) := goodIn_app (goodIn_of _ (by decide +kernel)) ggX3_isSolvedBack_X3_solving
theorem dX3_isSolvedBack_0 : decode cX3_isSolvedBack 0 = .ok (.aload_n 0, 1) := by decide +kernel
theorem dX3_isSolvedBack_1 : decode cX3_isSolvedBack 1 = .ok (.getfield 27, 3) := by decide +kernel
theorem dX3_isSolvedBack_4 : decode cX3_isSolvedBack 4 = .ok (.iload_n 3, 1) := by decide +kernel
theorem dX3_isSolvedBack_5 : decode cX3_isSolvedBack 5 = .ok (.iaload, 1) := by decide +kernel
theorem dX3_isSolvedBack_6 : decode cX3_isSolvedBack 6 = .ok (.aload_n 0, 1) := by decide +kernel
theorem dX3_isSolvedBack_7 : decode cX3_isSolvedBack 7 = .ok (.getfield 18, 3) := by decide +kernel
theorem dX3_isSolvedBack_10 : decode cX3_isSolvedBack 10 = .ok (.iload_n 1, 1) := by decide +kernel
theorem dX3_isSolvedBack_11 : decode cX3_isSolvedBack 11 = .ok (.iaload, 1) := by decide +kernel
theorem dX3_isSolvedBack_12 : decode cX3_isSolvedBack 12 = .ok (.iload_n 2, 1) := by decide +kernel
theorem dX3_isSolvedBack_13 : decode cX3_isSolvedBack 13 = .ok (.invokestatic 38, 3) := by decide +kernel
theorem dX3_isSolvedBack_16 : decode cX3_isSolvedBack 16 = .ok (.iconst (-1), 1) := by decide +kernel
theorem dX3_isSolvedBack_17 : decode cX3_isSolvedBack 17 = .ok (.ixor, 1) := by decide +kernel
theorem dX3_isSolvedBack_18 : decode cX3_isSolvedBack 18 = .ok (.iand, 1) := by decide +kernel
theorem dX3_isSolvedBack_19 : decode cX3_isSolvedBack 19 = .ok (.ifCond .ne 7, 3) := by decide +kernel
theorem dX3_isSolvedBack_22 : decode cX3_isSolvedBack 22 = .ok (.iconst 1, 1) := by decide +kernel
theorem dX3_isSolvedBack_23 : decode cX3_isSolvedBack 23 = .ok (.goto 4, 3) := by decide +kernel
theorem dX3_isSolvedBack_26 : decode cX3_isSolvedBack 26 = .ok (.iconst 0, 1) := by decide +kernel
theorem dX3_isSolvedBack_27 : decode cX3_isSolvedBack 27 = .ok (.ireturn, 1) := by decide +kernel
set_option maxRecDepth 20000 in
theorem ggX3_give_X3_solving : GoodIn wsX3_give wsX3_solving := goodIn_r _ [9] (by decide +kernel) (by decide +kernel)
set_option maxRecDepth 20000 in
theorem gX3_give_X3_solving : GoodIn wsX3_give (va_wsS RX3 38 yX3_solving wsX3_solving) := goodIn_app (goodIn_of _ (by decide +kernel)) ggX3_give_X3_solving
theorem dX3_give_0 : decode cX3_give 0 = .ok (.iconst 0, 1) := by decide +kernel
theorem dX3_give_1 : decode cX3_give 1 = .ok (.istore_n 2, 1) := by decide +kernel
theorem dX3_give_2 : decode cX3_give 2 = .ok (.iload_n 2, 1) := by decide +kernel
theorem dX3_give_3 : decode cX3_give 3 = .ok (.aload_n 0, 1) := by decide +kernel
theorem dX3_give_4 : decode cX3_give 4 = .ok (.getfield 11, 3) := by decide +kernel
theorem dX3_give_7 : decode cX3_give 7 = .ok (.iload_n 1, 1) := by decide +kernel
theorem dX3_give_8 : decode cX3_give 8 = .ok (.iaload, 1) := by decide +kernel
theorem dX3_give_9 : decode cX3_give 9 = .ok (.if_icmp .ge 74, 3) := by decide +kernel
theorem dX3_give_12 : decode cX3_give 12 = .ok (.aload_n 0, 1) := by decide +kernel
theorem dX3_give_13 : decode cX3_give 13 = .ok (.getfield 18, 3) := by decide +kernel
theorem dX3_give_16 : decode cX3_give 16 = .ok (.iload_n 1, 1) := by decide +kernel
theorem dX3_give_17 : decode cX3_give 17 = .ok (.iaload, 1) := by decide +kernel
theorem dX3_give_18 : decode cX3_give 18 = .ok (.iload_n 2, 1) := by decide +kernel
theorem dX3_give_19 : decode cX3_give 19 = .ok (.invokestatic 38, 3) := by decide +kernel
theorem dX3_give_22 : decode cX3_give 22 = .ok (.istore_n 3, 1) := by decide +kernel
theorem dX3_give_23 : decode cX3_give 23 = .ok (.iconst 0, 1) := by decide +kernel
theorem dX3_give_24 : decode cX3_give 24 = .ok (.istore 4, 2) := by decide +kernel
theorem dX3_give_26 : decode cX3_give 26 = .ok (.iconst 0, 1) := by decide +kernel
theorem dX3_give_27 : decode cX3_give 27 = .ok (.istore 5, 2) := by decide +kernel
theorem dX3_give_29 : decode cX3_give 29 = .ok (.iload 5, 2) := by decide +kernel
theorem dX3_give_31 : decode cX3_give 31 = .ok (.aload_n 0, 1) := by decide +kernel
theorem dX3_give_32 : decode cX3_give 32 = .ok (.getfield 15, 3) := by decide +kernel
theorem dX3_give_35 : decode cX3_give 35 = .ok (.iload_n 1, 1) := by decide +kernel
theorem dX3_give_36 : decode cX3_give 36 = .ok (.iaload, 1) := by decide +kernel
theorem dX3_give_37 : decode cX3_give 37 = .ok (.if_icmp .ge 32, 3) := by decide +kernel
theorem dX3_give_40 : decode cX3_give 40 = .ok (.iload_n 3, 1) := by decide +kernel
theorem dX3_give_41 : decode cX3_give 41 = .ok (.iload 5, 2) := by decide +kernel
theorem dX3_give_43 : decode cX3_give 43 = .ok (.ishr, 1) := by decide +kernel
theorem dX3_give_44 : decode cX3_give 44 = .ok (.iconst 1, 1) := by decide +kernel
theorem dX3_give_45 : decode cX3_give 45 = .ok (.iand, 1) := by decide +kernel
theorem dX3_give_46 : decode cX3_give 46 = .ok (.ifCond .eq 17, 3) := by decide +kernel
theorem dX3_give_49 : decode cX3_give 49 = .ok (.iload 4, 2) := by decide +kernel
theorem dX3_give_51 : decode cX3_give 51 = .ok (.iconst 1, 1) := by decide +kernel
theorem dX3_give_52 : decode cX3_give 52 = .ok (.aload_n 0, 1) := by decide +kernel
theorem dX3_give_53 : decode cX3_give 53 = .ok (.getfield 21, 3) := by decide +kernel
theorem dX3_give_56 : decode cX3_give 56 = .ok (.iload 5, 2) := by decide +kernel
theorem dX3_give_58 : decode cX3_give 58 = .ok (.iaload, 1) := by decide +kernel
theorem dX3_give_59 : decode cX3_give 59 = .ok (.ishl, 1) := by decide +kernel
theorem dX3_give_60 : decode cX3_give 60 = .ok (.ior, 1) := by decide +kernel
theorem dX3_give_61 : decode cX3_give 61 = .ok (.istore 4, 2) := by decide +kernel
theorem dX3_give_63 : decode cX3_give 63 = .ok (.iinc 5 1, 3) := by decide +kernel
theorem dX3_give_66 : decode cX3_give 66 = .ok (.goto (-37), 3) := by decide +kernel
theorem dX3_give_69 : decode cX3_give 69 = .ok (.aload_n 0, 1) := by decide +kernel
theorem dX3_give_70 : decode cX3_give 70 = .ok (.getfield 27, 3) := by decide +kernel
theorem dX3_give_73 : decode cX3_give 73 = .ok (.iload_n 2, 1) := by decide +kernel
theorem dX3_give_74 : decode cX3_give 74 = .ok (.iload 4, 2) := by decide +kernel
theorem dX3_give_76 : decode cX3_give 76 = .ok (.iastore, 1) := by decide +kernel
theorem dX3_give_77 : decode cX3_give 77 = .ok (.iinc 2 1, 3) := by decide +kernel
theorem dX3_give_80 : decode cX3_give 80 = .ok (.goto (-78), 3) := by decide +kernel
theorem dX3_give_83 : decode cX3_give 83 = .ok (.return_, 1) := by decide +kernel
theorem dX3_clear_0 : decode cX3_clear 0 = .ok (.iconst 0, 1) := by decide +kernel
theorem dX3_clear_1 : decode cX3_clear 1 = .ok (.istore_n 1, 1) := by decide +kernel
theorem dX3_clear_2 : decode cX3_clear 2 = .ok (.iload_n 1, 1) := by decide +kernel
theorem dX3_clear_3 : decode cX3_clear 3 = .ok (.iconst 4, 1) := by decide +kernel
theorem dX3_clear_4 : decode cX3_clear 4 = .ok (.if_icmp .ge 13, 3) := by decide +kernel
theorem dX3_clear_7 : decode cX3_clear 7 = .ok (.aload_n 0, 1) := by decide +kernel
theorem dX3_clear_8 : decode cX3_clear 8 = .ok (.iload_n 1, 1) := by decide +kernel
theorem dX3_clear_9 : decode cX3_clear 9 = .ok (.iconst 0, 1) := by decide +kernel
theorem dX3_clear_10 : decode cX3_clear 10 = .ok (.iastore, 1) := by decide +kernel
theorem dX3_clear_11 : decode cX3_clear 11 = .ok (.iinc 1 1, 3) := by decide +kernel
theorem dX3_clear_14 : decode cX3_clear 14 = .ok (.goto (-12), 3) := by decide +kernel
theorem dX3_clear_17 : decode cX3_clear 17 = .ok (.return_, 1) := by decide +kernel
theorem dX3_advance_0 : decode cX3_advance 0 = .ok (.iconst 0, 1) := by decide +kernel
theorem dX3_advance_1 : decode cX3_advance 1 = .ok (.istore_n 3, 1) := by decide +kernel
theorem dX3_advance_2 : decode cX3_advance 2 = .ok (.iload_n 3, 1) := by decide +kernel
theorem dX3_advance_3 : decode cX3_advance 3 = .ok (.iload_n 1, 1) := by decide +kernel
theorem dX3_advance_4 : decode cX3_advance 4 = .ok (.if_icmp .ge 28, 3) := by decide +kernel
theorem dX3_advance_7 : decode cX3_advance 7 = .ok (.aload_n 0, 1) := by decide +kernel
theorem dX3_advance_8 : decode cX3_advance 8 = .ok (.iload_n 3, 1) := by decide +kernel
theorem dX3_advance_9 : decode cX3_advance 9 = .ok (.dup2, 1) := by decide +kernel
theorem dX3_advance_10 : decode cX3_advance 10 = .ok (.iaload, 1) := by decide +kernel
theorem dX3_advance_11 : decode cX3_advance 11 = .ok (.iconst 1, 1) := by decide +kernel
theorem dX3_advance_12 : decode cX3_advance 12 = .ok (.iadd, 1) := by decide +kernel
theorem dX3_advance_13 : decode cX3_advance 13 = .ok (.iastore, 1) := by decide +kernel
theorem dX3_advance_14 : decode cX3_advance 14 = .ok (.aload_n 0, 1) := by decide +kernel
theorem dX3_advance_15 : decode cX3_advance 15 = .ok (.iload_n 3, 1) := by decide +kernel
theorem dX3_advance_16 : decode cX3_advance 16 = .ok (.iaload, 1) := by decide +kernel
theorem dX3_advance_17 : decode cX3_advance 17 = .ok (.iload_n 2, 1) := by decide +kernel
theorem dX3_advance_18 : decode cX3_advance 18 = .ok (.if_icmp .ge 4, 3) := by decide +kernel
theorem dX3_advance_21 : decode cX3_advance 21 = .ok (.return_, 1) := by decide +kernel
theorem dX3_advance_22 : decode cX3_advance 22 = .ok (.aload_n 0, 1) := by decide +kernel
theorem dX3_advance_23 : decode cX3_advance 23 = .ok (.iload_n 3, 1) := by decide +kernel
theorem dX3_advance_24 : decode cX3_advance 24 = .ok (.iconst 0, 1) := by decide +kernel
theorem dX3_advance_25 : decode cX3_advance 25 = .ok (.iastore, 1) := by decide +kernel
theorem dX3_advance_26 : decode cX3_advance 26 = .ok (.iinc 3 1, 3) := by decide +kernel
theorem dX3_advance_29 : decode cX3_advance 29 = .ok (.goto (-27), 3) := by decide +kernel
theorem dX3_advance_32 : decode cX3_advance 32 = .ok (.return_, 1) := by decide +kernel
theorem dX3_power_0 : decode cX3_power 0 = .ok (.iconst 1, 1) := by decide +kernel
theorem dX3_power_1 : decode cX3_power 1 = .ok (.istore_n 2, 1) := by decide +kernel
theorem dX3_power_2 : decode cX3_power 2 = .ok (.iconst 0, 1) := by decide +kernel
theorem dX3_power_3 : decode cX3_power 3 = .ok (.istore_n 3, 1) := by decide +kernel
theorem dX3_power_4 : decode cX3_power 4 = .ok (.iload_n 3, 1) := by decide +kernel
theorem dX3_power_5 : decode cX3_power 5 = .ok (.iload_n 1, 1) := by decide +kernel
theorem dX3_power_6 : decode cX3_power 6 = .ok (.if_icmp .ge 13, 3) := by decide +kernel
theorem dX3_power_9 : decode cX3_power 9 = .ok (.iload_n 2, 1) := by decide +kernel
theorem dX3_power_10 : decode cX3_power 10 = .ok (.iload_n 0, 1) := by decide +kernel
theorem dX3_power_11 : decode cX3_power 11 = .ok (.imul, 1) := by decide +kernel
theorem dX3_power_12 : decode cX3_power 12 = .ok (.istore_n 2, 1) := by decide +kernel
theorem dX3_power_13 : decode cX3_power 13 = .ok (.iinc 3 1, 3) := by decide +kernel
theorem dX3_power_16 : decode cX3_power 16 = .ok (.goto (-12), 3) := by decide +kernel
theorem dX3_power_19 : decode cX3_power 19 = .ok (.iload_n 2, 1) := by decide +kernel
theorem dX3_power_20 : decode cX3_power 20 = .ok (.ireturn, 1) := by decide +kernel
theorem dX3_tell_0 : decode cX3_tell 0 = .ok (.iload_n 2, 1) := by decide +kernel
theorem dX3_tell_1 : decode cX3_tell 1 = .ok (.lookupswitch 41 #[(0, 27), (1, 34)], 27) := by decide +kernel
theorem dX3_tell_28 : decode cX3_tell 28 = .ok (.aload_n 0, 1) := by decide +kernel
theorem dX3_tell_29 : decode cX3_tell 29 = .ok (.getfield 11, 3) := by decide +kernel
theorem dX3_tell_32 : decode cX3_tell 32 = .ok (.iload_n 1, 1) := by decide +kernel
theorem dX3_tell_33 : decode cX3_tell 33 = .ok (.iaload, 1) := by decide +kernel
theorem dX3_tell_34 : decode cX3_tell 34 = .ok (.ireturn, 1) := by decide +kernel
theorem dX3_tell_35 : decode cX3_tell 35 = .ok (.aload_n 0, 1) := by decide +kernel
theorem dX3_tell_36 : decode cX3_tell 36 = .ok (.getfield 15, 3) := by decide +kernel
theorem dX3_tell_39 : decode cX3_tell 39 = .ok (.iload_n 1, 1) := by decide +kernel
theorem dX3_tell_40 : decode cX3_tell 40 = .ok (.iaload, 1) := by decide +kernel
theorem dX3_tell_41 : decode cX3_tell 41 = .ok (.ireturn, 1) := by decide +kernel
theorem dX3_tell_42 : decode cX3_tell 42 = .ok (.aload_n 0, 1) := by decide +kernel
theorem dX3_tell_43 : decode cX3_tell 43 = .ok (.getfield 18, 3) := by decide +kernel
theorem dX3_tell_46 : decode cX3_tell 46 = .ok (.iload_n 1, 1) := by decide +kernel
theorem dX3_tell_47 : decode cX3_tell 47 = .ok (.iaload, 1) := by decide +kernel
theorem dX3_tell_48 : decode cX3_tell 48 = .ok (.ireturn, 1) := by decide +kernel
