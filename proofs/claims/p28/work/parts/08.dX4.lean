theorem dX4_init_0 : decode cX4_init 0 = .ok (.aload_n 0, 1) := by decide +kernel
theorem dX4_init_1 : decode cX4_init 1 = .ok (.invokespecial 3, 3) := by decide +kernel
theorem dX4_init_4 : decode cX4_init 4 = .ok (.aload_n 0, 1) := by decide +kernel
theorem dX4_init_5 : decode cX4_init 5 = .ok (.bipush 10, 2) := by decide +kernel
theorem dX4_init_7 : decode cX4_init 7 = .ok (.newarray .int, 2) := by decide +kernel
theorem dX4_init_9 : decode cX4_init 9 = .ok (.putfield 11, 3) := by decide +kernel
theorem dX4_init_12 : decode cX4_init 12 = .ok (.aload_n 0, 1) := by decide +kernel
theorem dX4_init_13 : decode cX4_init 13 = .ok (.bipush 10, 2) := by decide +kernel
theorem dX4_init_15 : decode cX4_init 15 = .ok (.newarray .int, 2) := by decide +kernel
theorem dX4_init_17 : decode cX4_init 17 = .ok (.putfield 15, 3) := by decide +kernel
theorem dX4_init_20 : decode cX4_init 20 = .ok (.aload_n 0, 1) := by decide +kernel
theorem dX4_init_21 : decode cX4_init 21 = .ok (.bipush 30, 2) := by decide +kernel
theorem dX4_init_23 : decode cX4_init 23 = .ok (.newarray .int, 2) := by decide +kernel
theorem dX4_init_25 : decode cX4_init 25 = .ok (.putfield 18, 3) := by decide +kernel
theorem dX4_init_28 : decode cX4_init 28 = .ok (.aload_n 0, 1) := by decide +kernel
theorem dX4_init_29 : decode cX4_init 29 = .ok (.bipush 30, 2) := by decide +kernel
theorem dX4_init_31 : decode cX4_init 31 = .ok (.newarray .int, 2) := by decide +kernel
theorem dX4_init_33 : decode cX4_init 33 = .ok (.putfield 21, 3) := by decide +kernel
theorem dX4_init_36 : decode cX4_init 36 = .ok (.aload_n 0, 1) := by decide +kernel
theorem dX4_init_37 : decode cX4_init 37 = .ok (.bipush 10, 2) := by decide +kernel
theorem dX4_init_39 : decode cX4_init 39 = .ok (.newarray .int, 2) := by decide +kernel
theorem dX4_init_41 : decode cX4_init 41 = .ok (.putfield 24, 3) := by decide +kernel
theorem dX4_init_44 : decode cX4_init 44 = .ok (.aload_n 0, 1) := by decide +kernel
theorem dX4_init_45 : decode cX4_init 45 = .ok (.bipush 10, 2) := by decide +kernel
theorem dX4_init_47 : decode cX4_init 47 = .ok (.newarray .int, 2) := by decide +kernel
theorem dX4_init_49 : decode cX4_init 49 = .ok (.putfield 27, 3) := by decide +kernel
theorem dX4_init_52 : decode cX4_init 52 = .ok (.aload_n 0, 1) := by decide +kernel
theorem dX4_init_53 : decode cX4_init 53 = .ok (.iconst 0, 1) := by decide +kernel
theorem dX4_init_54 : decode cX4_init 54 = .ok (.putfield 30, 3) := by decide +kernel
theorem dX4_init_57 : decode cX4_init 57 = .ok (.aload_n 0, 1) := by decide +kernel
theorem dX4_init_58 : decode cX4_init 58 = .ok (.iconst 0, 1) := by decide +kernel
theorem dX4_init_59 : decode cX4_init 59 = .ok (.putfield 34, 3) := by decide +kernel
theorem dX4_init_62 : decode cX4_init 62 = .ok (.aload_n 0, 1) := by decide +kernel
theorem dX4_init_63 : decode cX4_init 63 = .ok (.iconst 0, 1) := by decide +kernel
theorem dX4_init_64 : decode cX4_init 64 = .ok (.putfield 37, 3) := by decide +kernel
theorem dX4_init_67 : decode cX4_init 67 = .ok (.return_, 1) := by decide +kernel
theorem dX4_contains_0 : decode cX4_contains 0 = .ok (.iload_n 0, 1) := by decide +kernel
theorem dX4_contains_1 : decode cX4_contains 1 = .ok (.iload_n 1, 1) := by decide +kernel
theorem dX4_contains_2 : decode cX4_contains 2 = .ok (.ishr, 1) := by decide +kernel
theorem dX4_contains_3 : decode cX4_contains 3 = .ok (.iconst 1, 1) := by decide +kernel
theorem dX4_contains_4 : decode cX4_contains 4 = .ok (.iand, 1) := by decide +kernel
theorem dX4_contains_5 : decode cX4_contains 5 = .ok (.ifCond .eq 7, 3) := by decide +kernel
theorem dX4_contains_8 : decode cX4_contains 8 = .ok (.iconst 1, 1) := by decide +kernel
theorem dX4_contains_9 : decode cX4_contains 9 = .ok (.goto 4, 3) := by decide +kernel
theorem dX4_contains_12 : decode cX4_contains 12 = .ok (.iconst 0, 1) := by decide +kernel
theorem dX4_contains_13 : decode cX4_contains 13 = .ok (.ireturn, 1) := by decide +kernel
theorem dX4_includes_0 : decode cX4_includes 0 = .ok (.iload_n 1, 1) := by decide +kernel
theorem dX4_includes_1 : decode cX4_includes 1 = .ok (.iload_n 0, 1) := by decide +kernel
theorem dX4_includes_2 : decode cX4_includes 2 = .ok (.iconst (-1), 1) := by decide +kernel
theorem dX4_includes_3 : decode cX4_includes 3 = .ok (.ixor, 1) := by decide +kernel
theorem dX4_includes_4 : decode cX4_includes 4 = .ok (.iand, 1) := by decide +kernel
theorem dX4_includes_5 : decode cX4_includes 5 = .ok (.ifCond .ne 7, 3) := by decide +kernel
theorem dX4_includes_8 : decode cX4_includes 8 = .ok (.iconst 1, 1) := by decide +kernel
theorem dX4_includes_9 : decode cX4_includes 9 = .ok (.goto 4, 3) := by decide +kernel
theorem dX4_includes_12 : decode cX4_includes 12 = .ok (.iconst 0, 1) := by decide +kernel
theorem dX4_includes_13 : decode cX4_includes 13 = .ok (.ireturn, 1) := by decide +kernel
set_option maxRecDepth 20000 in
theorem ggX4_hasPrinciple_X5_isBelow : GoodIn wsX4_hasPrinciple wsX5_isBelow := goodIn_r _ [4] (by decide +kernel) (by decide +kernel)
set_option maxRecDepth 20000 in
theorem gX4_hasPrinciple_X5_isBelow_n40 : GoodIn wsX4_hasPrinciple (wsX5_isBelow) := ggX4_hasPrinciple_X5_isBelow
theorem dX4_hasPrinciple_0 : decode cX4_hasPrinciple 0 = .ok (.iload_n 1, 1) := by decide +kernel
theorem dX4_hasPrinciple_1 : decode cX4_hasPrinciple 1 = .ok (.aload_n 0, 1) := by decide +kernel
theorem dX4_hasPrinciple_2 : decode cX4_hasPrinciple 2 = .ok (.getfield 30, 3) := by decide +kernel
theorem dX4_hasPrinciple_5 : decode cX4_hasPrinciple 5 = .ok (.invokestatic 40, 3) := by decide +kernel
theorem dX4_hasPrinciple_8 : decode cX4_hasPrinciple 8 = .ok (.ireturn, 1) := by decide +kernel
theorem dX4_isSet_0 : decode cX4_isSet 0 = .ok (.iload_n 1, 1) := by decide +kernel
theorem dX4_isSet_1 : decode cX4_isSet 1 = .ok (.aload_n 0, 1) := by decide +kernel
theorem dX4_isSet_2 : decode cX4_isSet 2 = .ok (.getfield 30, 3) := by decide +kernel
theorem dX4_isSet_5 : decode cX4_isSet 5 = .ok (.iushr, 1) := by decide +kernel
theorem dX4_isSet_6 : decode cX4_isSet 6 = .ok (.ifCond .ne 7, 3) := by decide +kernel
theorem dX4_isSet_9 : decode cX4_isSet 9 = .ok (.iconst 1, 1) := by decide +kernel
theorem dX4_isSet_10 : decode cX4_isSet 10 = .ok (.goto 4, 3) := by decide +kernel
theorem dX4_isSet_13 : decode cX4_isSet 13 = .ok (.iconst 0, 1) := by decide +kernel
theorem dX4_isSet_14 : decode cX4_isSet 14 = .ok (.ireturn, 1) := by decide +kernel
theorem dX4_hasAllPrinciples_0 : decode cX4_hasAllPrinciples 0 = .ok (.aload_n 0, 1) := by decide +kernel
theorem dX4_hasAllPrinciples_1 : decode cX4_hasAllPrinciples 1 = .ok (.getfield 30, 3) := by decide +kernel
theorem dX4_hasAllPrinciples_4 : decode cX4_hasAllPrinciples 4 = .ok (.bipush 10, 2) := by decide +kernel
theorem dX4_hasAllPrinciples_6 : decode cX4_hasAllPrinciples 6 = .ok (.if_icmp .lt 7, 3) := by decide +kernel
theorem dX4_hasAllPrinciples_9 : decode cX4_hasAllPrinciples 9 = .ok (.iconst 1, 1) := by decide +kernel
theorem dX4_hasAllPrinciples_10 : decode cX4_hasAllPrinciples 10 = .ok (.goto 4, 3) := by decide +kernel
theorem dX4_hasAllPrinciples_13 : decode cX4_hasAllPrinciples 13 = .ok (.iconst 0, 1) := by decide +kernel
theorem dX4_hasAllPrinciples_14 : decode cX4_hasAllPrinciples 14 = .ok (.ireturn, 1) := by decide +kernel
theorem dX4_hasAllRules_0 : decode cX4_hasAllRules 0 = .ok (.aload_n 0, 1) := by decide +kernel
theorem dX4_hasAllRules_1 : decode cX4_hasAllRules 1 = .ok (.getfield 34, 3) := by decide +kernel
theorem dX4_hasAllRules_4 : decode cX4_hasAllRules 4 = .ok (.bipush 30, 2) := by decide +kernel
theorem dX4_hasAllRules_6 : decode cX4_hasAllRules 6 = .ok (.if_icmp .lt 7, 3) := by decide +kernel
theorem dX4_hasAllRules_9 : decode cX4_hasAllRules 9 = .ok (.iconst 1, 1) := by decide +kernel
theorem dX4_hasAllRules_10 : decode cX4_hasAllRules 10 = .ok (.goto 4, 3) := by decide +kernel
theorem dX4_hasAllRules_13 : decode cX4_hasAllRules 13 = .ok (.iconst 0, 1) := by decide +kernel
theorem dX4_hasAllRules_14 : decode cX4_hasAllRules 14 = .ok (.ireturn, 1) := by decide +kernel
theorem dX4_hasAllModels_0 : decode cX4_hasAllModels 0 = .ok (.aload_n 0, 1) := by decide +kernel
theorem dX4_hasAllModels_1 : decode cX4_hasAllModels 1 = .ok (.getfield 37, 3) := by decide +kernel
theorem dX4_hasAllModels_4 : decode cX4_hasAllModels 4 = .ok (.bipush 10, 2) := by decide +kernel
theorem dX4_hasAllModels_6 : decode cX4_hasAllModels 6 = .ok (.if_icmp .lt 7, 3) := by decide +kernel
theorem dX4_hasAllModels_9 : decode cX4_hasAllModels 9 = .ok (.iconst 1, 1) := by decide +kernel
theorem dX4_hasAllModels_10 : decode cX4_hasAllModels 10 = .ok (.goto 4, 3) := by decide +kernel
theorem dX4_hasAllModels_13 : decode cX4_hasAllModels 13 = .ok (.iconst 0, 1) := by decide +kernel
theorem dX4_hasAllModels_14 : decode cX4_hasAllModels 14 = .ok (.ireturn, 1) := by decide +kernel
theorem dX4_addPrinciple_0 : decode cX4_addPrinciple 0 = .ok (.aload_n 0, 1) := by decide +kernel
theorem dX4_addPrinciple_1 : decode cX4_addPrinciple 1 = .ok (.getfield 30, 3) := by decide +kernel
theorem dX4_addPrinciple_4 : decode cX4_addPrinciple 4 = .ok (.istore_n 3, 1) := by decide +kernel
theorem dX4_addPrinciple_5 : decode cX4_addPrinciple 5 = .ok (.aload_n 0, 1) := by decide +kernel
theorem dX4_addPrinciple_6 : decode cX4_addPrinciple 6 = .ok (.getfield 11, 3) := by decide +kernel
theorem dX4_addPrinciple_9 : decode cX4_addPrinciple 9 = .ok (.iload_n 3, 1) := by decide +kernel
theorem dX4_addPrinciple_10 : decode cX4_addPrinciple 10 = .ok (.iload_n 1, 1) := by decide +kernel
theorem dX4_addPrinciple_11 : decode cX4_addPrinciple 11 = .ok (.iastore, 1) := by decide +kernel
theorem dX4_addPrinciple_12 : decode cX4_addPrinciple 12 = .ok (.aload_n 0, 1) := by decide +kernel
theorem dX4_addPrinciple_13 : decode cX4_addPrinciple 13 = .ok (.getfield 15, 3) := by decide +kernel
theorem dX4_addPrinciple_16 : decode cX4_addPrinciple 16 = .ok (.iload_n 3, 1) := by decide +kernel
theorem dX4_addPrinciple_17 : decode cX4_addPrinciple 17 = .ok (.iload_n 2, 1) := by decide +kernel
theorem dX4_addPrinciple_18 : decode cX4_addPrinciple 18 = .ok (.iastore, 1) := by decide +kernel
theorem dX4_addPrinciple_19 : decode cX4_addPrinciple 19 = .ok (.aload_n 0, 1) := by decide +kernel
theorem dX4_addPrinciple_20 : decode cX4_addPrinciple 20 = .ok (.dup, 1) := by decide +kernel
theorem dX4_addPrinciple_21 : decode cX4_addPrinciple 21 = .ok (.getfield 30, 3) := by decide +kernel
theorem dX4_addPrinciple_24 : decode cX4_addPrinciple 24 = .ok (.iconst 1, 1) := by decide +kernel
theorem dX4_addPrinciple_25 : decode cX4_addPrinciple 25 = .ok (.iadd, 1) := by decide +kernel
theorem dX4_addPrinciple_26 : decode cX4_addPrinciple 26 = .ok (.putfield 30, 3) := by decide +kernel
theorem dX4_addPrinciple_29 : decode cX4_addPrinciple 29 = .ok (.iload_n 3, 1) := by decide +kernel
theorem dX4_addPrinciple_30 : decode cX4_addPrinciple 30 = .ok (.ireturn, 1) := by decide +kernel
theorem dX4_addRule_0 : decode cX4_addRule 0 = .ok (.aload_n 0, 1) := by decide +kernel
theorem dX4_addRule_1 : decode cX4_addRule 1 = .ok (.getfield 34, 3) := by decide +kernel
theorem dX4_addRule_4 : decode cX4_addRule 4 = .ok (.istore_n 3, 1) := by decide +kernel
theorem dX4_addRule_5 : decode cX4_addRule 5 = .ok (.aload_n 0, 1) := by decide +kernel
theorem dX4_addRule_6 : decode cX4_addRule 6 = .ok (.getfield 18, 3) := by decide +kernel
theorem dX4_addRule_9 : decode cX4_addRule 9 = .ok (.iload_n 3, 1) := by decide +kernel
theorem dX4_addRule_10 : decode cX4_addRule 10 = .ok (.iload_n 1, 1) := by decide +kernel
theorem dX4_addRule_11 : decode cX4_addRule 11 = .ok (.iastore, 1) := by decide +kernel
theorem dX4_addRule_12 : decode cX4_addRule 12 = .ok (.aload_n 0, 1) := by decide +kernel
theorem dX4_addRule_13 : decode cX4_addRule 13 = .ok (.getfield 21, 3) := by decide +kernel
theorem dX4_addRule_16 : decode cX4_addRule 16 = .ok (.iload_n 3, 1) := by decide +kernel
theorem dX4_addRule_17 : decode cX4_addRule 17 = .ok (.iload_n 2, 1) := by decide +kernel
theorem dX4_addRule_18 : decode cX4_addRule 18 = .ok (.iastore, 1) := by decide +kernel
theorem dX4_addRule_19 : decode cX4_addRule 19 = .ok (.aload_n 0, 1) := by decide +kernel
theorem dX4_addRule_20 : decode cX4_addRule 20 = .ok (.dup, 1) := by decide +kernel
theorem dX4_addRule_21 : decode cX4_addRule 21 = .ok (.getfield 34, 3) := by decide +kernel
theorem dX4_addRule_24 : decode cX4_addRule 24 = .ok (.iconst 1, 1) := by decide +kernel
theorem dX4_addRule_25 : decode cX4_addRule 25 = .ok (.iadd, 1) := by decide +kernel
theorem dX4_addRule_26 : decode cX4_addRule 26 = .ok (.putfield 34, 3) := by decide +kernel
theorem dX4_addRule_29 : decode cX4_addRule 29 = .ok (.iload_n 3, 1) := by decide +kernel
theorem dX4_addRule_30 : decode cX4_addRule 30 = .ok (.ireturn, 1) := by decide +kernel
theorem dX4_addModel_0 : decode cX4_addModel 0 = .ok (.aload_n 0, 1) := by decide +kernel
theorem dX4_addModel_1 : decode cX4_addModel 1 = .ok (.getfield 37, 3) := by decide +kernel
theorem dX4_addModel_4 : decode cX4_addModel 4 = .ok (.istore_n 2, 1) := by decide +kernel
theorem dX4_addModel_5 : decode cX4_addModel 5 = .ok (.aload_n 0, 1) := by decide +kernel
theorem dX4_addModel_6 : decode cX4_addModel 6 = .ok (.getfield 24, 3) := by decide +kernel
theorem dX4_addModel_9 : decode cX4_addModel 9 = .ok (.iload_n 2, 1) := by decide +kernel
theorem dX4_addModel_10 : decode cX4_addModel 10 = .ok (.iload_n 1, 1) := by decide +kernel
theorem dX4_addModel_11 : decode cX4_addModel 11 = .ok (.iastore, 1) := by decide +kernel
theorem dX4_addModel_12 : decode cX4_addModel 12 = .ok (.aload_n 0, 1) := by decide +kernel
theorem dX4_addModel_13 : decode cX4_addModel 13 = .ok (.dup, 1) := by decide +kernel
theorem dX4_addModel_14 : decode cX4_addModel 14 = .ok (.getfield 37, 3) := by decide +kernel
theorem dX4_addModel_17 : decode cX4_addModel 17 = .ok (.iconst 1, 1) := by decide +kernel
theorem dX4_addModel_18 : decode cX4_addModel 18 = .ok (.iadd, 1) := by decide +kernel
theorem dX4_addModel_19 : decode cX4_addModel 19 = .ok (.putfield 37, 3) := by decide +kernel
theorem dX4_addModel_22 : decode cX4_addModel 22 = .ok (.iload_n 2, 1) := by decide +kernel
theorem dX4_addModel_23 : decode cX4_addModel 23 = .ok (.ireturn, 1) := by decide +kernel
set_option maxRecDepth 20000 in
theorem ggX4_brings_X4_includes : GoodIn wsX4_brings wsX4_includes := goodIn_r _ [4] (by decide +kernel) (by decide +kernel)
set_option maxRecDepth 20000 in
theorem gX4_brings_X4_includes : GoodIn wsX4_brings (va_wsS RX4 44 yX4_includes wsX4_includes) := goodIn_app (goodIn_of _ (by decide +kernel)) ggX4_brings_X4_includes
set_option maxRecDepth 20000 in
theorem ggX4_brings_X4_contains : GoodIn wsX4_brings wsX4_contains := goodIn_r _ [7] (by decide +kernel) (by decide +kernel)
set_option maxRecDepth 20000 in
theorem gX4_brings_X4_contains : GoodIn wsX4_brings (va_wsS RX4 47 yX4_contains wsX4_contains) := goodIn_app (goodIn_of _ (by decide +kernel)) ggX4_brings_X4_contains
theorem dX4_brings_0 : decode cX4_brings 0 = .ok (.iload_n 0, 1) := by decide +kernel
theorem dX4_brings_1 : decode cX4_brings 1 = .ok (.iload_n 1, 1) := by decide +kernel
theorem dX4_brings_2 : decode cX4_brings 2 = .ok (.invokestatic 44, 3) := by decide +kernel
theorem dX4_brings_5 : decode cX4_brings 5 = .ok (.ifCond .eq 15, 3) := by decide +kernel
theorem dX4_brings_8 : decode cX4_brings 8 = .ok (.iload_n 0, 1) := by decide +kernel
theorem dX4_brings_9 : decode cX4_brings 9 = .ok (.iload_n 2, 1) := by decide +kernel
theorem dX4_brings_10 : decode cX4_brings 10 = .ok (.invokestatic 47, 3) := by decide +kernel
theorem dX4_brings_13 : decode cX4_brings 13 = .ok (.ifCond .ne 7, 3) := by decide +kernel
theorem dX4_brings_16 : decode cX4_brings 16 = .ok (.iconst 1, 1) := by decide +kernel
theorem dX4_brings_17 : decode cX4_brings 17 = .ok (.goto 4, 3) := by decide +kernel
theorem dX4_brings_20 : decode cX4_brings 20 = .ok (.iconst 0, 1) := by decide +kernel
theorem dX4_brings_21 : decode cX4_brings 21 = .ok (.ireturn, 1) := by decide +kernel
set_option maxRecDepth 20000 in
theorem ggX4_isBrokenByModel_X4_brings : GoodIn wsX4_isBrokenByModel wsX4_brings := goodIn_r _ [6, 7, 8, 5, 9, 10, 11, 12] (by decide +kernel) (by decide +kernel)
set_option maxRecDepth 20000 in
theorem gX4_isBrokenByModel_X4_brings : GoodIn wsX4_isBrokenByModel (va_wsS RX4 50 yX4_brings wsX4_brings) := goodIn_app (goodIn_of _ (by decide +kernel)) ggX4_isBrokenByModel_X4_brings
theorem dX4_isBrokenByModel_0 : decode cX4_isBrokenByModel 0 = .ok (.iconst 0, 1) := by decide +kernel
theorem dX4_isBrokenByModel_1 : decode cX4_isBrokenByModel 1 = .ok (.istore_n 3, 1) := by decide +kernel
theorem dX4_isBrokenByModel_2 : decode cX4_isBrokenByModel 2 = .ok (.iload_n 3, 1) := by decide +kernel
theorem dX4_isBrokenByModel_3 : decode cX4_isBrokenByModel 3 = .ok (.aload_n 0, 1) := by decide +kernel
theorem dX4_isBrokenByModel_4 : decode cX4_isBrokenByModel 4 = .ok (.getfield 37, 3) := by decide +kernel
theorem dX4_isBrokenByModel_7 : decode cX4_isBrokenByModel 7 = .ok (.if_icmp .ge 25, 3) := by decide +kernel
theorem dX4_isBrokenByModel_10 : decode cX4_isBrokenByModel 10 = .ok (.aload_n 0, 1) := by decide +kernel
theorem dX4_isBrokenByModel_11 : decode cX4_isBrokenByModel 11 = .ok (.getfield 24, 3) := by decide +kernel
theorem dX4_isBrokenByModel_14 : decode cX4_isBrokenByModel 14 = .ok (.iload_n 3, 1) := by decide +kernel
theorem dX4_isBrokenByModel_15 : decode cX4_isBrokenByModel 15 = .ok (.iaload, 1) := by decide +kernel
theorem dX4_isBrokenByModel_16 : decode cX4_isBrokenByModel 16 = .ok (.iload_n 1, 1) := by decide +kernel
theorem dX4_isBrokenByModel_17 : decode cX4_isBrokenByModel 17 = .ok (.iload_n 2, 1) := by decide +kernel
theorem dX4_isBrokenByModel_18 : decode cX4_isBrokenByModel 18 = .ok (.invokestatic 50, 3) := by decide +kernel
theorem dX4_isBrokenByModel_21 : decode cX4_isBrokenByModel 21 = .ok (.ifCond .eq 5, 3) := by decide +kernel
theorem dX4_isBrokenByModel_24 : decode cX4_isBrokenByModel 24 = .ok (.iconst 1, 1) := by decide +kernel
theorem dX4_isBrokenByModel_25 : decode cX4_isBrokenByModel 25 = .ok (.ireturn, 1) := by decide +kernel
theorem dX4_isBrokenByModel_26 : decode cX4_isBrokenByModel 26 = .ok (.iinc 3 1, 3) := by decide +kernel
theorem dX4_isBrokenByModel_29 : decode cX4_isBrokenByModel 29 = .ok (.goto (-27), 3) := by decide +kernel
theorem dX4_isBrokenByModel_32 : decode cX4_isBrokenByModel 32 = .ok (.iconst 0, 1) := by decide +kernel
theorem dX4_isBrokenByModel_33 : decode cX4_isBrokenByModel 33 = .ok (.ireturn, 1) := by decide +kernel
set_option maxRecDepth 20000 in
theorem ggX4_breaksRule_X4_nextRule : GoodIn wsX4_breaksRule wsX4_nextRule := goodIn_r _ [5, 6, 7, 8, 9, 10, 4, 11, 12, 13, 14, 15, 16, 17, 18, 19, 20, 21, 22, 23, 24, 25, 26] (by decide +kernel) (by decide +kernel)
set_option maxRecDepth 20000 in
theorem gX4_breaksRule_X4_nextRule : GoodIn wsX4_breaksRule (wsV RX4 54 RX4 yX4_nextRule wsX4_nextRule) := goodIn_app (goodIn_of _ (by decide +kernel)) ggX4_breaksRule_X4_nextRule
theorem dX4_breaksRule_0 : decode cX4_breaksRule 0 = .ok (.aload_n 0, 1) := by decide +kernel
theorem dX4_breaksRule_1 : decode cX4_breaksRule 1 = .ok (.iload_n 1, 1) := by decide +kernel
theorem dX4_breaksRule_2 : decode cX4_breaksRule 2 = .ok (.invokevirtual 54, 3) := by decide +kernel
theorem dX4_breaksRule_5 : decode cX4_breaksRule 5 = .ok (.iconst (-1), 1) := by decide +kernel
theorem dX4_breaksRule_6 : decode cX4_breaksRule 6 = .ok (.if_icmp .eq 7, 3) := by decide +kernel
theorem dX4_breaksRule_9 : decode cX4_breaksRule 9 = .ok (.iconst 1, 1) := by decide +kernel
theorem dX4_breaksRule_10 : decode cX4_breaksRule 10 = .ok (.goto 4, 3) := by decide +kernel
theorem dX4_breaksRule_13 : decode cX4_breaksRule 13 = .ok (.iconst 0, 1) := by decide +kernel
theorem dX4_breaksRule_14 : decode cX4_breaksRule 14 = .ok (.ireturn, 1) := by decide +kernel
set_option maxRecDepth 20000 in
theorem ggX4_nextRule_X4_brings : GoodIn wsX4_nextRule wsX4_brings := goodIn_r _ [7, 8, 9, 6, 10, 11, 12, 13] (by decide +kernel) (by decide +kernel)
set_option maxRecDepth 20000 in
theorem gX4_nextRule_X4_brings : GoodIn wsX4_nextRule (va_wsS RX4 50 yX4_brings wsX4_brings) := goodIn_app (goodIn_of _ (by decide +kernel)) ggX4_nextRule_X4_brings
theorem dX4_nextRule_0 : decode cX4_nextRule 0 = .ok (.iconst 0, 1) := by decide +kernel
theorem dX4_nextRule_1 : decode cX4_nextRule 1 = .ok (.istore_n 2, 1) := by decide +kernel
theorem dX4_nextRule_2 : decode cX4_nextRule 2 = .ok (.iload_n 2, 1) := by decide +kernel
theorem dX4_nextRule_3 : decode cX4_nextRule 3 = .ok (.aload_n 0, 1) := by decide +kernel
theorem dX4_nextRule_4 : decode cX4_nextRule 4 = .ok (.getfield 34, 3) := by decide +kernel
theorem dX4_nextRule_7 : decode cX4_nextRule 7 = .ok (.if_icmp .ge 30, 3) := by decide +kernel
theorem dX4_nextRule_10 : decode cX4_nextRule 10 = .ok (.iload_n 1, 1) := by decide +kernel
theorem dX4_nextRule_11 : decode cX4_nextRule 11 = .ok (.aload_n 0, 1) := by decide +kernel
theorem dX4_nextRule_12 : decode cX4_nextRule 12 = .ok (.getfield 18, 3) := by decide +kernel
theorem dX4_nextRule_15 : decode cX4_nextRule 15 = .ok (.iload_n 2, 1) := by decide +kernel
theorem dX4_nextRule_16 : decode cX4_nextRule 16 = .ok (.iaload, 1) := by decide +kernel
theorem dX4_nextRule_17 : decode cX4_nextRule 17 = .ok (.aload_n 0, 1) := by decide +kernel
theorem dX4_nextRule_18 : decode cX4_nextRule 18 = .ok (.getfield 21, 3) := by decide +kernel
theorem dX4_nextRule_21 : decode cX4_nextRule 21 = .ok (.iload_n 2, 1) := by decide +kernel
theorem dX4_nextRule_22 : decode cX4_nextRule 22 = .ok (.iaload, 1) := by decide +kernel
theorem dX4_nextRule_23 : decode cX4_nextRule 23 = .ok (.invokestatic 50, 3) := by decide +kernel
theorem dX4_nextRule_26 : decode cX4_nextRule 26 = .ok (.ifCond .eq 5, 3) := by decide +kernel
theorem dX4_nextRule_29 : decode cX4_nextRule 29 = .ok (.iload_n 2, 1) := by decide +kernel
theorem dX4_nextRule_30 : decode cX4_nextRule 30 = .ok (.ireturn, 1) := by decide +kernel
theorem dX4_nextRule_31 : decode cX4_nextRule 31 = .ok (.iinc 2 1, 3) := by decide +kernel
theorem dX4_nextRule_34 : decode cX4_nextRule 34 = .ok (.goto (-32), 3) := by decide +kernel
theorem dX4_nextRule_37 : decode cX4_nextRule 37 = .ok (.iconst (-1), 1) := by decide +kernel
theorem dX4_nextRule_38 : decode cX4_nextRule 38 = .ok (.ireturn, 1) := by decide +kernel
set_option maxRecDepth 20000 in
theorem ggX4_closure_X4_nextRule : GoodIn wsX4_closure wsX4_nextRule := goodIn_r _ [6, 7, 8, 1, 9, 10, 5, 11, 12, 13, 14, 15, 16, 17, 18, 19, 20, 21, 22, 23, 24, 25, 26] (by decide +kernel) (by decide +kernel)
set_option maxRecDepth 20000 in
theorem gX4_closure_X4_nextRule : GoodIn wsX4_closure (wsV RX4 54 RX4 yX4_nextRule wsX4_nextRule) := goodIn_app (goodIn_of _ (by decide +kernel)) ggX4_closure_X4_nextRule
theorem dX4_closure_0 : decode cX4_closure 0 = .ok (.iload_n 1, 1) := by decide +kernel
theorem dX4_closure_1 : decode cX4_closure 1 = .ok (.istore_n 2, 1) := by decide +kernel
theorem dX4_closure_2 : decode cX4_closure 2 = .ok (.iconst 0, 1) := by decide +kernel
theorem dX4_closure_3 : decode cX4_closure 3 = .ok (.istore_n 3, 1) := by decide +kernel
theorem dX4_closure_4 : decode cX4_closure 4 = .ok (.iload_n 3, 1) := by decide +kernel
theorem dX4_closure_5 : decode cX4_closure 5 = .ok (.bipush 10, 2) := by decide +kernel
theorem dX4_closure_7 : decode cX4_closure 7 = .ok (.if_icmp .ge 36, 3) := by decide +kernel
theorem dX4_closure_10 : decode cX4_closure 10 = .ok (.aload_n 0, 1) := by decide +kernel
theorem dX4_closure_11 : decode cX4_closure 11 = .ok (.iload_n 2, 1) := by decide +kernel
theorem dX4_closure_12 : decode cX4_closure 12 = .ok (.invokevirtual 54, 3) := by decide +kernel
theorem dX4_closure_15 : decode cX4_closure 15 = .ok (.istore 4, 2) := by decide +kernel
theorem dX4_closure_17 : decode cX4_closure 17 = .ok (.iload 4, 2) := by decide +kernel
theorem dX4_closure_19 : decode cX4_closure 19 = .ok (.iconst (-1), 1) := by decide +kernel
theorem dX4_closure_20 : decode cX4_closure 20 = .ok (.if_icmp .ne 5, 3) := by decide +kernel
theorem dX4_closure_23 : decode cX4_closure 23 = .ok (.iload_n 2, 1) := by decide +kernel
theorem dX4_closure_24 : decode cX4_closure 24 = .ok (.ireturn, 1) := by decide +kernel
theorem dX4_closure_25 : decode cX4_closure 25 = .ok (.iload_n 2, 1) := by decide +kernel
theorem dX4_closure_26 : decode cX4_closure 26 = .ok (.iconst 1, 1) := by decide +kernel
theorem dX4_closure_27 : decode cX4_closure 27 = .ok (.aload_n 0, 1) := by decide +kernel
theorem dX4_closure_28 : decode cX4_closure 28 = .ok (.getfield 21, 3) := by decide +kernel
theorem dX4_closure_31 : decode cX4_closure 31 = .ok (.iload 4, 2) := by decide +kernel
theorem dX4_closure_33 : decode cX4_closure 33 = .ok (.iaload, 1) := by decide +kernel
theorem dX4_closure_34 : decode cX4_closure 34 = .ok (.ishl, 1) := by decide +kernel
theorem dX4_closure_35 : decode cX4_closure 35 = .ok (.ior, 1) := by decide +kernel
theorem dX4_closure_36 : decode cX4_closure 36 = .ok (.istore_n 2, 1) := by decide +kernel
theorem dX4_closure_37 : decode cX4_closure 37 = .ok (.iinc 3 1, 3) := by decide +kernel
theorem dX4_closure_40 : decode cX4_closure 40 = .ok (.goto (-36), 3) := by decide +kernel
theorem dX4_closure_43 : decode cX4_closure 43 = .ok (.iload_n 2, 1) := by decide +kernel
theorem dX4_closure_44 : decode cX4_closure 44 = .ok (.ireturn, 1) := by decide +kernel
set_option maxRecDepth 20000 in
theorem ggX4_proofStep_X4_takeSteps : GoodIn wsX4_proofStep wsX4_takeSteps := goodIn_r _ [5, 6, 7, 8, 9, 4, 10, 11, 12, 13, 14, 15, 16, 17, 18, 19, 20, 21, 22, 31, 32, 33, 34, 35, 36, 37, 38, 39] (by decide +kernel) (by decide +kernel)
set_option maxRecDepth 20000 in
theorem gX4_proofStep_X4_takeSteps : GoodIn wsX4_proofStep (wsV RX4 58 RX4 yX4_takeSteps wsX4_takeSteps) := goodIn_app (goodIn_of _ (by decide +kernel)) ggX4_proofStep_X4_takeSteps
set_option maxRecDepth 20000 in
theorem ggX4_proofStep_X4_neededSteps : GoodIn wsX4_proofStep wsX4_neededSteps := goodIn_r _ [26, 6, 7, 16, 8, 9, 4, 10, 31, 32, 33, 34, 35, 36, 37, 38, 39] (by decide +kernel) (by decide +kernel)
set_option maxRecDepth 20000 in
theorem gX4_proofStep_X4_neededSteps : GoodIn wsX4_proofStep (wsV RX4 62 RX4 yX4_neededSteps wsX4_neededSteps) := goodIn_app (goodIn_of _ (by decide +kernel)) ggX4_proofStep_X4_neededSteps
set_option maxRecDepth 20000 in
theorem ggX4_proofStep_X4_neededStep : GoodIn wsX4_proofStep wsX4_neededStep := goodIn_r _ [30, 6, 8, 9, 4, 10, 31, 32, 33, 34, 35, 36, 37, 38, 39] (by decide +kernel) (by decide +kernel)
set_option maxRecDepth 20000 in
theorem gX4_proofStep_X4_neededStep : GoodIn wsX4_proofStep (wsV RX4 65 RX4 yX4_neededStep wsX4_neededStep) := goodIn_app (goodIn_of _ (by decide +kernel)) ggX4_proofStep_X4_neededStep
theorem dX4_proofStep_0 : decode cX4_proofStep 0 = .ok (.aload_n 0, 1) := by decide +kernel
theorem dX4_proofStep_1 : decode cX4_proofStep 1 = .ok (.iload_n 1, 1) := by decide +kernel
theorem dX4_proofStep_2 : decode cX4_proofStep 2 = .ok (.iload_n 2, 1) := by decide +kernel
theorem dX4_proofStep_3 : decode cX4_proofStep 3 = .ok (.invokevirtual 58, 3) := by decide +kernel
theorem dX4_proofStep_6 : decode cX4_proofStep 6 = .ok (.istore 4, 2) := by decide +kernel
theorem dX4_proofStep_8 : decode cX4_proofStep 8 = .ok (.iload 4, 2) := by decide +kernel
theorem dX4_proofStep_10 : decode cX4_proofStep 10 = .ok (.iconst (-1), 1) := by decide +kernel
theorem dX4_proofStep_11 : decode cX4_proofStep 11 = .ok (.if_icmp .ne 7, 3) := by decide +kernel
theorem dX4_proofStep_14 : decode cX4_proofStep 14 = .ok (.iconst (-1), 1) := by decide +kernel
theorem dX4_proofStep_15 : decode cX4_proofStep 15 = .ok (.goto 15, 3) := by decide +kernel
theorem dX4_proofStep_18 : decode cX4_proofStep 18 = .ok (.aload_n 0, 1) := by decide +kernel
theorem dX4_proofStep_19 : decode cX4_proofStep 19 = .ok (.aload_n 0, 1) := by decide +kernel
theorem dX4_proofStep_20 : decode cX4_proofStep 20 = .ok (.iload_n 2, 1) := by decide +kernel
theorem dX4_proofStep_21 : decode cX4_proofStep 21 = .ok (.iload 4, 2) := by decide +kernel
theorem dX4_proofStep_23 : decode cX4_proofStep 23 = .ok (.invokevirtual 62, 3) := by decide +kernel
theorem dX4_proofStep_26 : decode cX4_proofStep 26 = .ok (.iload_n 3, 1) := by decide +kernel
theorem dX4_proofStep_27 : decode cX4_proofStep 27 = .ok (.invokevirtual 65, 3) := by decide +kernel
theorem dX4_proofStep_30 : decode cX4_proofStep 30 = .ok (.ireturn, 1) := by decide +kernel
set_option maxRecDepth 20000 in
theorem ggX4_takeSteps_X4_contains : GoodIn wsX4_takeSteps wsX4_contains := goodIn_r _ [6] (by decide +kernel) (by decide +kernel)
set_option maxRecDepth 20000 in
theorem gX4_takeSteps_X4_contains : GoodIn wsX4_takeSteps (va_wsS RX4 47 yX4_contains wsX4_contains) := goodIn_app (goodIn_of _ (by decide +kernel)) ggX4_takeSteps_X4_contains
set_option maxRecDepth 20000 in
theorem ggX4_takeSteps_X4_nextRule : GoodIn wsX4_takeSteps wsX4_nextRule := goodIn_r _ [10, 11, 12, 2, 13, 14, 5, 15, 16, 17, 18, 3, 4, 6, 19, 20, 21, 22, 23, 24, 25, 26, 27] (by decide +kernel) (by decide +kernel)
set_option maxRecDepth 20000 in
theorem gX4_takeSteps_X4_nextRule : GoodIn wsX4_takeSteps (wsV RX4 54 RX4 yX4_nextRule wsX4_nextRule) := goodIn_app (goodIn_of _ (by decide +kernel)) ggX4_takeSteps_X4_nextRule
theorem dX4_takeSteps_0 : decode cX4_takeSteps 0 = .ok (.iload_n 1, 1) := by decide +kernel
theorem dX4_takeSteps_1 : decode cX4_takeSteps 1 = .ok (.istore_n 3, 1) := by decide +kernel
theorem dX4_takeSteps_2 : decode cX4_takeSteps 2 = .ok (.iconst 0, 1) := by decide +kernel
theorem dX4_takeSteps_3 : decode cX4_takeSteps 3 = .ok (.istore 4, 2) := by decide +kernel
theorem dX4_takeSteps_5 : decode cX4_takeSteps 5 = .ok (.iload 4, 2) := by decide +kernel
theorem dX4_takeSteps_7 : decode cX4_takeSteps 7 = .ok (.bipush 10, 2) := by decide +kernel
theorem dX4_takeSteps_9 : decode cX4_takeSteps 9 = .ok (.if_icmp .ge 53, 3) := by decide +kernel
theorem dX4_takeSteps_12 : decode cX4_takeSteps 12 = .ok (.iload_n 3, 1) := by decide +kernel
theorem dX4_takeSteps_13 : decode cX4_takeSteps 13 = .ok (.iload_n 2, 1) := by decide +kernel
theorem dX4_takeSteps_14 : decode cX4_takeSteps 14 = .ok (.invokestatic 47, 3) := by decide +kernel
theorem dX4_takeSteps_17 : decode cX4_takeSteps 17 = .ok (.ifCond .ne 45, 3) := by decide +kernel
theorem dX4_takeSteps_20 : decode cX4_takeSteps 20 = .ok (.aload_n 0, 1) := by decide +kernel
theorem dX4_takeSteps_21 : decode cX4_takeSteps 21 = .ok (.iload_n 3, 1) := by decide +kernel
theorem dX4_takeSteps_22 : decode cX4_takeSteps 22 = .ok (.invokevirtual 54, 3) := by decide +kernel
theorem dX4_takeSteps_25 : decode cX4_takeSteps 25 = .ok (.istore 5, 2) := by decide +kernel
theorem dX4_takeSteps_27 : decode cX4_takeSteps 27 = .ok (.iload 5, 2) := by decide +kernel
theorem dX4_takeSteps_29 : decode cX4_takeSteps 29 = .ok (.iconst (-1), 1) := by decide +kernel
theorem dX4_takeSteps_30 : decode cX4_takeSteps 30 = .ok (.if_icmp .ne 5, 3) := by decide +kernel
theorem dX4_takeSteps_33 : decode cX4_takeSteps 33 = .ok (.iconst (-1), 1) := by decide +kernel
theorem dX4_takeSteps_34 : decode cX4_takeSteps 34 = .ok (.ireturn, 1) := by decide +kernel
theorem dX4_takeSteps_35 : decode cX4_takeSteps 35 = .ok (.aload_n 0, 1) := by decide +kernel
theorem dX4_takeSteps_36 : decode cX4_takeSteps 36 = .ok (.getfield 27, 3) := by decide +kernel
theorem dX4_takeSteps_39 : decode cX4_takeSteps 39 = .ok (.iload 4, 2) := by decide +kernel
theorem dX4_takeSteps_41 : decode cX4_takeSteps 41 = .ok (.iload 5, 2) := by decide +kernel
theorem dX4_takeSteps_43 : decode cX4_takeSteps 43 = .ok (.iastore, 1) := by decide +kernel
theorem dX4_takeSteps_44 : decode cX4_takeSteps 44 = .ok (.iload_n 3, 1) := by decide +kernel
theorem dX4_takeSteps_45 : decode cX4_takeSteps 45 = .ok (.iconst 1, 1) := by decide +kernel
theorem dX4_takeSteps_46 : decode cX4_takeSteps 46 = .ok (.aload_n 0, 1) := by decide +kernel
theorem dX4_takeSteps_47 : decode cX4_takeSteps 47 = .ok (.getfield 21, 3) := by decide +kernel
theorem dX4_takeSteps_50 : decode cX4_takeSteps 50 = .ok (.iload 5, 2) := by decide +kernel
theorem dX4_takeSteps_52 : decode cX4_takeSteps 52 = .ok (.iaload, 1) := by decide +kernel
theorem dX4_takeSteps_53 : decode cX4_takeSteps 53 = .ok (.ishl, 1) := by decide +kernel
theorem dX4_takeSteps_54 : decode cX4_takeSteps 54 = .ok (.ior, 1) := by decide +kernel
theorem dX4_takeSteps_55 : decode cX4_takeSteps 55 = .ok (.istore_n 3, 1) := by decide +kernel
theorem dX4_takeSteps_56 : decode cX4_takeSteps 56 = .ok (.iinc 4 1, 3) := by decide +kernel
theorem dX4_takeSteps_59 : decode cX4_takeSteps 59 = .ok (.goto (-54), 3) := by decide +kernel
theorem dX4_takeSteps_62 : decode cX4_takeSteps 62 = .ok (.iload 4, 2) := by decide +kernel
theorem dX4_takeSteps_64 : decode cX4_takeSteps 64 = .ok (.ireturn, 1) := by decide +kernel
set_option maxRecDepth 20000 in
theorem ggX4_neededSteps_X4_contains : GoodIn wsX4_neededSteps wsX4_contains := goodIn_r _ [7] (by decide +kernel) (by decide +kernel)
set_option maxRecDepth 20000 in
theorem gX4_neededSteps_X4_contains : GoodIn wsX4_neededSteps (va_wsS RX4 47 yX4_contains wsX4_contains) := goodIn_app (goodIn_of _ (by decide +kernel)) ggX4_neededSteps_X4_contains
theorem dX4_neededSteps_0 : decode cX4_neededSteps 0 = .ok (.iconst 1, 1) := by decide +kernel
theorem dX4_neededSteps_1 : decode cX4_neededSteps 1 = .ok (.iload_n 1, 1) := by decide +kernel
theorem dX4_neededSteps_2 : decode cX4_neededSteps 2 = .ok (.ishl, 1) := by decide +kernel
theorem dX4_neededSteps_3 : decode cX4_neededSteps 3 = .ok (.istore_n 3, 1) := by decide +kernel
theorem dX4_neededSteps_4 : decode cX4_neededSteps 4 = .ok (.iconst 0, 1) := by decide +kernel
theorem dX4_neededSteps_5 : decode cX4_neededSteps 5 = .ok (.istore 4, 2) := by decide +kernel
theorem dX4_neededSteps_7 : decode cX4_neededSteps 7 = .ok (.iload_n 2, 1) := by decide +kernel
theorem dX4_neededSteps_8 : decode cX4_neededSteps 8 = .ok (.iconst 1, 1) := by decide +kernel
theorem dX4_neededSteps_9 : decode cX4_neededSteps 9 = .ok (.isub, 1) := by decide +kernel
theorem dX4_neededSteps_10 : decode cX4_neededSteps 10 = .ok (.istore 5, 2) := by decide +kernel
theorem dX4_neededSteps_12 : decode cX4_neededSteps 12 = .ok (.iload 5, 2) := by decide +kernel
theorem dX4_neededSteps_14 : decode cX4_neededSteps 14 = .ok (.ifCond .lt 51, 3) := by decide +kernel
theorem dX4_neededSteps_17 : decode cX4_neededSteps 17 = .ok (.aload_n 0, 1) := by decide +kernel
theorem dX4_neededSteps_18 : decode cX4_neededSteps 18 = .ok (.getfield 27, 3) := by decide +kernel
theorem dX4_neededSteps_21 : decode cX4_neededSteps 21 = .ok (.iload 5, 2) := by decide +kernel
theorem dX4_neededSteps_23 : decode cX4_neededSteps 23 = .ok (.iaload, 1) := by decide +kernel
theorem dX4_neededSteps_24 : decode cX4_neededSteps 24 = .ok (.istore 6, 2) := by decide +kernel
theorem dX4_neededSteps_26 : decode cX4_neededSteps 26 = .ok (.iload_n 3, 1) := by decide +kernel
theorem dX4_neededSteps_27 : decode cX4_neededSteps 27 = .ok (.aload_n 0, 1) := by decide +kernel
theorem dX4_neededSteps_28 : decode cX4_neededSteps 28 = .ok (.getfield 21, 3) := by decide +kernel
theorem dX4_neededSteps_31 : decode cX4_neededSteps 31 = .ok (.iload 6, 2) := by decide +kernel
theorem dX4_neededSteps_33 : decode cX4_neededSteps 33 = .ok (.iaload, 1) := by decide +kernel
theorem dX4_neededSteps_34 : decode cX4_neededSteps 34 = .ok (.invokestatic 47, 3) := by decide +kernel
theorem dX4_neededSteps_37 : decode cX4_neededSteps 37 = .ok (.ifCond .eq 22, 3) := by decide +kernel
theorem dX4_neededSteps_40 : decode cX4_neededSteps 40 = .ok (.iload_n 3, 1) := by decide +kernel
theorem dX4_neededSteps_41 : decode cX4_neededSteps 41 = .ok (.aload_n 0, 1) := by decide +kernel
theorem dX4_neededSteps_42 : decode cX4_neededSteps 42 = .ok (.getfield 18, 3) := by decide +kernel
theorem dX4_neededSteps_45 : decode cX4_neededSteps 45 = .ok (.iload 6, 2) := by decide +kernel
theorem dX4_neededSteps_47 : decode cX4_neededSteps 47 = .ok (.iaload, 1) := by decide +kernel
theorem dX4_neededSteps_48 : decode cX4_neededSteps 48 = .ok (.ior, 1) := by decide +kernel
theorem dX4_neededSteps_49 : decode cX4_neededSteps 49 = .ok (.istore_n 3, 1) := by decide +kernel
theorem dX4_neededSteps_50 : decode cX4_neededSteps 50 = .ok (.iload 4, 2) := by decide +kernel
theorem dX4_neededSteps_52 : decode cX4_neededSteps 52 = .ok (.iconst 1, 1) := by decide +kernel
theorem dX4_neededSteps_53 : decode cX4_neededSteps 53 = .ok (.iload 5, 2) := by decide +kernel
theorem dX4_neededSteps_55 : decode cX4_neededSteps 55 = .ok (.ishl, 1) := by decide +kernel
theorem dX4_neededSteps_56 : decode cX4_neededSteps 56 = .ok (.ior, 1) := by decide +kernel
theorem dX4_neededSteps_57 : decode cX4_neededSteps 57 = .ok (.istore 4, 2) := by decide +kernel
theorem dX4_neededSteps_59 : decode cX4_neededSteps 59 = .ok (.iinc 5 (-1), 3) := by decide +kernel
theorem dX4_neededSteps_62 : decode cX4_neededSteps 62 = .ok (.goto (-50), 3) := by decide +kernel
theorem dX4_neededSteps_65 : decode cX4_neededSteps 65 = .ok (.iload 4, 2) := by decide +kernel
theorem dX4_neededSteps_67 : decode cX4_neededSteps 67 = .ok (.ireturn, 1) := by decide +kernel
set_option maxRecDepth 20000 in
theorem ggX4_neededStep_X4_contains : GoodIn wsX4_neededStep wsX4_contains := goodIn_r _ [5] (by decide +kernel) (by decide +kernel)
set_option maxRecDepth 20000 in
theorem gX4_neededStep_X4_contains : GoodIn wsX4_neededStep (va_wsS RX4 47 yX4_contains wsX4_contains) := goodIn_app (goodIn_of _ (by decide +kernel)) ggX4_neededStep_X4_contains
theorem dX4_neededStep_0 : decode cX4_neededStep 0 = .ok (.iconst 0, 1) := by decide +kernel
theorem dX4_neededStep_1 : decode cX4_neededStep 1 = .ok (.istore_n 3, 1) := by decide +kernel
theorem dX4_neededStep_2 : decode cX4_neededStep 2 = .ok (.iconst 0, 1) := by decide +kernel
theorem dX4_neededStep_3 : decode cX4_neededStep 3 = .ok (.istore 4, 2) := by decide +kernel
theorem dX4_neededStep_5 : decode cX4_neededStep 5 = .ok (.iload 4, 2) := by decide +kernel
theorem dX4_neededStep_7 : decode cX4_neededStep 7 = .ok (.bipush 10, 2) := by decide +kernel
theorem dX4_neededStep_9 : decode cX4_neededStep 9 = .ok (.if_icmp .ge 34, 3) := by decide +kernel
theorem dX4_neededStep_12 : decode cX4_neededStep 12 = .ok (.iload_n 1, 1) := by decide +kernel
theorem dX4_neededStep_13 : decode cX4_neededStep 13 = .ok (.iload 4, 2) := by decide +kernel
theorem dX4_neededStep_15 : decode cX4_neededStep 15 = .ok (.invokestatic 47, 3) := by decide +kernel
theorem dX4_neededStep_18 : decode cX4_neededStep 18 = .ok (.ifCond .eq 19, 3) := by decide +kernel
theorem dX4_neededStep_21 : decode cX4_neededStep 21 = .ok (.iload_n 3, 1) := by decide +kernel
theorem dX4_neededStep_22 : decode cX4_neededStep 22 = .ok (.iload_n 2, 1) := by decide +kernel
theorem dX4_neededStep_23 : decode cX4_neededStep 23 = .ok (.if_icmp .ne 11, 3) := by decide +kernel
theorem dX4_neededStep_26 : decode cX4_neededStep 26 = .ok (.aload_n 0, 1) := by decide +kernel
theorem dX4_neededStep_27 : decode cX4_neededStep 27 = .ok (.getfield 27, 3) := by decide +kernel
theorem dX4_neededStep_30 : decode cX4_neededStep 30 = .ok (.iload 4, 2) := by decide +kernel
theorem dX4_neededStep_32 : decode cX4_neededStep 32 = .ok (.iaload, 1) := by decide +kernel
theorem dX4_neededStep_33 : decode cX4_neededStep 33 = .ok (.ireturn, 1) := by decide +kernel
theorem dX4_neededStep_34 : decode cX4_neededStep 34 = .ok (.iinc 3 1, 3) := by decide +kernel
theorem dX4_neededStep_37 : decode cX4_neededStep 37 = .ok (.iinc 4 1, 3) := by decide +kernel
theorem dX4_neededStep_40 : decode cX4_neededStep 40 = .ok (.goto (-35), 3) := by decide +kernel
theorem dX4_neededStep_43 : decode cX4_neededStep 43 = .ok (.iconst (-1), 1) := by decide +kernel
theorem dX4_neededStep_44 : decode cX4_neededStep 44 = .ok (.ireturn, 1) := by decide +kernel
set_option maxRecDepth 20000 in
theorem ggX4_verdict_X4_closure : GoodIn wsX4_verdict wsX4_closure := goodIn_r _ [7, 8, 9, 10, 11, 6, 12, 13, 14, 15, 16, 17, 18, 19, 20, 21, 22, 23, 24, 25, 26, 27, 28, 29, 30, 31, 32] (by decide +kernel) (by decide +kernel)
set_option maxRecDepth 20000 in
theorem gX4_verdict_X4_closure : GoodIn wsX4_verdict (wsV RX4 68 RX4 yX4_closure wsX4_closure) := goodIn_app (goodIn_of _ (by decide +kernel)) ggX4_verdict_X4_closure
set_option maxRecDepth 20000 in
theorem ggX4_verdict_X4_contains : GoodIn wsX4_verdict wsX4_contains := goodIn_r _ [23] (by decide +kernel) (by decide +kernel)
set_option maxRecDepth 20000 in
theorem gX4_verdict_X4_contains : GoodIn wsX4_verdict (va_wsS RX4 47 yX4_contains wsX4_contains) := goodIn_app (goodIn_of _ (by decide +kernel)) ggX4_verdict_X4_contains
theorem dX4_verdict_0 : decode cX4_verdict 0 = .ok (.aload_n 0, 1) := by decide +kernel
theorem dX4_verdict_1 : decode cX4_verdict 1 = .ok (.iconst 1, 1) := by decide +kernel
theorem dX4_verdict_2 : decode cX4_verdict 2 = .ok (.iload_n 1, 1) := by decide +kernel
theorem dX4_verdict_3 : decode cX4_verdict 3 = .ok (.ishl, 1) := by decide +kernel
theorem dX4_verdict_4 : decode cX4_verdict 4 = .ok (.invokevirtual 68, 3) := by decide +kernel
theorem dX4_verdict_7 : decode cX4_verdict 7 = .ok (.iload_n 2, 1) := by decide +kernel
theorem dX4_verdict_8 : decode cX4_verdict 8 = .ok (.invokestatic 47, 3) := by decide +kernel
theorem dX4_verdict_11 : decode cX4_verdict 11 = .ok (.ifCond .eq 5, 3) := by decide +kernel
theorem dX4_verdict_14 : decode cX4_verdict 14 = .ok (.iconst 1, 1) := by decide +kernel
theorem dX4_verdict_15 : decode cX4_verdict 15 = .ok (.ireturn, 1) := by decide +kernel
theorem dX4_verdict_16 : decode cX4_verdict 16 = .ok (.iconst 0, 1) := by decide +kernel
theorem dX4_verdict_17 : decode cX4_verdict 17 = .ok (.istore_n 3, 1) := by decide +kernel
theorem dX4_verdict_18 : decode cX4_verdict 18 = .ok (.iload_n 3, 1) := by decide +kernel
theorem dX4_verdict_19 : decode cX4_verdict 19 = .ok (.aload_n 0, 1) := by decide +kernel
theorem dX4_verdict_20 : decode cX4_verdict 20 = .ok (.getfield 37, 3) := by decide +kernel
theorem dX4_verdict_23 : decode cX4_verdict 23 = .ok (.if_icmp .ge 37, 3) := by decide +kernel
theorem dX4_verdict_26 : decode cX4_verdict 26 = .ok (.aload_n 0, 1) := by decide +kernel
theorem dX4_verdict_27 : decode cX4_verdict 27 = .ok (.getfield 24, 3) := by decide +kernel
theorem dX4_verdict_30 : decode cX4_verdict 30 = .ok (.iload_n 3, 1) := by decide +kernel
theorem dX4_verdict_31 : decode cX4_verdict 31 = .ok (.iaload, 1) := by decide +kernel
theorem dX4_verdict_32 : decode cX4_verdict 32 = .ok (.iload_n 1, 1) := by decide +kernel
theorem dX4_verdict_33 : decode cX4_verdict 33 = .ok (.invokestatic 47, 3) := by decide +kernel
theorem dX4_verdict_36 : decode cX4_verdict 36 = .ok (.ifCond .eq 18, 3) := by decide +kernel
theorem dX4_verdict_39 : decode cX4_verdict 39 = .ok (.aload_n 0, 1) := by decide +kernel
theorem dX4_verdict_40 : decode cX4_verdict 40 = .ok (.getfield 24, 3) := by decide +kernel
theorem dX4_verdict_43 : decode cX4_verdict 43 = .ok (.iload_n 3, 1) := by decide +kernel
theorem dX4_verdict_44 : decode cX4_verdict 44 = .ok (.iaload, 1) := by decide +kernel
theorem dX4_verdict_45 : decode cX4_verdict 45 = .ok (.iload_n 2, 1) := by decide +kernel
theorem dX4_verdict_46 : decode cX4_verdict 46 = .ok (.invokestatic 47, 3) := by decide +kernel
theorem dX4_verdict_49 : decode cX4_verdict 49 = .ok (.ifCond .ne 5, 3) := by decide +kernel
theorem dX4_verdict_52 : decode cX4_verdict 52 = .ok (.iconst (-1), 1) := by decide +kernel
theorem dX4_verdict_53 : decode cX4_verdict 53 = .ok (.ireturn, 1) := by decide +kernel
theorem dX4_verdict_54 : decode cX4_verdict 54 = .ok (.iinc 3 1, 3) := by decide +kernel
theorem dX4_verdict_57 : decode cX4_verdict 57 = .ok (.goto (-39), 3) := by decide +kernel
theorem dX4_verdict_60 : decode cX4_verdict 60 = .ok (.iconst 0, 1) := by decide +kernel
theorem dX4_verdict_61 : decode cX4_verdict 61 = .ok (.ireturn, 1) := by decide +kernel
set_option maxRecDepth 20000 in
theorem ggX4_openPairs_X4_verdict : GoodIn wsX4_openPairs wsX4_verdict := goodIn_r _ [6, 7, 8, 9, 10, 11, 5, 12, 13, 14, 15, 16, 17, 18, 19, 20, 21, 22, 23, 24, 25, 26, 27, 28, 29, 30, 31, 32, 33, 34, 35, 36, 37] (by decide +kernel) (by decide +kernel)
set_option maxRecDepth 20000 in
theorem gX4_openPairs_X4_verdict : GoodIn wsX4_openPairs (wsV RX4 71 RX4 yX4_verdict wsX4_verdict) := goodIn_app (goodIn_of _ (by decide +kernel)) ggX4_openPairs_X4_verdict
theorem dX4_openPairs_0 : decode cX4_openPairs 0 = .ok (.iconst 0, 1) := by decide +kernel
theorem dX4_openPairs_1 : decode cX4_openPairs 1 = .ok (.istore_n 1, 1) := by decide +kernel
theorem dX4_openPairs_2 : decode cX4_openPairs 2 = .ok (.iconst 0, 1) := by decide +kernel
theorem dX4_openPairs_3 : decode cX4_openPairs 3 = .ok (.istore_n 2, 1) := by decide +kernel
theorem dX4_openPairs_4 : decode cX4_openPairs 4 = .ok (.iload_n 2, 1) := by decide +kernel
theorem dX4_openPairs_5 : decode cX4_openPairs 5 = .ok (.aload_n 0, 1) := by decide +kernel
theorem dX4_openPairs_6 : decode cX4_openPairs 6 = .ok (.getfield 30, 3) := by decide +kernel
theorem dX4_openPairs_9 : decode cX4_openPairs 9 = .ok (.if_icmp .ge 42, 3) := by decide +kernel
theorem dX4_openPairs_12 : decode cX4_openPairs 12 = .ok (.iconst 0, 1) := by decide +kernel
theorem dX4_openPairs_13 : decode cX4_openPairs 13 = .ok (.istore_n 3, 1) := by decide +kernel
theorem dX4_openPairs_14 : decode cX4_openPairs 14 = .ok (.iload_n 3, 1) := by decide +kernel
theorem dX4_openPairs_15 : decode cX4_openPairs 15 = .ok (.aload_n 0, 1) := by decide +kernel
theorem dX4_openPairs_16 : decode cX4_openPairs 16 = .ok (.getfield 30, 3) := by decide +kernel
theorem dX4_openPairs_19 : decode cX4_openPairs 19 = .ok (.if_icmp .ge 26, 3) := by decide +kernel
theorem dX4_openPairs_22 : decode cX4_openPairs 22 = .ok (.iload_n 2, 1) := by decide +kernel
theorem dX4_openPairs_23 : decode cX4_openPairs 23 = .ok (.iload_n 3, 1) := by decide +kernel
theorem dX4_openPairs_24 : decode cX4_openPairs 24 = .ok (.if_icmp .eq 15, 3) := by decide +kernel
theorem dX4_openPairs_27 : decode cX4_openPairs 27 = .ok (.aload_n 0, 1) := by decide +kernel
theorem dX4_openPairs_28 : decode cX4_openPairs 28 = .ok (.iload_n 2, 1) := by decide +kernel
theorem dX4_openPairs_29 : decode cX4_openPairs 29 = .ok (.iload_n 3, 1) := by decide +kernel
theorem dX4_openPairs_30 : decode cX4_openPairs 30 = .ok (.invokevirtual 71, 3) := by decide +kernel
theorem dX4_openPairs_33 : decode cX4_openPairs 33 = .ok (.ifCond .ne 6, 3) := by decide +kernel
theorem dX4_openPairs_36 : decode cX4_openPairs 36 = .ok (.iinc 1 1, 3) := by decide +kernel
theorem dX4_openPairs_39 : decode cX4_openPairs 39 = .ok (.iinc 3 1, 3) := by decide +kernel
theorem dX4_openPairs_42 : decode cX4_openPairs 42 = .ok (.goto (-28), 3) := by decide +kernel
theorem dX4_openPairs_45 : decode cX4_openPairs 45 = .ok (.iinc 2 1, 3) := by decide +kernel
theorem dX4_openPairs_48 : decode cX4_openPairs 48 = .ok (.goto (-44), 3) := by decide +kernel
theorem dX4_openPairs_51 : decode cX4_openPairs 51 = .ok (.iload_n 1, 1) := by decide +kernel
theorem dX4_openPairs_52 : decode cX4_openPairs 52 = .ok (.ireturn, 1) := by decide +kernel
set_option maxRecDepth 20000 in
theorem ggX4_leastBySize_X4_closure : GoodIn wsX4_leastBySize wsX4_closure := goodIn_r _ [5, 6, 7, 8, 9, 4, 10, 11, 12, 13, 14, 15, 16, 17, 18, 19, 20, 21, 29, 30, 31, 32, 33, 34, 35, 36, 37] (by decide +kernel) (by decide +kernel)
set_option maxRecDepth 20000 in
theorem gX4_leastBySize_X4_closure : GoodIn wsX4_leastBySize (wsV RX4 68 RX4 yX4_closure wsX4_closure) := goodIn_app (goodIn_of _ (by decide +kernel)) ggX4_leastBySize_X4_closure
set_option maxRecDepth 20000 in
theorem ggX4_leastBySize_X4_contains : GoodIn wsX4_leastBySize wsX4_contains := goodIn_r _ [21] (by decide +kernel) (by decide +kernel)
set_option maxRecDepth 20000 in
theorem gX4_leastBySize_X4_contains : GoodIn wsX4_leastBySize (va_wsS RX4 47 yX4_contains wsX4_contains) := goodIn_app (goodIn_of _ (by decide +kernel)) ggX4_leastBySize_X4_contains
set_option maxRecDepth 20000 in
theorem ggX4_leastBySize_J6_bitCount_0f7a4 : GoodIn wsX4_leastBySize wsJ6_bitCount_0f7a4 := goodIn_r _ [25, 26, 27, 28] (by decide +kernel) (by decide +kernel)
set_option maxRecDepth 20000 in
theorem gX4_leastBySize_J6_bitCount_0f7a4 : GoodIn wsX4_leastBySize (va_wsS RX4 74 yJ6_bitCount_0f7a4 wsJ6_bitCount_0f7a4) := goodIn_app (goodIn_of _ (by decide +kernel)) ggX4_leastBySize_J6_bitCount_0f7a4
set_option maxRecDepth 20000 in
theorem ggX4_leastBySize_X4_includes : GoodIn wsX4_leastBySize wsX4_includes := goodIn_r _ [18] (by decide +kernel) (by decide +kernel)
set_option maxRecDepth 20000 in
theorem gX4_leastBySize_X4_includes : GoodIn wsX4_leastBySize (va_wsS RX4 44 yX4_includes wsX4_includes) := goodIn_app (goodIn_of _ (by decide +kernel)) ggX4_leastBySize_X4_includes
theorem dX4_leastBySize_0 : decode cX4_leastBySize 0 = .ok (.aload_n 0, 1) := by decide +kernel
theorem dX4_leastBySize_1 : decode cX4_leastBySize 1 = .ok (.iload_n 2, 1) := by decide +kernel
theorem dX4_leastBySize_2 : decode cX4_leastBySize 2 = .ok (.invokevirtual 68, 3) := by decide +kernel
theorem dX4_leastBySize_5 : decode cX4_leastBySize 5 = .ok (.iload_n 1, 1) := by decide +kernel
theorem dX4_leastBySize_6 : decode cX4_leastBySize 6 = .ok (.invokestatic 47, 3) := by decide +kernel
theorem dX4_leastBySize_9 : decode cX4_leastBySize 9 = .ok (.ifCond .ne 5, 3) := by decide +kernel
theorem dX4_leastBySize_12 : decode cX4_leastBySize 12 = .ok (.iconst (-1), 1) := by decide +kernel
theorem dX4_leastBySize_13 : decode cX4_leastBySize 13 = .ok (.ireturn, 1) := by decide +kernel
theorem dX4_leastBySize_14 : decode cX4_leastBySize 14 = .ok (.iconst 0, 1) := by decide +kernel
theorem dX4_leastBySize_15 : decode cX4_leastBySize 15 = .ok (.istore_n 3, 1) := by decide +kernel
theorem dX4_leastBySize_16 : decode cX4_leastBySize 16 = .ok (.iload_n 3, 1) := by decide +kernel
theorem dX4_leastBySize_17 : decode cX4_leastBySize 17 = .ok (.bipush 10, 2) := by decide +kernel
theorem dX4_leastBySize_19 : decode cX4_leastBySize 19 = .ok (.if_icmp .gt 58, 3) := by decide +kernel
theorem dX4_leastBySize_22 : decode cX4_leastBySize 22 = .ok (.iconst 0, 1) := by decide +kernel
theorem dX4_leastBySize_23 : decode cX4_leastBySize 23 = .ok (.istore 4, 2) := by decide +kernel
theorem dX4_leastBySize_25 : decode cX4_leastBySize 25 = .ok (.iload 4, 2) := by decide +kernel
theorem dX4_leastBySize_27 : decode cX4_leastBySize 27 = .ok (.iload_n 2, 1) := by decide +kernel
theorem dX4_leastBySize_28 : decode cX4_leastBySize 28 = .ok (.if_icmp .gt 43, 3) := by decide +kernel
theorem dX4_leastBySize_31 : decode cX4_leastBySize 31 = .ok (.iload 4, 2) := by decide +kernel
theorem dX4_leastBySize_33 : decode cX4_leastBySize 33 = .ok (.invokestatic 74, 3) := by decide +kernel
theorem dX4_leastBySize_36 : decode cX4_leastBySize 36 = .ok (.iload_n 3, 1) := by decide +kernel
theorem dX4_leastBySize_37 : decode cX4_leastBySize 37 = .ok (.if_icmp .ne 28, 3) := by decide +kernel
theorem dX4_leastBySize_40 : decode cX4_leastBySize 40 = .ok (.iload_n 2, 1) := by decide +kernel
theorem dX4_leastBySize_41 : decode cX4_leastBySize 41 = .ok (.iload 4, 2) := by decide +kernel
theorem dX4_leastBySize_43 : decode cX4_leastBySize 43 = .ok (.invokestatic 44, 3) := by decide +kernel
theorem dX4_leastBySize_46 : decode cX4_leastBySize 46 = .ok (.ifCond .eq 19, 3) := by decide +kernel
theorem dX4_leastBySize_49 : decode cX4_leastBySize 49 = .ok (.aload_n 0, 1) := by decide +kernel
theorem dX4_leastBySize_50 : decode cX4_leastBySize 50 = .ok (.iload 4, 2) := by decide +kernel
theorem dX4_leastBySize_52 : decode cX4_leastBySize 52 = .ok (.invokevirtual 68, 3) := by decide +kernel
theorem dX4_leastBySize_55 : decode cX4_leastBySize 55 = .ok (.iload_n 1, 1) := by decide +kernel
theorem dX4_leastBySize_56 : decode cX4_leastBySize 56 = .ok (.invokestatic 47, 3) := by decide +kernel
theorem dX4_leastBySize_59 : decode cX4_leastBySize 59 = .ok (.ifCond .eq 6, 3) := by decide +kernel
theorem dX4_leastBySize_62 : decode cX4_leastBySize 62 = .ok (.iload 4, 2) := by decide +kernel
theorem dX4_leastBySize_64 : decode cX4_leastBySize 64 = .ok (.ireturn, 1) := by decide +kernel
theorem dX4_leastBySize_65 : decode cX4_leastBySize 65 = .ok (.iinc 4 1, 3) := by decide +kernel
theorem dX4_leastBySize_68 : decode cX4_leastBySize 68 = .ok (.goto (-43), 3) := by decide +kernel
theorem dX4_leastBySize_71 : decode cX4_leastBySize 71 = .ok (.iinc 3 1, 3) := by decide +kernel
theorem dX4_leastBySize_74 : decode cX4_leastBySize 74 = .ok (.goto (-58), 3) := by decide +kernel
theorem dX4_leastBySize_77 : decode cX4_leastBySize 77 = .ok (.iconst (-1), 1) := by decide +kernel
theorem dX4_leastBySize_78 : decode cX4_leastBySize 78 = .ok (.ireturn, 1) := by decide +kernel
set_option maxRecDepth 20000 in
theorem ggX4_leastOfAll_J6_bitCount_0f7a4 : GoodIn wsX4_leastOfAll wsJ6_bitCount_0f7a4 := goodIn_r _ [4, 5, 6, 7] (by decide +kernel) (by decide +kernel)
set_option maxRecDepth 20000 in
theorem gX4_leastOfAll_J6_bitCount_0f7a4 : GoodIn wsX4_leastOfAll (va_wsS RX4 74 yJ6_bitCount_0f7a4 wsJ6_bitCount_0f7a4) := goodIn_app (goodIn_of _ (by decide +kernel)) ggX4_leastOfAll_J6_bitCount_0f7a4
set_option maxRecDepth 20000 in
theorem ggX4_leastOfAll_X4_includes : GoodIn wsX4_leastOfAll wsX4_includes := goodIn_r _ [11] (by decide +kernel) (by decide +kernel)
set_option maxRecDepth 20000 in
theorem gX4_leastOfAll_X4_includes : GoodIn wsX4_leastOfAll (va_wsS RX4 44 yX4_includes wsX4_includes) := goodIn_app (goodIn_of _ (by decide +kernel)) ggX4_leastOfAll_X4_includes
set_option maxRecDepth 20000 in
theorem ggX4_leastOfAll_X4_closure : GoodIn wsX4_leastOfAll wsX4_closure := goodIn_r _ [15, 16, 17, 18, 19, 10, 20, 21, 22, 23, 24, 25, 8, 9, 11, 26, 27, 28, 29, 30, 31, 32, 33, 34, 35, 36, 37] (by decide +kernel) (by decide +kernel)
set_option maxRecDepth 20000 in
theorem gX4_leastOfAll_X4_closure : GoodIn wsX4_leastOfAll (wsV RX4 68 RX4 yX4_closure wsX4_closure) := goodIn_app (goodIn_of _ (by decide +kernel)) ggX4_leastOfAll_X4_closure
set_option maxRecDepth 20000 in
theorem ggX4_leastOfAll_X4_contains : GoodIn wsX4_leastOfAll wsX4_contains := goodIn_r _ [28] (by decide +kernel) (by decide +kernel)
set_option maxRecDepth 20000 in
theorem gX4_leastOfAll_X4_contains : GoodIn wsX4_leastOfAll (va_wsS RX4 47 yX4_contains wsX4_contains) := goodIn_app (goodIn_of _ (by decide +kernel)) ggX4_leastOfAll_X4_contains
theorem dX4_leastOfAll_0 : decode cX4_leastOfAll 0 = .ok (.iconst (-1), 1) := by decide +kernel
theorem dX4_leastOfAll_1 : decode cX4_leastOfAll 1 = .ok (.istore_n 3, 1) := by decide +kernel
theorem dX4_leastOfAll_2 : decode cX4_leastOfAll 2 = .ok (.bipush 11, 2) := by decide +kernel
theorem dX4_leastOfAll_4 : decode cX4_leastOfAll 4 = .ok (.istore 4, 2) := by decide +kernel
theorem dX4_leastOfAll_6 : decode cX4_leastOfAll 6 = .ok (.iconst 0, 1) := by decide +kernel
theorem dX4_leastOfAll_7 : decode cX4_leastOfAll 7 = .ok (.istore 5, 2) := by decide +kernel
theorem dX4_leastOfAll_9 : decode cX4_leastOfAll 9 = .ok (.iload 5, 2) := by decide +kernel
theorem dX4_leastOfAll_11 : decode cX4_leastOfAll 11 = .ok (.iload_n 2, 1) := by decide +kernel
theorem dX4_leastOfAll_12 : decode cX4_leastOfAll 12 = .ok (.if_icmp .gt 52, 3) := by decide +kernel
theorem dX4_leastOfAll_15 : decode cX4_leastOfAll 15 = .ok (.iload 5, 2) := by decide +kernel
theorem dX4_leastOfAll_17 : decode cX4_leastOfAll 17 = .ok (.invokestatic 74, 3) := by decide +kernel
theorem dX4_leastOfAll_20 : decode cX4_leastOfAll 20 = .ok (.istore 6, 2) := by decide +kernel
theorem dX4_leastOfAll_22 : decode cX4_leastOfAll 22 = .ok (.iload_n 2, 1) := by decide +kernel
theorem dX4_leastOfAll_23 : decode cX4_leastOfAll 23 = .ok (.iload 5, 2) := by decide +kernel
theorem dX4_leastOfAll_25 : decode cX4_leastOfAll 25 = .ok (.invokestatic 44, 3) := by decide +kernel
theorem dX4_leastOfAll_28 : decode cX4_leastOfAll 28 = .ok (.ifCond .eq 30, 3) := by decide +kernel
theorem dX4_leastOfAll_31 : decode cX4_leastOfAll 31 = .ok (.aload_n 0, 1) := by decide +kernel
theorem dX4_leastOfAll_32 : decode cX4_leastOfAll 32 = .ok (.iload 5, 2) := by decide +kernel
theorem dX4_leastOfAll_34 : decode cX4_leastOfAll 34 = .ok (.invokevirtual 68, 3) := by decide +kernel
theorem dX4_leastOfAll_37 : decode cX4_leastOfAll 37 = .ok (.iload_n 1, 1) := by decide +kernel
theorem dX4_leastOfAll_38 : decode cX4_leastOfAll 38 = .ok (.invokestatic 47, 3) := by decide +kernel
theorem dX4_leastOfAll_41 : decode cX4_leastOfAll 41 = .ok (.ifCond .eq 17, 3) := by decide +kernel
theorem dX4_leastOfAll_44 : decode cX4_leastOfAll 44 = .ok (.iload 6, 2) := by decide +kernel
theorem dX4_leastOfAll_46 : decode cX4_leastOfAll 46 = .ok (.iload 4, 2) := by decide +kernel
theorem dX4_leastOfAll_48 : decode cX4_leastOfAll 48 = .ok (.if_icmp .ge 10, 3) := by decide +kernel
theorem dX4_leastOfAll_51 : decode cX4_leastOfAll 51 = .ok (.iload 5, 2) := by decide +kernel
theorem dX4_leastOfAll_53 : decode cX4_leastOfAll 53 = .ok (.istore_n 3, 1) := by decide +kernel
theorem dX4_leastOfAll_54 : decode cX4_leastOfAll 54 = .ok (.iload 6, 2) := by decide +kernel
theorem dX4_leastOfAll_56 : decode cX4_leastOfAll 56 = .ok (.istore 4, 2) := by decide +kernel
theorem dX4_leastOfAll_58 : decode cX4_leastOfAll 58 = .ok (.iinc 5 1, 3) := by decide +kernel
theorem dX4_leastOfAll_61 : decode cX4_leastOfAll 61 = .ok (.goto (-52), 3) := by decide +kernel
theorem dX4_leastOfAll_64 : decode cX4_leastOfAll 64 = .ok (.iload_n 3, 1) := by decide +kernel
theorem dX4_leastOfAll_65 : decode cX4_leastOfAll 65 = .ok (.ireturn, 1) := by decide +kernel
set_option maxRecDepth 20000 in
theorem ggX4_tell_X4_rulesFor : GoodIn wsX4_tell wsX4_rulesFor := goodIn_r _ [7, 8, 9, 19, 20, 21, 22, 23, 24, 25, 26, 27] (by decide +kernel) (by decide +kernel)
set_option maxRecDepth 20000 in
theorem gX4_tell_X4_rulesFor : GoodIn wsX4_tell (wsV RX4 79 RX4 yX4_rulesFor wsX4_rulesFor) := goodIn_app (goodIn_of _ (by decide +kernel)) ggX4_tell_X4_rulesFor
set_option maxRecDepth 20000 in
theorem ggX4_tell_X4_modelsWith : GoodIn wsX4_tell wsX4_modelsWith := goodIn_r _ [13, 14, 15, 16, 17, 6, 18, 19, 20, 21, 22, 23, 24, 25, 26, 27] (by decide +kernel) (by decide +kernel)
set_option maxRecDepth 20000 in
theorem gX4_tell_X4_modelsWith : GoodIn wsX4_tell (wsV RX4 82 RX4 yX4_modelsWith wsX4_modelsWith) := goodIn_app (goodIn_of _ (by decide +kernel)) ggX4_tell_X4_modelsWith
theorem dX4_tell_0 : decode cX4_tell 0 = .ok (.iload_n 2, 1) := by decide +kernel
theorem dX4_tell_1 : decode cX4_tell 1 = .ok (.tableswitch 47 0 2 #[27, 34, 41], 27) := by decide +kernel
theorem dX4_tell_28 : decode cX4_tell 28 = .ok (.aload_n 0, 1) := by decide +kernel
theorem dX4_tell_29 : decode cX4_tell 29 = .ok (.getfield 11, 3) := by decide +kernel
theorem dX4_tell_32 : decode cX4_tell 32 = .ok (.iload_n 1, 1) := by decide +kernel
theorem dX4_tell_33 : decode cX4_tell 33 = .ok (.iaload, 1) := by decide +kernel
theorem dX4_tell_34 : decode cX4_tell 34 = .ok (.ireturn, 1) := by decide +kernel
theorem dX4_tell_35 : decode cX4_tell 35 = .ok (.aload_n 0, 1) := by decide +kernel
theorem dX4_tell_36 : decode cX4_tell 36 = .ok (.getfield 15, 3) := by decide +kernel
theorem dX4_tell_39 : decode cX4_tell 39 = .ok (.iload_n 1, 1) := by decide +kernel
theorem dX4_tell_40 : decode cX4_tell 40 = .ok (.iaload, 1) := by decide +kernel
theorem dX4_tell_41 : decode cX4_tell 41 = .ok (.ireturn, 1) := by decide +kernel
theorem dX4_tell_42 : decode cX4_tell 42 = .ok (.aload_n 0, 1) := by decide +kernel
theorem dX4_tell_43 : decode cX4_tell 43 = .ok (.iload_n 1, 1) := by decide +kernel
theorem dX4_tell_44 : decode cX4_tell 44 = .ok (.invokevirtual 79, 3) := by decide +kernel
theorem dX4_tell_47 : decode cX4_tell 47 = .ok (.ireturn, 1) := by decide +kernel
theorem dX4_tell_48 : decode cX4_tell 48 = .ok (.aload_n 0, 1) := by decide +kernel
theorem dX4_tell_49 : decode cX4_tell 49 = .ok (.iload_n 1, 1) := by decide +kernel
theorem dX4_tell_50 : decode cX4_tell 50 = .ok (.invokevirtual 82, 3) := by decide +kernel
theorem dX4_tell_53 : decode cX4_tell 53 = .ok (.ireturn, 1) := by decide +kernel
theorem dX4_rulesFor_0 : decode cX4_rulesFor 0 = .ok (.iconst 0, 1) := by decide +kernel
theorem dX4_rulesFor_1 : decode cX4_rulesFor 1 = .ok (.istore_n 2, 1) := by decide +kernel
theorem dX4_rulesFor_2 : decode cX4_rulesFor 2 = .ok (.iconst 0, 1) := by decide +kernel
theorem dX4_rulesFor_3 : decode cX4_rulesFor 3 = .ok (.istore_n 3, 1) := by decide +kernel
theorem dX4_rulesFor_4 : decode cX4_rulesFor 4 = .ok (.iload_n 3, 1) := by decide +kernel
theorem dX4_rulesFor_5 : decode cX4_rulesFor 5 = .ok (.aload_n 0, 1) := by decide +kernel
theorem dX4_rulesFor_6 : decode cX4_rulesFor 6 = .ok (.getfield 34, 3) := by decide +kernel
theorem dX4_rulesFor_9 : decode cX4_rulesFor 9 = .ok (.if_icmp .ge 22, 3) := by decide +kernel
theorem dX4_rulesFor_12 : decode cX4_rulesFor 12 = .ok (.aload_n 0, 1) := by decide +kernel
theorem dX4_rulesFor_13 : decode cX4_rulesFor 13 = .ok (.getfield 21, 3) := by decide +kernel
theorem dX4_rulesFor_16 : decode cX4_rulesFor 16 = .ok (.iload_n 3, 1) := by decide +kernel
theorem dX4_rulesFor_17 : decode cX4_rulesFor 17 = .ok (.iaload, 1) := by decide +kernel
theorem dX4_rulesFor_18 : decode cX4_rulesFor 18 = .ok (.iload_n 1, 1) := by decide +kernel
theorem dX4_rulesFor_19 : decode cX4_rulesFor 19 = .ok (.if_icmp .ne 6, 3) := by decide +kernel
theorem dX4_rulesFor_22 : decode cX4_rulesFor 22 = .ok (.iinc 2 1, 3) := by decide +kernel
theorem dX4_rulesFor_25 : decode cX4_rulesFor 25 = .ok (.iinc 3 1, 3) := by decide +kernel
theorem dX4_rulesFor_28 : decode cX4_rulesFor 28 = .ok (.goto (-24), 3) := by decide +kernel
theorem dX4_rulesFor_31 : decode cX4_rulesFor 31 = .ok (.iload_n 2, 1) := by decide +kernel
theorem dX4_rulesFor_32 : decode cX4_rulesFor 32 = .ok (.ireturn, 1) := by decide +kernel
set_option maxRecDepth 20000 in
theorem ggX4_modelsWith_X4_contains : GoodIn wsX4_modelsWith wsX4_contains := goodIn_r _ [6] (by decide +kernel) (by decide +kernel)
set_option maxRecDepth 20000 in
theorem gX4_modelsWith_X4_contains : GoodIn wsX4_modelsWith (va_wsS RX4 47 yX4_contains wsX4_contains) := goodIn_app (goodIn_of _ (by decide +kernel)) ggX4_modelsWith_X4_contains
theorem dX4_modelsWith_0 : decode cX4_modelsWith 0 = .ok (.iconst 0, 1) := by decide +kernel
theorem dX4_modelsWith_1 : decode cX4_modelsWith 1 = .ok (.istore_n 2, 1) := by decide +kernel
theorem dX4_modelsWith_2 : decode cX4_modelsWith 2 = .ok (.iconst 0, 1) := by decide +kernel
theorem dX4_modelsWith_3 : decode cX4_modelsWith 3 = .ok (.istore_n 3, 1) := by decide +kernel
theorem dX4_modelsWith_4 : decode cX4_modelsWith 4 = .ok (.iload_n 3, 1) := by decide +kernel
theorem dX4_modelsWith_5 : decode cX4_modelsWith 5 = .ok (.aload_n 0, 1) := by decide +kernel
theorem dX4_modelsWith_6 : decode cX4_modelsWith 6 = .ok (.getfield 37, 3) := by decide +kernel
theorem dX4_modelsWith_9 : decode cX4_modelsWith 9 = .ok (.if_icmp .ge 25, 3) := by decide +kernel
theorem dX4_modelsWith_12 : decode cX4_modelsWith 12 = .ok (.aload_n 0, 1) := by decide +kernel
theorem dX4_modelsWith_13 : decode cX4_modelsWith 13 = .ok (.getfield 24, 3) := by decide +kernel
theorem dX4_modelsWith_16 : decode cX4_modelsWith 16 = .ok (.iload_n 3, 1) := by decide +kernel
theorem dX4_modelsWith_17 : decode cX4_modelsWith 17 = .ok (.iaload, 1) := by decide +kernel
theorem dX4_modelsWith_18 : decode cX4_modelsWith 18 = .ok (.iload_n 1, 1) := by decide +kernel
theorem dX4_modelsWith_19 : decode cX4_modelsWith 19 = .ok (.invokestatic 47, 3) := by decide +kernel
theorem dX4_modelsWith_22 : decode cX4_modelsWith 22 = .ok (.ifCond .eq 6, 3) := by decide +kernel
theorem dX4_modelsWith_25 : decode cX4_modelsWith 25 = .ok (.iinc 2 1, 3) := by decide +kernel
theorem dX4_modelsWith_28 : decode cX4_modelsWith 28 = .ok (.iinc 3 1, 3) := by decide +kernel
theorem dX4_modelsWith_31 : decode cX4_modelsWith 31 = .ok (.goto (-27), 3) := by decide +kernel
theorem dX4_modelsWith_34 : decode cX4_modelsWith 34 = .ok (.iload_n 2, 1) := by decide +kernel
theorem dX4_modelsWith_35 : decode cX4_modelsWith 35 = .ok (.ireturn, 1) := by decide +kernel
