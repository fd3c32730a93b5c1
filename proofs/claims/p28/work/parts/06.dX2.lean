set_option maxRecDepth 20000 in
theorem ggX2_init_X0_init : GoodIn wsX2_init wsX0_init := goodIn_r _ [15, 16, 2, 3, 17, 18, 8, 19, 20, 21, 22, 23, 24, 25, 26, 27, 28, 29, 30, 31, 32, 33, 34, 35, 36, 37, 38, 39, 40] (by decide +kernel) (by decide +kernel)
set_option maxRecDepth 20000 in
theorem gX2_init_X0_init_n11 : GoodIn wsX2_init (wsX0_init) := ggX2_init_X0_init
theorem dX2_init_0 : decode cX2_init 0 = .ok (.aload_n 0, 1) := by decide +kernel
theorem dX2_init_1 : decode cX2_init 1 = .ok (.invokespecial 3, 3) := by decide +kernel
theorem dX2_init_4 : decode cX2_init 4 = .ok (.aload_n 0, 1) := by decide +kernel
theorem dX2_init_5 : decode cX2_init 5 = .ok (.new 9, 3) := by decide +kernel
theorem dX2_init_8 : decode cX2_init 8 = .ok (.dup, 1) := by decide +kernel
theorem dX2_init_9 : decode cX2_init 9 = .ok (.invokespecial 11, 3) := by decide +kernel
theorem dX2_init_12 : decode cX2_init 12 = .ok (.putfield 12, 3) := by decide +kernel
theorem dX2_init_15 : decode cX2_init 15 = .ok (.aload_n 0, 1) := by decide +kernel
theorem dX2_init_16 : decode cX2_init 16 = .ok (.bipush 40, 2) := by decide +kernel
theorem dX2_init_18 : decode cX2_init 18 = .ok (.newarray .int, 2) := by decide +kernel
theorem dX2_init_20 : decode cX2_init 20 = .ok (.putfield 18, 3) := by decide +kernel
theorem dX2_init_23 : decode cX2_init 23 = .ok (.aload_n 0, 1) := by decide +kernel
theorem dX2_init_24 : decode cX2_init 24 = .ok (.iconst 0, 1) := by decide +kernel
theorem dX2_init_25 : decode cX2_init 25 = .ok (.putfield 22, 3) := by decide +kernel
theorem dX2_init_28 : decode cX2_init 28 = .ok (.aload_n 0, 1) := by decide +kernel
theorem dX2_init_29 : decode cX2_init 29 = .ok (.iconst (-1), 1) := by decide +kernel
theorem dX2_init_30 : decode cX2_init 30 = .ok (.putfield 26, 3) := by decide +kernel
theorem dX2_init_33 : decode cX2_init 33 = .ok (.aload_n 0, 1) := by decide +kernel
theorem dX2_init_34 : decode cX2_init 34 = .ok (.iconst 0, 1) := by decide +kernel
theorem dX2_init_35 : decode cX2_init 35 = .ok (.putfield 29, 3) := by decide +kernel
theorem dX2_init_38 : decode cX2_init 38 = .ok (.aload_n 0, 1) := by decide +kernel
theorem dX2_init_39 : decode cX2_init 39 = .ok (.iconst (-1), 1) := by decide +kernel
theorem dX2_init_40 : decode cX2_init 40 = .ok (.putfield 32, 3) := by decide +kernel
theorem dX2_init_43 : decode cX2_init 43 = .ok (.return_, 1) := by decide +kernel
set_option maxRecDepth 20000 in
theorem ggX2_isLetter_J0_indexOf_0f7a4 : GoodIn wsX2_isLetter wsJ0_indexOf_0f7a4 := goodIn_r _ [5, 6, 7, 8, 4, 9, 10, 11, 12, 13, 14, 15, 16, 17, 18, 19, 20, 21, 22, 23, 24, 25, 26, 27, 28, 29, 30, 31, 32, 33, 34, 35, 36, 37, 38, 39, 40, 41, 42, 43, 44, 45, 46, 47, 48, 49, 50, 51, 52, 53, 54, 55, 56, 57, 58, 59, 60, 61, 62, 63, 64, 65, 66, 67, 68, 69, 70, 71, 72, 73, 74, 75, 76, 77, 78, 79, 80, 81, 82, 83, 84, 85, 86, 87, 88, 89] (by decide +kernel) (by decide +kernel)
set_option maxRecDepth 20000 in
theorem gX2_isLetter_J0_indexOf_0f7a4 : GoodIn wsX2_isLetter (wsV RX2 37 RJ0 yJ0_indexOf_0f7a4 wsJ0_indexOf_0f7a4) := goodIn_app (goodIn_of _ (by decide +kernel)) ggX2_isLetter_J0_indexOf_0f7a4
theorem dX2_isLetter_0 : decode cX2_isLetter 0 = .ok (.ldc 35, 2) := by decide +kernel
theorem dX2_isLetter_2 : decode cX2_isLetter 2 = .ok (.iload_n 0, 1) := by decide +kernel
theorem dX2_isLetter_3 : decode cX2_isLetter 3 = .ok (.invokevirtual 37, 3) := by decide +kernel
theorem dX2_isLetter_6 : decode cX2_isLetter 6 = .ok (.ifCond .lt 7, 3) := by decide +kernel
theorem dX2_isLetter_9 : decode cX2_isLetter 9 = .ok (.iconst 1, 1) := by decide +kernel
theorem dX2_isLetter_10 : decode cX2_isLetter 10 = .ok (.goto 4, 3) := by decide +kernel
theorem dX2_isLetter_13 : decode cX2_isLetter 13 = .ok (.iconst 0, 1) := by decide +kernel
theorem dX2_isLetter_14 : decode cX2_isLetter 14 = .ok (.ireturn, 1) := by decide +kernel
theorem dX2_isFull_0 : decode cX2_isFull 0 = .ok (.aload_n 0, 1) := by decide +kernel
theorem dX2_isFull_1 : decode cX2_isFull 1 = .ok (.getfield 22, 3) := by decide +kernel
theorem dX2_isFull_4 : decode cX2_isFull 4 = .ok (.bipush 40, 2) := by decide +kernel
theorem dX2_isFull_6 : decode cX2_isFull 6 = .ok (.if_icmp .lt 7, 3) := by decide +kernel
theorem dX2_isFull_9 : decode cX2_isFull 9 = .ok (.iconst 1, 1) := by decide +kernel
theorem dX2_isFull_10 : decode cX2_isFull 10 = .ok (.goto 4, 3) := by decide +kernel
theorem dX2_isFull_13 : decode cX2_isFull 13 = .ok (.iconst 0, 1) := by decide +kernel
theorem dX2_isFull_14 : decode cX2_isFull 14 = .ok (.ireturn, 1) := by decide +kernel
set_option maxRecDepth 20000 in
theorem ggX2_type_X2_takes : GoodIn wsX2_type wsX2_takes := goodIn_r _ [8, 3, 9, 10, 11, 7, 12, 13, 14, 15, 16, 17, 18, 19, 20, 21, 22, 23, 24, 25, 26, 27, 28, 29, 30, 31, 32, 33, 34, 35, 36, 37, 38, 39, 40, 41, 42, 43, 44, 45, 46, 47, 48, 49, 50, 51, 52, 98, 99, 100, 101, 102, 103, 104, 105, 106, 107, 108, 109, 110, 111, 112, 113, 114] (by decide +kernel) (by decide +kernel)
set_option maxRecDepth 20000 in
theorem gX2_type_X2_takes : GoodIn wsX2_type (wsV RX2 43 RX2 yX2_takes wsX2_takes) := goodIn_app (goodIn_of _ (by decide +kernel)) ggX2_type_X2_takes
set_option maxRecDepth 20000 in
theorem ggX2_type_X2_finish : GoodIn wsX2_type wsX2_finish := goodIn_r _ [56, 15, 3, 13, 14, 57, 58, 59, 22, 60, 25, 61, 62, 63, 64, 65, 66, 67, 68, 69, 70, 71, 72, 73, 74, 75, 76, 77, 78, 47, 48, 79, 80, 81, 82, 83, 84, 85, 86, 87, 88, 89, 90, 91, 92, 93, 94, 95, 96, 7, 97, 46, 98, 99, 100, 101, 102, 103, 104, 105, 106, 107, 108, 109, 110, 111, 112, 113, 114] (by decide +kernel) (by decide +kernel)
set_option maxRecDepth 20000 in
theorem gX2_type_X2_finish : GoodIn wsX2_type (wsV RX2 47 RX2 yX2_finish wsX2_finish) := goodIn_app (goodIn_of _ (by decide +kernel)) ggX2_type_X2_finish
theorem dX2_type_0 : decode cX2_type 0 = .ok (.aload_n 0, 1) := by decide +kernel
theorem dX2_type_1 : decode cX2_type 1 = .ok (.getfield 26, 3) := by decide +kernel
theorem dX2_type_4 : decode cX2_type 4 = .ok (.iconst (-1), 1) := by decide +kernel
theorem dX2_type_5 : decode cX2_type 5 = .ok (.if_icmp .ne 35, 3) := by decide +kernel
theorem dX2_type_8 : decode cX2_type 8 = .ok (.aload_n 0, 1) := by decide +kernel
theorem dX2_type_9 : decode cX2_type 9 = .ok (.iload_n 1, 1) := by decide +kernel
theorem dX2_type_10 : decode cX2_type 10 = .ok (.invokevirtual 43, 3) := by decide +kernel
theorem dX2_type_13 : decode cX2_type 13 = .ok (.ifCond .ne 14, 3) := by decide +kernel
theorem dX2_type_16 : decode cX2_type 16 = .ok (.aload_n 0, 1) := by decide +kernel
theorem dX2_type_17 : decode cX2_type 17 = .ok (.aload_n 0, 1) := by decide +kernel
theorem dX2_type_18 : decode cX2_type 18 = .ok (.getfield 22, 3) := by decide +kernel
theorem dX2_type_21 : decode cX2_type 21 = .ok (.putfield 26, 3) := by decide +kernel
theorem dX2_type_24 : decode cX2_type 24 = .ok (.goto 16, 3) := by decide +kernel
theorem dX2_type_27 : decode cX2_type 27 = .ok (.aload_n 0, 1) := by decide +kernel
theorem dX2_type_28 : decode cX2_type 28 = .ok (.getfield 29, 3) := by decide +kernel
theorem dX2_type_31 : decode cX2_type 31 = .ok (.bipush 7, 2) := by decide +kernel
theorem dX2_type_33 : decode cX2_type 33 = .ok (.if_icmp .ne 7, 3) := by decide +kernel
theorem dX2_type_36 : decode cX2_type 36 = .ok (.aload_n 0, 1) := by decide +kernel
theorem dX2_type_37 : decode cX2_type 37 = .ok (.invokevirtual 47, 3) := by decide +kernel
theorem dX2_type_40 : decode cX2_type 40 = .ok (.aload_n 0, 1) := by decide +kernel
theorem dX2_type_41 : decode cX2_type 41 = .ok (.dup, 1) := by decide +kernel
theorem dX2_type_42 : decode cX2_type 42 = .ok (.getfield 22, 3) := by decide +kernel
theorem dX2_type_45 : decode cX2_type 45 = .ok (.iconst 1, 1) := by decide +kernel
theorem dX2_type_46 : decode cX2_type 46 = .ok (.iadd, 1) := by decide +kernel
theorem dX2_type_47 : decode cX2_type 47 = .ok (.putfield 22, 3) := by decide +kernel
theorem dX2_type_50 : decode cX2_type 50 = .ok (.aload_n 0, 1) := by decide +kernel
theorem dX2_type_51 : decode cX2_type 51 = .ok (.getfield 22, 3) := by decide +kernel
theorem dX2_type_54 : decode cX2_type 54 = .ok (.ireturn, 1) := by decide +kernel
set_option maxRecDepth 20000 in
theorem ggX2_wipe_X0_clear : GoodIn wsX2_wipe wsX0_clear := goodIn_r _ [10, 11, 12, 19, 20, 21, 22, 23, 24, 25, 26, 27, 28, 29] (by decide +kernel) (by decide +kernel)
set_option maxRecDepth 20000 in
theorem gX2_wipe_X0_clear : GoodIn wsX2_wipe (wsV RX2 50 RX0 yX0_clear wsX0_clear) := goodIn_app (goodIn_of _ (by decide +kernel)) ggX2_wipe_X0_clear
theorem dX2_wipe_0 : decode cX2_wipe 0 = .ok (.aload_n 0, 1) := by decide +kernel
theorem dX2_wipe_1 : decode cX2_wipe 1 = .ok (.getfield 22, 3) := by decide +kernel
theorem dX2_wipe_4 : decode cX2_wipe 4 = .ok (.istore_n 1, 1) := by decide +kernel
theorem dX2_wipe_5 : decode cX2_wipe 5 = .ok (.aload_n 0, 1) := by decide +kernel
theorem dX2_wipe_6 : decode cX2_wipe 6 = .ok (.iconst 0, 1) := by decide +kernel
theorem dX2_wipe_7 : decode cX2_wipe 7 = .ok (.putfield 22, 3) := by decide +kernel
theorem dX2_wipe_10 : decode cX2_wipe 10 = .ok (.aload_n 0, 1) := by decide +kernel
theorem dX2_wipe_11 : decode cX2_wipe 11 = .ok (.iconst (-1), 1) := by decide +kernel
theorem dX2_wipe_12 : decode cX2_wipe 12 = .ok (.putfield 26, 3) := by decide +kernel
theorem dX2_wipe_15 : decode cX2_wipe 15 = .ok (.aload_n 0, 1) := by decide +kernel
theorem dX2_wipe_16 : decode cX2_wipe 16 = .ok (.iconst 0, 1) := by decide +kernel
theorem dX2_wipe_17 : decode cX2_wipe 17 = .ok (.putfield 29, 3) := by decide +kernel
theorem dX2_wipe_20 : decode cX2_wipe 20 = .ok (.aload_n 0, 1) := by decide +kernel
theorem dX2_wipe_21 : decode cX2_wipe 21 = .ok (.iconst (-1), 1) := by decide +kernel
theorem dX2_wipe_22 : decode cX2_wipe 22 = .ok (.putfield 32, 3) := by decide +kernel
theorem dX2_wipe_25 : decode cX2_wipe 25 = .ok (.aload_n 0, 1) := by decide +kernel
theorem dX2_wipe_26 : decode cX2_wipe 26 = .ok (.getfield 12, 3) := by decide +kernel
theorem dX2_wipe_29 : decode cX2_wipe 29 = .ok (.invokevirtual 50, 3) := by decide +kernel
theorem dX2_wipe_32 : decode cX2_wipe 32 = .ok (.iload_n 1, 1) := by decide +kernel
theorem dX2_wipe_33 : decode cX2_wipe 33 = .ok (.ireturn, 1) := by decide +kernel
theorem dX2_faultPlace_0 : decode cX2_faultPlace 0 = .ok (.aload_n 0, 1) := by decide +kernel
theorem dX2_faultPlace_1 : decode cX2_faultPlace 1 = .ok (.getfield 26, 3) := by decide +kernel
theorem dX2_faultPlace_4 : decode cX2_faultPlace 4 = .ok (.iconst (-1), 1) := by decide +kernel
theorem dX2_faultPlace_5 : decode cX2_faultPlace 5 = .ok (.if_icmp .ne 10, 3) := by decide +kernel
theorem dX2_faultPlace_8 : decode cX2_faultPlace 8 = .ok (.aload_n 0, 1) := by decide +kernel
theorem dX2_faultPlace_9 : decode cX2_faultPlace 9 = .ok (.getfield 22, 3) := by decide +kernel
theorem dX2_faultPlace_12 : decode cX2_faultPlace 12 = .ok (.goto 7, 3) := by decide +kernel
theorem dX2_faultPlace_15 : decode cX2_faultPlace 15 = .ok (.aload_n 0, 1) := by decide +kernel
theorem dX2_faultPlace_16 : decode cX2_faultPlace 16 = .ok (.getfield 26, 3) := by decide +kernel
theorem dX2_faultPlace_19 : decode cX2_faultPlace 19 = .ok (.ireturn, 1) := by decide +kernel
theorem dX2_isFormula_0 : decode cX2_isFormula 0 = .ok (.aload_n 0, 1) := by decide +kernel
theorem dX2_isFormula_1 : decode cX2_isFormula 1 = .ok (.getfield 26, 3) := by decide +kernel
theorem dX2_isFormula_4 : decode cX2_isFormula 4 = .ok (.iconst (-1), 1) := by decide +kernel
theorem dX2_isFormula_5 : decode cX2_isFormula 5 = .ok (.if_icmp .ne 16, 3) := by decide +kernel
theorem dX2_isFormula_8 : decode cX2_isFormula 8 = .ok (.aload_n 0, 1) := by decide +kernel
theorem dX2_isFormula_9 : decode cX2_isFormula 9 = .ok (.getfield 29, 3) := by decide +kernel
theorem dX2_isFormula_12 : decode cX2_isFormula 12 = .ok (.bipush 7, 2) := by decide +kernel
theorem dX2_isFormula_14 : decode cX2_isFormula 14 = .ok (.if_icmp .ne 7, 3) := by decide +kernel
theorem dX2_isFormula_17 : decode cX2_isFormula 17 = .ok (.iconst 1, 1) := by decide +kernel
theorem dX2_isFormula_18 : decode cX2_isFormula 18 = .ok (.goto 4, 3) := by decide +kernel
theorem dX2_isFormula_21 : decode cX2_isFormula 21 = .ok (.iconst 0, 1) := by decide +kernel
theorem dX2_isFormula_22 : decode cX2_isFormula 22 = .ok (.ireturn, 1) := by decide +kernel
set_option maxRecDepth 20000 in
theorem ggX2_takes_X2_takesStart : GoodIn wsX2_takes wsX2_takesStart := goodIn_r _ [6, 7, 8, 9, 1, 10, 11, 5, 12, 13, 14, 15, 16, 17, 18, 19, 20, 21, 22, 23, 24, 25, 26, 47, 48, 49, 50, 51, 52, 53, 54, 55, 56, 57, 58, 59, 60, 61, 62, 63] (by decide +kernel) (by decide +kernel)
set_option maxRecDepth 20000 in
theorem gX2_takes_X2_takesStart : GoodIn wsX2_takes (wsV RX2 53 RX2 yX2_takesStart wsX2_takesStart) := goodIn_app (goodIn_of _ (by decide +kernel)) ggX2_takes_X2_takesStart
set_option maxRecDepth 20000 in
theorem ggX2_takes_X2_takesKind : GoodIn wsX2_takes wsX2_takesKind := goodIn_r _ [30, 7, 9, 1, 47, 48, 49, 50, 51, 52, 53, 54, 55, 56, 57, 58, 59, 60, 61, 62, 63] (by decide +kernel) (by decide +kernel)
set_option maxRecDepth 20000 in
theorem gX2_takes_X2_takesKind : GoodIn wsX2_takes (wsV RX2 56 RX2 yX2_takesKind wsX2_takesKind) := goodIn_app (goodIn_of _ (by decide +kernel)) ggX2_takes_X2_takesKind
set_option maxRecDepth 20000 in
theorem ggX2_takes_X2_takesLimit : GoodIn wsX2_takes wsX2_takesLimit := goodIn_r _ [34, 7, 9, 1, 24, 25, 5, 26, 47, 48, 49, 50, 51, 52, 53, 54, 55, 56, 57, 58, 59, 60, 61, 62, 63] (by decide +kernel) (by decide +kernel)
set_option maxRecDepth 20000 in
theorem gX2_takes_X2_takesLimit : GoodIn wsX2_takes (wsV RX2 60 RX2 yX2_takesLimit wsX2_takesLimit) := goodIn_app (goodIn_of _ (by decide +kernel)) ggX2_takes_X2_takesLimit
set_option maxRecDepth 20000 in
theorem ggX2_takes_X2_takesVariable : GoodIn wsX2_takes wsX2_takesVariable := goodIn_r _ [38, 7, 9, 1, 24, 25, 5, 26, 39, 22, 16, 23, 47, 48, 49, 50, 51, 52, 53, 54, 55, 56, 57, 58, 59, 60, 61, 62, 63] (by decide +kernel) (by decide +kernel)
set_option maxRecDepth 20000 in
theorem gX2_takes_X2_takesVariable : GoodIn wsX2_takes (wsV RX2 64 RX2 yX2_takesVariable wsX2_takesVariable) := goodIn_app (goodIn_of _ (by decide +kernel)) ggX2_takes_X2_takesVariable
set_option maxRecDepth 20000 in
theorem ggX2_takes_X0_isOperator : GoodIn wsX2_takes wsX0_isOperator := goodIn_r _ [42] (by decide +kernel) (by decide +kernel)
set_option maxRecDepth 20000 in
theorem gX2_takes_X0_isOperator : GoodIn wsX2_takes (va_wsS RX2 67 yX0_isOperator wsX0_isOperator) := goodIn_app (goodIn_of _ (by decide +kernel)) ggX2_takes_X0_isOperator
set_option maxRecDepth 20000 in
theorem ggX2_takes_X2_takesClose : GoodIn wsX2_takes wsX2_takesClose := goodIn_r _ [46, 1, 47, 48, 49, 50, 51, 52] (by decide +kernel) (by decide +kernel)
set_option maxRecDepth 20000 in
theorem gX2_takes_X2_takesClose : GoodIn wsX2_takes (wsV RX2 70 RX2 yX2_takesClose wsX2_takesClose) := goodIn_app (goodIn_of _ (by decide +kernel)) ggX2_takes_X2_takesClose
theorem dX2_takes_0 : decode cX2_takes 0 = .ok (.aload_n 0, 1) := by decide +kernel
theorem dX2_takes_1 : decode cX2_takes 1 = .ok (.getfield 29, 3) := by decide +kernel
theorem dX2_takes_4 : decode cX2_takes 4 = .ok (.tableswitch 112 0 6 #[44, 50, 74, 82, 88, 95, 106], 44) := by decide +kernel
theorem dX2_takes_48 : decode cX2_takes 48 = .ok (.aload_n 0, 1) := by decide +kernel
theorem dX2_takes_49 : decode cX2_takes 49 = .ok (.iload_n 1, 1) := by decide +kernel
theorem dX2_takes_50 : decode cX2_takes 50 = .ok (.invokevirtual 53, 3) := by decide +kernel
theorem dX2_takes_53 : decode cX2_takes 53 = .ok (.ireturn, 1) := by decide +kernel
theorem dX2_takes_54 : decode cX2_takes 54 = .ok (.aload_n 0, 1) := by decide +kernel
theorem dX2_takes_55 : decode cX2_takes 55 = .ok (.iload_n 1, 1) := by decide +kernel
theorem dX2_takes_56 : decode cX2_takes 56 = .ok (.bipush 60, 2) := by decide +kernel
theorem dX2_takes_58 : decode cX2_takes 58 = .ok (.if_icmp .eq 9, 3) := by decide +kernel
theorem dX2_takes_61 : decode cX2_takes 61 = .ok (.iload_n 1, 1) := by decide +kernel
theorem dX2_takes_62 : decode cX2_takes 62 = .ok (.bipush 61, 2) := by decide +kernel
theorem dX2_takes_64 : decode cX2_takes 64 = .ok (.if_icmp .ne 7, 3) := by decide +kernel
theorem dX2_takes_67 : decode cX2_takes 67 = .ok (.iconst 1, 1) := by decide +kernel
theorem dX2_takes_68 : decode cX2_takes 68 = .ok (.goto 4, 3) := by decide +kernel
theorem dX2_takes_71 : decode cX2_takes 71 = .ok (.iconst 0, 1) := by decide +kernel
theorem dX2_takes_72 : decode cX2_takes 72 = .ok (.iload_n 1, 1) := by decide +kernel
theorem dX2_takes_73 : decode cX2_takes 73 = .ok (.iconst 2, 1) := by decide +kernel
theorem dX2_takes_74 : decode cX2_takes 74 = .ok (.invokevirtual 56, 3) := by decide +kernel
theorem dX2_takes_77 : decode cX2_takes 77 = .ok (.ireturn, 1) := by decide +kernel
theorem dX2_takes_78 : decode cX2_takes 78 = .ok (.aload_n 0, 1) := by decide +kernel
theorem dX2_takes_79 : decode cX2_takes 79 = .ok (.iload_n 1, 1) := by decide +kernel
theorem dX2_takes_80 : decode cX2_takes 80 = .ok (.bipush 7, 2) := by decide +kernel
theorem dX2_takes_82 : decode cX2_takes 82 = .ok (.invokevirtual 60, 3) := by decide +kernel
theorem dX2_takes_85 : decode cX2_takes 85 = .ok (.ireturn, 1) := by decide +kernel
theorem dX2_takes_86 : decode cX2_takes 86 = .ok (.aload_n 0, 1) := by decide +kernel
theorem dX2_takes_87 : decode cX2_takes 87 = .ok (.iload_n 1, 1) := by decide +kernel
theorem dX2_takes_88 : decode cX2_takes 88 = .ok (.invokevirtual 64, 3) := by decide +kernel
theorem dX2_takes_91 : decode cX2_takes 91 = .ok (.ireturn, 1) := by decide +kernel
theorem dX2_takes_92 : decode cX2_takes 92 = .ok (.aload_n 0, 1) := by decide +kernel
theorem dX2_takes_93 : decode cX2_takes 93 = .ok (.iload_n 1, 1) := by decide +kernel
theorem dX2_takes_94 : decode cX2_takes 94 = .ok (.iconst 0, 1) := by decide +kernel
theorem dX2_takes_95 : decode cX2_takes 95 = .ok (.invokevirtual 60, 3) := by decide +kernel
theorem dX2_takes_98 : decode cX2_takes 98 = .ok (.ireturn, 1) := by decide +kernel
theorem dX2_takes_99 : decode cX2_takes 99 = .ok (.aload_n 0, 1) := by decide +kernel
theorem dX2_takes_100 : decode cX2_takes 100 = .ok (.iload_n 1, 1) := by decide +kernel
theorem dX2_takes_101 : decode cX2_takes 101 = .ok (.invokestatic 67, 3) := by decide +kernel
theorem dX2_takes_104 : decode cX2_takes 104 = .ok (.iload_n 1, 1) := by decide +kernel
theorem dX2_takes_105 : decode cX2_takes 105 = .ok (.iconst 0, 1) := by decide +kernel
theorem dX2_takes_106 : decode cX2_takes 106 = .ok (.invokevirtual 56, 3) := by decide +kernel
theorem dX2_takes_109 : decode cX2_takes 109 = .ok (.ireturn, 1) := by decide +kernel
theorem dX2_takes_110 : decode cX2_takes 110 = .ok (.aload_n 0, 1) := by decide +kernel
theorem dX2_takes_111 : decode cX2_takes 111 = .ok (.iload_n 1, 1) := by decide +kernel
theorem dX2_takes_112 : decode cX2_takes 112 = .ok (.invokevirtual 70, 3) := by decide +kernel
theorem dX2_takes_115 : decode cX2_takes 115 = .ok (.ireturn, 1) := by decide +kernel
theorem dX2_takes_116 : decode cX2_takes 116 = .ok (.iconst 0, 1) := by decide +kernel
theorem dX2_takes_117 : decode cX2_takes 117 = .ok (.ireturn, 1) := by decide +kernel
set_option maxRecDepth 20000 in
theorem ggX2_takesStart_X2_dueBehindStart : GoodIn wsX2_takesStart wsX2_dueBehindStart := goodIn_r _ [8] (by decide +kernel) (by decide +kernel)
set_option maxRecDepth 20000 in
theorem gX2_takesStart_X2_dueBehindStart : GoodIn wsX2_takesStart (va_wsS RX2 73 yX2_dueBehindStart wsX2_dueBehindStart) := goodIn_app (goodIn_of _ (by decide +kernel)) ggX2_takesStart_X2_dueBehindStart
set_option maxRecDepth 20000 in
theorem ggX2_takesStart_X0_add : GoodIn wsX2_takesStart wsX0_add := goodIn_r _ [13, 14, 15, 16, 17, 18, 12, 19, 29, 30, 31, 32, 33, 34, 35, 36, 37, 38, 39] (by decide +kernel) (by decide +kernel)
set_option maxRecDepth 20000 in
theorem gX2_takesStart_X0_add : GoodIn wsX2_takesStart (wsV RX2 77 RX0 yX0_add wsX0_add) := goodIn_app (goodIn_of _ (by decide +kernel)) ggX2_takesStart_X0_add
set_option maxRecDepth 20000 in
theorem ggX2_takesStart_X2_isVariable : GoodIn wsX2_takesStart wsX2_isVariable := goodIn_r _ [22] (by decide +kernel) (by decide +kernel)
set_option maxRecDepth 20000 in
theorem gX2_takesStart_X2_isVariable : GoodIn wsX2_takesStart (va_wsS RX2 80 yX2_isVariable wsX2_isVariable) := goodIn_app (goodIn_of _ (by decide +kernel)) ggX2_takesStart_X2_isVariable
theorem dX2_takesStart_0 : decode cX2_takesStart 0 = .ok (.iload_n 1, 1) := by decide +kernel
theorem dX2_takesStart_1 : decode cX2_takesStart 1 = .ok (.invokestatic 73, 3) := by decide +kernel
theorem dX2_takesStart_4 : decode cX2_takesStart 4 = .ok (.istore_n 2, 1) := by decide +kernel
theorem dX2_takesStart_5 : decode cX2_takesStart 5 = .ok (.iload_n 2, 1) := by decide +kernel
theorem dX2_takesStart_6 : decode cX2_takesStart 6 = .ok (.bipush 7, 2) := by decide +kernel
theorem dX2_takesStart_8 : decode cX2_takesStart 8 = .ok (.if_icmp .ne 5, 3) := by decide +kernel
theorem dX2_takesStart_11 : decode cX2_takesStart 11 = .ok (.iconst 0, 1) := by decide +kernel
theorem dX2_takesStart_12 : decode cX2_takesStart 12 = .ok (.ireturn, 1) := by decide +kernel
theorem dX2_takesStart_13 : decode cX2_takesStart 13 = .ok (.aload_n 0, 1) := by decide +kernel
theorem dX2_takesStart_14 : decode cX2_takesStart 14 = .ok (.getfield 12, 3) := by decide +kernel
theorem dX2_takesStart_17 : decode cX2_takesStart 17 = .ok (.iload_n 1, 1) := by decide +kernel
theorem dX2_takesStart_18 : decode cX2_takesStart 18 = .ok (.invokevirtual 77, 3) := by decide +kernel
theorem dX2_takesStart_21 : decode cX2_takesStart 21 = .ok (.istore_n 3, 1) := by decide +kernel
theorem dX2_takesStart_22 : decode cX2_takesStart 22 = .ok (.aload_n 0, 1) := by decide +kernel
theorem dX2_takesStart_23 : decode cX2_takesStart 23 = .ok (.getfield 18, 3) := by decide +kernel
theorem dX2_takesStart_26 : decode cX2_takesStart 26 = .ok (.iload_n 3, 1) := by decide +kernel
theorem dX2_takesStart_27 : decode cX2_takesStart 27 = .ok (.aload_n 0, 1) := by decide +kernel
theorem dX2_takesStart_28 : decode cX2_takesStart 28 = .ok (.getfield 32, 3) := by decide +kernel
theorem dX2_takesStart_31 : decode cX2_takesStart 31 = .ok (.iastore, 1) := by decide +kernel
theorem dX2_takesStart_32 : decode cX2_takesStart 32 = .ok (.aload_n 0, 1) := by decide +kernel
theorem dX2_takesStart_33 : decode cX2_takesStart 33 = .ok (.iload_n 3, 1) := by decide +kernel
theorem dX2_takesStart_34 : decode cX2_takesStart 34 = .ok (.putfield 32, 3) := by decide +kernel
theorem dX2_takesStart_37 : decode cX2_takesStart 37 = .ok (.iload_n 1, 1) := by decide +kernel
theorem dX2_takesStart_38 : decode cX2_takesStart 38 = .ok (.invokestatic 80, 3) := by decide +kernel
theorem dX2_takesStart_41 : decode cX2_takesStart 41 = .ok (.ifCond .eq 16, 3) := by decide +kernel
theorem dX2_takesStart_44 : decode cX2_takesStart 44 = .ok (.aload_n 0, 1) := by decide +kernel
theorem dX2_takesStart_45 : decode cX2_takesStart 45 = .ok (.getfield 12, 3) := by decide +kernel
theorem dX2_takesStart_48 : decode cX2_takesStart 48 = .ok (.getfield 83, 3) := by decide +kernel
theorem dX2_takesStart_51 : decode cX2_takesStart 51 = .ok (.iload_n 3, 1) := by decide +kernel
theorem dX2_takesStart_52 : decode cX2_takesStart 52 = .ok (.iload_n 1, 1) := by decide +kernel
theorem dX2_takesStart_53 : decode cX2_takesStart 53 = .ok (.bipush 120, 2) := by decide +kernel
theorem dX2_takesStart_55 : decode cX2_takesStart 55 = .ok (.isub, 1) := by decide +kernel
theorem dX2_takesStart_56 : decode cX2_takesStart 56 = .ok (.iastore, 1) := by decide +kernel
theorem dX2_takesStart_57 : decode cX2_takesStart 57 = .ok (.aload_n 0, 1) := by decide +kernel
theorem dX2_takesStart_58 : decode cX2_takesStart 58 = .ok (.iload_n 2, 1) := by decide +kernel
theorem dX2_takesStart_59 : decode cX2_takesStart 59 = .ok (.putfield 29, 3) := by decide +kernel
theorem dX2_takesStart_62 : decode cX2_takesStart 62 = .ok (.iconst 1, 1) := by decide +kernel
theorem dX2_takesStart_63 : decode cX2_takesStart 63 = .ok (.ireturn, 1) := by decide +kernel
theorem dX2_dueBehindStart_0 : decode cX2_dueBehindStart 0 = .ok (.iload_n 0, 1) := by decide +kernel
theorem dX2_dueBehindStart_1 : decode cX2_dueBehindStart 1 = .ok (.lookupswitch 89 #[(33, 85), (40, 85), (65, 87), (69, 87), (97, 87), (101, 87), (120, 83), (121, 83), (122, 83)], 83) := by decide +kernel
theorem dX2_dueBehindStart_84 : decode cX2_dueBehindStart 84 = .ok (.iconst 1, 1) := by decide +kernel
theorem dX2_dueBehindStart_85 : decode cX2_dueBehindStart 85 = .ok (.ireturn, 1) := by decide +kernel
theorem dX2_dueBehindStart_86 : decode cX2_dueBehindStart 86 = .ok (.iconst 0, 1) := by decide +kernel
theorem dX2_dueBehindStart_87 : decode cX2_dueBehindStart 87 = .ok (.ireturn, 1) := by decide +kernel
theorem dX2_dueBehindStart_88 : decode cX2_dueBehindStart 88 = .ok (.iconst 3, 1) := by decide +kernel
theorem dX2_dueBehindStart_89 : decode cX2_dueBehindStart 89 = .ok (.ireturn, 1) := by decide +kernel
theorem dX2_dueBehindStart_90 : decode cX2_dueBehindStart 90 = .ok (.bipush 7, 2) := by decide +kernel
theorem dX2_dueBehindStart_92 : decode cX2_dueBehindStart 92 = .ok (.ireturn, 1) := by decide +kernel
theorem dX2_takesKind_0 : decode cX2_takesKind 0 = .ok (.iload_n 1, 1) := by decide +kernel
theorem dX2_takesKind_1 : decode cX2_takesKind 1 = .ok (.ifCond .eq 21, 3) := by decide +kernel
theorem dX2_takesKind_4 : decode cX2_takesKind 4 = .ok (.aload_n 0, 1) := by decide +kernel
theorem dX2_takesKind_5 : decode cX2_takesKind 5 = .ok (.getfield 12, 3) := by decide +kernel
theorem dX2_takesKind_8 : decode cX2_takesKind 8 = .ok (.getfield 86, 3) := by decide +kernel
theorem dX2_takesKind_11 : decode cX2_takesKind 11 = .ok (.aload_n 0, 1) := by decide +kernel
theorem dX2_takesKind_12 : decode cX2_takesKind 12 = .ok (.getfield 32, 3) := by decide +kernel
theorem dX2_takesKind_15 : decode cX2_takesKind 15 = .ok (.iload_n 2, 1) := by decide +kernel
theorem dX2_takesKind_16 : decode cX2_takesKind 16 = .ok (.castore, 1) := by decide +kernel
theorem dX2_takesKind_17 : decode cX2_takesKind 17 = .ok (.aload_n 0, 1) := by decide +kernel
theorem dX2_takesKind_18 : decode cX2_takesKind 18 = .ok (.iload_n 3, 1) := by decide +kernel
theorem dX2_takesKind_19 : decode cX2_takesKind 19 = .ok (.putfield 29, 3) := by decide +kernel
theorem dX2_takesKind_22 : decode cX2_takesKind 22 = .ok (.iload_n 1, 1) := by decide +kernel
theorem dX2_takesKind_23 : decode cX2_takesKind 23 = .ok (.ireturn, 1) := by decide +kernel
set_option maxRecDepth 20000 in
theorem ggX2_takesVariable_X2_isVariable : GoodIn wsX2_takesVariable wsX2_isVariable := goodIn_r _ [7] (by decide +kernel) (by decide +kernel)
set_option maxRecDepth 20000 in
theorem gX2_takesVariable_X2_isVariable : GoodIn wsX2_takesVariable (va_wsS RX2 80 yX2_isVariable wsX2_isVariable) := goodIn_app (goodIn_of _ (by decide +kernel)) ggX2_takesVariable_X2_isVariable
set_option maxRecDepth 20000 in
theorem ggX2_takesVariable_X0_isBounded : GoodIn wsX2_takesVariable wsX0_isBounded := goodIn_r _ [11] (by decide +kernel) (by decide +kernel)
set_option maxRecDepth 20000 in
theorem gX2_takesVariable_X0_isBounded : GoodIn wsX2_takesVariable (va_wsS RX2 90 yX0_isBounded wsX0_isBounded) := goodIn_app (goodIn_of _ (by decide +kernel)) ggX2_takesVariable_X0_isBounded
theorem dX2_takesVariable_0 : decode cX2_takesVariable 0 = .ok (.iload_n 1, 1) := by decide +kernel
theorem dX2_takesVariable_1 : decode cX2_takesVariable 1 = .ok (.invokestatic 80, 3) := by decide +kernel
theorem dX2_takesVariable_4 : decode cX2_takesVariable 4 = .ok (.ifCond .ne 5, 3) := by decide +kernel
theorem dX2_takesVariable_7 : decode cX2_takesVariable 7 = .ok (.iconst 0, 1) := by decide +kernel
theorem dX2_takesVariable_8 : decode cX2_takesVariable 8 = .ok (.ireturn, 1) := by decide +kernel
theorem dX2_takesVariable_9 : decode cX2_takesVariable 9 = .ok (.aload_n 0, 1) := by decide +kernel
theorem dX2_takesVariable_10 : decode cX2_takesVariable 10 = .ok (.getfield 12, 3) := by decide +kernel
theorem dX2_takesVariable_13 : decode cX2_takesVariable 13 = .ok (.getfield 83, 3) := by decide +kernel
theorem dX2_takesVariable_16 : decode cX2_takesVariable 16 = .ok (.aload_n 0, 1) := by decide +kernel
theorem dX2_takesVariable_17 : decode cX2_takesVariable 17 = .ok (.getfield 32, 3) := by decide +kernel
theorem dX2_takesVariable_20 : decode cX2_takesVariable 20 = .ok (.iload_n 1, 1) := by decide +kernel
theorem dX2_takesVariable_21 : decode cX2_takesVariable 21 = .ok (.bipush 120, 2) := by decide +kernel
theorem dX2_takesVariable_23 : decode cX2_takesVariable 23 = .ok (.isub, 1) := by decide +kernel
theorem dX2_takesVariable_24 : decode cX2_takesVariable 24 = .ok (.iastore, 1) := by decide +kernel
theorem dX2_takesVariable_25 : decode cX2_takesVariable 25 = .ok (.aload_n 0, 1) := by decide +kernel
theorem dX2_takesVariable_26 : decode cX2_takesVariable 26 = .ok (.aload_n 0, 1) := by decide +kernel
theorem dX2_takesVariable_27 : decode cX2_takesVariable 27 = .ok (.getfield 12, 3) := by decide +kernel
theorem dX2_takesVariable_30 : decode cX2_takesVariable 30 = .ok (.getfield 86, 3) := by decide +kernel
theorem dX2_takesVariable_33 : decode cX2_takesVariable 33 = .ok (.aload_n 0, 1) := by decide +kernel
theorem dX2_takesVariable_34 : decode cX2_takesVariable 34 = .ok (.getfield 32, 3) := by decide +kernel
theorem dX2_takesVariable_37 : decode cX2_takesVariable 37 = .ok (.caload, 1) := by decide +kernel
theorem dX2_takesVariable_38 : decode cX2_takesVariable 38 = .ok (.invokestatic 90, 3) := by decide +kernel
theorem dX2_takesVariable_41 : decode cX2_takesVariable 41 = .ok (.ifCond .eq 7, 3) := by decide +kernel
theorem dX2_takesVariable_44 : decode cX2_takesVariable 44 = .ok (.iconst 4, 1) := by decide +kernel
theorem dX2_takesVariable_45 : decode cX2_takesVariable 45 = .ok (.goto 4, 3) := by decide +kernel
theorem dX2_takesVariable_48 : decode cX2_takesVariable 48 = .ok (.iconst 0, 1) := by decide +kernel
theorem dX2_takesVariable_49 : decode cX2_takesVariable 49 = .ok (.putfield 29, 3) := by decide +kernel
theorem dX2_takesVariable_52 : decode cX2_takesVariable 52 = .ok (.iconst 1, 1) := by decide +kernel
theorem dX2_takesVariable_53 : decode cX2_takesVariable 53 = .ok (.ireturn, 1) := by decide +kernel
set_option maxRecDepth 20000 in
theorem ggX2_takesLimit_X2_isVariable : GoodIn wsX2_takesLimit wsX2_isVariable := goodIn_r _ [7] (by decide +kernel) (by decide +kernel)
set_option maxRecDepth 20000 in
theorem gX2_takesLimit_X2_isVariable : GoodIn wsX2_takesLimit (va_wsS RX2 80 yX2_isVariable wsX2_isVariable) := goodIn_app (goodIn_of _ (by decide +kernel)) ggX2_takesLimit_X2_isVariable
theorem dX2_takesLimit_0 : decode cX2_takesLimit 0 = .ok (.iload_n 1, 1) := by decide +kernel
theorem dX2_takesLimit_1 : decode cX2_takesLimit 1 = .ok (.invokestatic 80, 3) := by decide +kernel
theorem dX2_takesLimit_4 : decode cX2_takesLimit 4 = .ok (.ifCond .ne 5, 3) := by decide +kernel
theorem dX2_takesLimit_7 : decode cX2_takesLimit 7 = .ok (.iconst 0, 1) := by decide +kernel
theorem dX2_takesLimit_8 : decode cX2_takesLimit 8 = .ok (.ireturn, 1) := by decide +kernel
theorem dX2_takesLimit_9 : decode cX2_takesLimit 9 = .ok (.aload_n 0, 1) := by decide +kernel
theorem dX2_takesLimit_10 : decode cX2_takesLimit 10 = .ok (.getfield 12, 3) := by decide +kernel
theorem dX2_takesLimit_13 : decode cX2_takesLimit 13 = .ok (.getfield 93, 3) := by decide +kernel
theorem dX2_takesLimit_16 : decode cX2_takesLimit 16 = .ok (.aload_n 0, 1) := by decide +kernel
theorem dX2_takesLimit_17 : decode cX2_takesLimit 17 = .ok (.getfield 32, 3) := by decide +kernel
theorem dX2_takesLimit_20 : decode cX2_takesLimit 20 = .ok (.iload_n 1, 1) := by decide +kernel
theorem dX2_takesLimit_21 : decode cX2_takesLimit 21 = .ok (.bipush 120, 2) := by decide +kernel
theorem dX2_takesLimit_23 : decode cX2_takesLimit 23 = .ok (.isub, 1) := by decide +kernel
theorem dX2_takesLimit_24 : decode cX2_takesLimit 24 = .ok (.iastore, 1) := by decide +kernel
theorem dX2_takesLimit_25 : decode cX2_takesLimit 25 = .ok (.aload_n 0, 1) := by decide +kernel
theorem dX2_takesLimit_26 : decode cX2_takesLimit 26 = .ok (.iload_n 2, 1) := by decide +kernel
theorem dX2_takesLimit_27 : decode cX2_takesLimit 27 = .ok (.putfield 29, 3) := by decide +kernel
theorem dX2_takesLimit_30 : decode cX2_takesLimit 30 = .ok (.iconst 1, 1) := by decide +kernel
theorem dX2_takesLimit_31 : decode cX2_takesLimit 31 = .ok (.ireturn, 1) := by decide +kernel
theorem dX2_takesClose_0 : decode cX2_takesClose 0 = .ok (.iload_n 1, 1) := by decide +kernel
theorem dX2_takesClose_1 : decode cX2_takesClose 1 = .ok (.bipush 41, 2) := by decide +kernel
theorem dX2_takesClose_3 : decode cX2_takesClose 3 = .ok (.if_icmp .eq 5, 3) := by decide +kernel
theorem dX2_takesClose_6 : decode cX2_takesClose 6 = .ok (.iconst 0, 1) := by decide +kernel
theorem dX2_takesClose_7 : decode cX2_takesClose 7 = .ok (.ireturn, 1) := by decide +kernel
theorem dX2_takesClose_8 : decode cX2_takesClose 8 = .ok (.aload_n 0, 1) := by decide +kernel
theorem dX2_takesClose_9 : decode cX2_takesClose 9 = .ok (.bipush 7, 2) := by decide +kernel
theorem dX2_takesClose_11 : decode cX2_takesClose 11 = .ok (.putfield 29, 3) := by decide +kernel
theorem dX2_takesClose_14 : decode cX2_takesClose 14 = .ok (.iconst 1, 1) := by decide +kernel
theorem dX2_takesClose_15 : decode cX2_takesClose 15 = .ok (.ireturn, 1) := by decide +kernel
set_option maxRecDepth 20000 in
theorem ggX2_finish_X0_weigh : GoodIn wsX2_finish wsX0_weigh := goodIn_r _ [9, 10, 11, 12, 13, 14, 15, 16, 17, 18, 19, 8, 20, 21, 22, 23, 24, 25, 26, 27, 28, 29, 30, 31, 32, 33, 34, 35, 36, 37, 38, 39, 40, 41, 42, 43, 44, 45, 58, 59, 60, 61, 62, 63, 64, 65, 66, 67, 68] (by decide +kernel) (by decide +kernel)
set_option maxRecDepth 20000 in
theorem gX2_finish_X0_weigh : GoodIn wsX2_finish (wsV RX2 96 RX0 yX0_weigh wsX0_weigh) := goodIn_app (goodIn_of _ (by decide +kernel)) ggX2_finish_X0_weigh
set_option maxRecDepth 20000 in
theorem ggX2_finish_X2_dueBehindPart : GoodIn wsX2_finish wsX2_dueBehindPart := goodIn_r _ [50, 3, 1, 51, 29, 8, 30, 52, 53, 54, 55, 56, 57, 58, 59, 60, 61, 62, 63, 64, 65, 66, 67, 68] (by decide +kernel) (by decide +kernel)
set_option maxRecDepth 20000 in
theorem gX2_finish_X2_dueBehindPart : GoodIn wsX2_finish (wsV RX2 100 RX2 yX2_dueBehindPart wsX2_dueBehindPart) := goodIn_app (goodIn_of _ (by decide +kernel)) ggX2_finish_X2_dueBehindPart
theorem dX2_finish_0 : decode cX2_finish 0 = .ok (.aload_n 0, 1) := by decide +kernel
theorem dX2_finish_1 : decode cX2_finish 1 = .ok (.getfield 32, 3) := by decide +kernel
theorem dX2_finish_4 : decode cX2_finish 4 = .ok (.istore_n 1, 1) := by decide +kernel
theorem dX2_finish_5 : decode cX2_finish 5 = .ok (.iconst 0, 1) := by decide +kernel
theorem dX2_finish_6 : decode cX2_finish 6 = .ok (.istore_n 2, 1) := by decide +kernel
theorem dX2_finish_7 : decode cX2_finish 7 = .ok (.iload_n 2, 1) := by decide +kernel
theorem dX2_finish_8 : decode cX2_finish 8 = .ok (.bipush 40, 2) := by decide +kernel
theorem dX2_finish_10 : decode cX2_finish 10 = .ok (.if_icmp .ge 59, 3) := by decide +kernel
theorem dX2_finish_13 : decode cX2_finish 13 = .ok (.aload_n 0, 1) := by decide +kernel
theorem dX2_finish_14 : decode cX2_finish 14 = .ok (.getfield 29, 3) := by decide +kernel
theorem dX2_finish_17 : decode cX2_finish 17 = .ok (.bipush 7, 2) := by decide +kernel
theorem dX2_finish_19 : decode cX2_finish 19 = .ok (.if_icmp .ne 50, 3) := by decide +kernel
theorem dX2_finish_22 : decode cX2_finish 22 = .ok (.aload_n 0, 1) := by decide +kernel
theorem dX2_finish_23 : decode cX2_finish 23 = .ok (.getfield 12, 3) := by decide +kernel
theorem dX2_finish_26 : decode cX2_finish 26 = .ok (.iload_n 1, 1) := by decide +kernel
theorem dX2_finish_27 : decode cX2_finish 27 = .ok (.invokevirtual 96, 3) := by decide +kernel
theorem dX2_finish_30 : decode cX2_finish 30 = .ok (.aload_n 0, 1) := by decide +kernel
theorem dX2_finish_31 : decode cX2_finish 31 = .ok (.aload_n 0, 1) := by decide +kernel
theorem dX2_finish_32 : decode cX2_finish 32 = .ok (.getfield 18, 3) := by decide +kernel
theorem dX2_finish_35 : decode cX2_finish 35 = .ok (.iload_n 1, 1) := by decide +kernel
theorem dX2_finish_36 : decode cX2_finish 36 = .ok (.iaload, 1) := by decide +kernel
theorem dX2_finish_37 : decode cX2_finish 37 = .ok (.putfield 32, 3) := by decide +kernel
theorem dX2_finish_40 : decode cX2_finish 40 = .ok (.aload_n 0, 1) := by decide +kernel
theorem dX2_finish_41 : decode cX2_finish 41 = .ok (.getfield 32, 3) := by decide +kernel
theorem dX2_finish_44 : decode cX2_finish 44 = .ok (.iconst (-1), 1) := by decide +kernel
theorem dX2_finish_45 : decode cX2_finish 45 = .ok (.if_icmp .ne 4, 3) := by decide +kernel
theorem dX2_finish_48 : decode cX2_finish 48 = .ok (.return_, 1) := by decide +kernel
theorem dX2_finish_49 : decode cX2_finish 49 = .ok (.aload_n 0, 1) := by decide +kernel
theorem dX2_finish_50 : decode cX2_finish 50 = .ok (.aload_n 0, 1) := by decide +kernel
theorem dX2_finish_51 : decode cX2_finish 51 = .ok (.iload_n 1, 1) := by decide +kernel
theorem dX2_finish_52 : decode cX2_finish 52 = .ok (.invokevirtual 100, 3) := by decide +kernel
theorem dX2_finish_55 : decode cX2_finish 55 = .ok (.putfield 29, 3) := by decide +kernel
theorem dX2_finish_58 : decode cX2_finish 58 = .ok (.aload_n 0, 1) := by decide +kernel
theorem dX2_finish_59 : decode cX2_finish 59 = .ok (.getfield 32, 3) := by decide +kernel
theorem dX2_finish_62 : decode cX2_finish 62 = .ok (.istore_n 1, 1) := by decide +kernel
theorem dX2_finish_63 : decode cX2_finish 63 = .ok (.iinc 2 1, 3) := by decide +kernel
theorem dX2_finish_66 : decode cX2_finish 66 = .ok (.goto (-59), 3) := by decide +kernel
theorem dX2_finish_69 : decode cX2_finish 69 = .ok (.return_, 1) := by decide +kernel
set_option maxRecDepth 20000 in
theorem ggX2_dueBehindPart_X0_isOperator : GoodIn wsX2_dueBehindPart wsX0_isOperator := goodIn_r _ [6] (by decide +kernel) (by decide +kernel)
set_option maxRecDepth 20000 in
theorem gX2_dueBehindPart_X0_isOperator : GoodIn wsX2_dueBehindPart (va_wsS RX2 67 yX0_isOperator wsX0_isOperator) := goodIn_app (goodIn_of _ (by decide +kernel)) ggX2_dueBehindPart_X0_isOperator
theorem dX2_dueBehindPart_0 : decode cX2_dueBehindPart 0 = .ok (.aload_n 0, 1) := by decide +kernel
theorem dX2_dueBehindPart_1 : decode cX2_dueBehindPart 1 = .ok (.getfield 12, 3) := by decide +kernel
theorem dX2_dueBehindPart_4 : decode cX2_dueBehindPart 4 = .ok (.getfield 86, 3) := by decide +kernel
theorem dX2_dueBehindPart_7 : decode cX2_dueBehindPart 7 = .ok (.aload_n 0, 1) := by decide +kernel
theorem dX2_dueBehindPart_8 : decode cX2_dueBehindPart 8 = .ok (.getfield 32, 3) := by decide +kernel
theorem dX2_dueBehindPart_11 : decode cX2_dueBehindPart 11 = .ok (.caload, 1) := by decide +kernel
theorem dX2_dueBehindPart_12 : decode cX2_dueBehindPart 12 = .ok (.invokestatic 67, 3) := by decide +kernel
theorem dX2_dueBehindPart_15 : decode cX2_dueBehindPart 15 = .ok (.ifCond .eq 19, 3) := by decide +kernel
theorem dX2_dueBehindPart_18 : decode cX2_dueBehindPart 18 = .ok (.aload_n 0, 1) := by decide +kernel
theorem dX2_dueBehindPart_19 : decode cX2_dueBehindPart 19 = .ok (.getfield 12, 3) := by decide +kernel
theorem dX2_dueBehindPart_22 : decode cX2_dueBehindPart 22 = .ok (.getfield 103, 3) := by decide +kernel
theorem dX2_dueBehindPart_25 : decode cX2_dueBehindPart 25 = .ok (.aload_n 0, 1) := by decide +kernel
theorem dX2_dueBehindPart_26 : decode cX2_dueBehindPart 26 = .ok (.getfield 32, 3) := by decide +kernel
theorem dX2_dueBehindPart_29 : decode cX2_dueBehindPart 29 = .ok (.iload_n 1, 1) := by decide +kernel
theorem dX2_dueBehindPart_30 : decode cX2_dueBehindPart 30 = .ok (.iastore, 1) := by decide +kernel
theorem dX2_dueBehindPart_31 : decode cX2_dueBehindPart 31 = .ok (.bipush 6, 2) := by decide +kernel
theorem dX2_dueBehindPart_33 : decode cX2_dueBehindPart 33 = .ok (.ireturn, 1) := by decide +kernel
theorem dX2_dueBehindPart_34 : decode cX2_dueBehindPart 34 = .ok (.aload_n 0, 1) := by decide +kernel
theorem dX2_dueBehindPart_35 : decode cX2_dueBehindPart 35 = .ok (.getfield 12, 3) := by decide +kernel
theorem dX2_dueBehindPart_38 : decode cX2_dueBehindPart 38 = .ok (.getfield 106, 3) := by decide +kernel
theorem dX2_dueBehindPart_41 : decode cX2_dueBehindPart 41 = .ok (.aload_n 0, 1) := by decide +kernel
theorem dX2_dueBehindPart_42 : decode cX2_dueBehindPart 42 = .ok (.getfield 32, 3) := by decide +kernel
theorem dX2_dueBehindPart_45 : decode cX2_dueBehindPart 45 = .ok (.iload_n 1, 1) := by decide +kernel
theorem dX2_dueBehindPart_46 : decode cX2_dueBehindPart 46 = .ok (.iastore, 1) := by decide +kernel
theorem dX2_dueBehindPart_47 : decode cX2_dueBehindPart 47 = .ok (.aload_n 0, 1) := by decide +kernel
theorem dX2_dueBehindPart_48 : decode cX2_dueBehindPart 48 = .ok (.getfield 12, 3) := by decide +kernel
theorem dX2_dueBehindPart_51 : decode cX2_dueBehindPart 51 = .ok (.getfield 86, 3) := by decide +kernel
theorem dX2_dueBehindPart_54 : decode cX2_dueBehindPart 54 = .ok (.aload_n 0, 1) := by decide +kernel
theorem dX2_dueBehindPart_55 : decode cX2_dueBehindPart 55 = .ok (.getfield 32, 3) := by decide +kernel
theorem dX2_dueBehindPart_58 : decode cX2_dueBehindPart 58 = .ok (.caload, 1) := by decide +kernel
theorem dX2_dueBehindPart_59 : decode cX2_dueBehindPart 59 = .ok (.bipush 40, 2) := by decide +kernel
theorem dX2_dueBehindPart_61 : decode cX2_dueBehindPart 61 = .ok (.if_icmp .ne 7, 3) := by decide +kernel
theorem dX2_dueBehindPart_64 : decode cX2_dueBehindPart 64 = .ok (.iconst 5, 1) := by decide +kernel
theorem dX2_dueBehindPart_65 : decode cX2_dueBehindPart 65 = .ok (.goto 5, 3) := by decide +kernel
theorem dX2_dueBehindPart_68 : decode cX2_dueBehindPart 68 = .ok (.bipush 7, 2) := by decide +kernel
theorem dX2_dueBehindPart_70 : decode cX2_dueBehindPart 70 = .ok (.ireturn, 1) := by decide +kernel
theorem dX2_isVariable_0 : decode cX2_isVariable 0 = .ok (.iload_n 0, 1) := by decide +kernel
theorem dX2_isVariable_1 : decode cX2_isVariable 1 = .ok (.bipush 120, 2) := by decide +kernel
theorem dX2_isVariable_3 : decode cX2_isVariable 3 = .ok (.if_icmp .lt 13, 3) := by decide +kernel
theorem dX2_isVariable_6 : decode cX2_isVariable 6 = .ok (.iload_n 0, 1) := by decide +kernel
theorem dX2_isVariable_7 : decode cX2_isVariable 7 = .ok (.bipush 122, 2) := by decide +kernel
theorem dX2_isVariable_9 : decode cX2_isVariable 9 = .ok (.if_icmp .gt 7, 3) := by decide +kernel
theorem dX2_isVariable_12 : decode cX2_isVariable 12 = .ok (.iconst 1, 1) := by decide +kernel
theorem dX2_isVariable_13 : decode cX2_isVariable 13 = .ok (.goto 4, 3) := by decide +kernel
theorem dX2_isVariable_16 : decode cX2_isVariable 16 = .ok (.iconst 0, 1) := by decide +kernel
theorem dX2_isVariable_17 : decode cX2_isVariable 17 = .ok (.ireturn, 1) := by decide +kernel
