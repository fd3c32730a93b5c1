set_option maxRecDepth 20000 in
theorem ggX5_init_X2_init : GoodIn wsX5_init wsX2_init := goodIn_r _ [17, 18, 2, 3, 19, 20, 21, 22, 23, 24, 25, 26, 27, 28, 29, 30, 31, 32, 33, 34, 35, 36, 37, 38, 39, 40, 41, 42, 43, 44, 92, 93, 94, 95, 96, 97, 98, 99, 100, 101, 102, 67, 68, 69, 70, 71, 72] (by decide +kernel) (by decide +kernel)
set_option maxRecDepth 20000 in
theorem gX5_init_X2_init_n9 : GoodIn wsX5_init (wsX2_init) := ggX5_init_X2_init
set_option maxRecDepth 20000 in
theorem ggX5_init_X4_init : GoodIn wsX5_init wsX4_init := goodIn_r _ [46, 47, 2, 3, 23, 48, 49, 50, 51, 52, 53, 54, 55, 56, 76, 77, 78, 79, 80, 81, 82, 83, 84] (by decide +kernel) (by decide +kernel)
set_option maxRecDepth 20000 in
theorem gX5_init_X4_init_n18 : GoodIn wsX5_init (wsX4_init) := ggX5_init_X4_init
set_option maxRecDepth 20000 in
theorem ggX5_init_X3_init : GoodIn wsX5_init wsX3_init := goodIn_r _ [58, 59, 2, 3, 23, 60, 61, 62, 63, 64, 65, 66, 85, 86, 87, 88, 89, 90, 91] (by decide +kernel) (by decide +kernel)
set_option maxRecDepth 20000 in
theorem gX5_init_X3_init_n25 : GoodIn wsX5_init (wsX3_init) := ggX5_init_X3_init
theorem dX5_init_0 : decode cX5_init 0 = .ok (.aload_n 0, 1) := by decide +kernel
theorem dX5_init_1 : decode cX5_init 1 = .ok (.invokespecial 1, 3) := by decide +kernel
theorem dX5_init_4 : decode cX5_init 4 = .ok (.aload_n 0, 1) := by decide +kernel
theorem dX5_init_5 : decode cX5_init 5 = .ok (.new 7, 3) := by decide +kernel
theorem dX5_init_8 : decode cX5_init 8 = .ok (.dup, 1) := by decide +kernel
theorem dX5_init_9 : decode cX5_init 9 = .ok (.invokespecial 9, 3) := by decide +kernel
theorem dX5_init_12 : decode cX5_init 12 = .ok (.putfield 10, 3) := by decide +kernel
theorem dX5_init_15 : decode cX5_init 15 = .ok (.aload_n 0, 1) := by decide +kernel
theorem dX5_init_16 : decode cX5_init 16 = .ok (.new 16, 3) := by decide +kernel
theorem dX5_init_19 : decode cX5_init 19 = .ok (.dup, 1) := by decide +kernel
theorem dX5_init_20 : decode cX5_init 20 = .ok (.invokespecial 18, 3) := by decide +kernel
theorem dX5_init_23 : decode cX5_init 23 = .ok (.putfield 19, 3) := by decide +kernel
theorem dX5_init_26 : decode cX5_init 26 = .ok (.aload_n 0, 1) := by decide +kernel
theorem dX5_init_27 : decode cX5_init 27 = .ok (.new 23, 3) := by decide +kernel
theorem dX5_init_30 : decode cX5_init 30 = .ok (.dup, 1) := by decide +kernel
theorem dX5_init_31 : decode cX5_init 31 = .ok (.invokespecial 25, 3) := by decide +kernel
theorem dX5_init_34 : decode cX5_init 34 = .ok (.putfield 26, 3) := by decide +kernel
theorem dX5_init_37 : decode cX5_init 37 = .ok (.return_, 1) := by decide +kernel
set_option maxRecDepth 20000 in
theorem ggX5_letter_X2_isLetter : GoodIn wsX5_letter wsX2_isLetter := goodIn_r _ [9, 10, 11, 12, 13, 14, 15, 16, 17, 18, 19, 20, 21, 22, 23, 24, 25, 26, 27, 28, 29, 30, 31, 32, 33, 34, 35, 36, 37, 38, 39, 40, 41, 42, 43, 44, 45, 46, 47, 48, 49, 50, 51, 52, 53, 54, 55, 56, 57, 58, 59, 60, 61, 62, 63, 64, 65, 66, 67, 68, 69, 70, 71, 72, 73, 74, 75, 76, 77, 78, 79, 80, 81, 82, 83, 84, 85, 86, 87, 88, 89, 90, 91, 92, 93, 94, 95, 96, 97, 98] (by decide +kernel) (by decide +kernel)
set_option maxRecDepth 20000 in
theorem gX5_letter_X2_isLetter : GoodIn wsX5_letter (va_wsS RX5 30 yX2_isLetter wsX2_isLetter) := goodIn_app (goodIn_of _ (by decide +kernel)) ggX5_letter_X2_isLetter
set_option maxRecDepth 20000 in
theorem ggX5_letter_X2_isFull : GoodIn wsX5_letter wsX2_isFull := goodIn_r _ [102, 103, 201, 202, 203, 204, 205, 206] (by decide +kernel) (by decide +kernel)
set_option maxRecDepth 20000 in
theorem gX5_letter_X2_isFull : GoodIn wsX5_letter (wsV RX5 41 RX2 yX2_isFull wsX2_isFull) := goodIn_app (goodIn_of _ (by decide +kernel)) ggX5_letter_X2_isFull
set_option maxRecDepth 20000 in
theorem ggX5_letter_X2_type : GoodIn wsX5_letter wsX2_type := goodIn_r _ [107, 108, 103, 109, 110, 111, 112, 8, 113, 114, 115, 116, 117, 118, 119, 120, 121, 122, 123, 124, 125, 126, 127, 128, 129, 130, 131, 132, 133, 134, 135, 136, 137, 138, 139, 140, 141, 142, 143, 144, 145, 146, 147, 148, 149, 150, 151, 152, 153, 154, 155, 156, 157, 158, 159, 160, 161, 162, 163, 164, 165, 166, 167, 168, 169, 170, 171, 172, 173, 174, 175, 176, 177, 178, 179, 180, 181, 182, 183, 184, 185, 186, 187, 188, 39, 40, 41, 189, 190, 191, 192, 193, 43, 44, 194, 195, 196, 197, 201, 202, 203, 204, 205, 206, 207, 208, 209, 210, 211, 212, 213, 214, 215, 216, 217] (by decide +kernel) (by decide +kernel)
set_option maxRecDepth 20000 in
theorem gX5_letter_X2_type : GoodIn wsX5_letter (wsV RX5 50 RX2 yX2_type wsX2_type) := goodIn_app (goodIn_of _ (by decide +kernel)) ggX5_letter_X2_type
theorem dX5_letter_0 : decode cX5_letter 0 = .ok (.iload_n 1, 1) := by decide +kernel
theorem dX5_letter_1 : decode cX5_letter 1 = .ok (.invokestatic 30, 3) := by decide +kernel
theorem dX5_letter_4 : decode cX5_letter 4 = .ok (.ifCond .ne 13, 3) := by decide +kernel
theorem dX5_letter_7 : decode cX5_letter 7 = .ok (.new 34, 3) := by decide +kernel
theorem dX5_letter_10 : decode cX5_letter 10 = .ok (.dup, 1) := by decide +kernel
theorem dX5_letter_11 : decode cX5_letter 11 = .ok (.ldc 36, 2) := by decide +kernel
theorem dX5_letter_13 : decode cX5_letter 13 = .ok (.invokespecial 38, 3) := by decide +kernel
theorem dX5_letter_16 : decode cX5_letter 16 = .ok (.athrow, 1) := by decide +kernel
theorem dX5_letter_17 : decode cX5_letter 17 = .ok (.aload_n 0, 1) := by decide +kernel
theorem dX5_letter_18 : decode cX5_letter 18 = .ok (.getfield 10, 3) := by decide +kernel
theorem dX5_letter_21 : decode cX5_letter 21 = .ok (.invokevirtual 41, 3) := by decide +kernel
theorem dX5_letter_24 : decode cX5_letter 24 = .ok (.ifCond .eq 13, 3) := by decide +kernel
theorem dX5_letter_27 : decode cX5_letter 27 = .ok (.new 45, 3) := by decide +kernel
theorem dX5_letter_30 : decode cX5_letter 30 = .ok (.dup, 1) := by decide +kernel
theorem dX5_letter_31 : decode cX5_letter 31 = .ok (.ldc 47, 2) := by decide +kernel
theorem dX5_letter_33 : decode cX5_letter 33 = .ok (.invokespecial 49, 3) := by decide +kernel
theorem dX5_letter_36 : decode cX5_letter 36 = .ok (.athrow, 1) := by decide +kernel
theorem dX5_letter_37 : decode cX5_letter 37 = .ok (.aload_n 0, 1) := by decide +kernel
theorem dX5_letter_38 : decode cX5_letter 38 = .ok (.getfield 10, 3) := by decide +kernel
theorem dX5_letter_41 : decode cX5_letter 41 = .ok (.iload_n 1, 1) := by decide +kernel
theorem dX5_letter_42 : decode cX5_letter 42 = .ok (.invokevirtual 50, 3) := by decide +kernel
theorem dX5_letter_45 : decode cX5_letter 45 = .ok (.ireturn, 1) := by decide +kernel
set_option maxRecDepth 20000 in
theorem ggX5_blank_X2_wipe : GoodIn wsX5_blank wsX2_wipe := goodIn_r _ [6, 7, 8, 9, 10, 11, 12, 13, 14, 15, 16, 17, 18, 22, 23, 24, 25, 26, 27, 28, 29, 30, 31, 32, 33, 34, 35, 36, 37, 38] (by decide +kernel) (by decide +kernel)
set_option maxRecDepth 20000 in
theorem gX5_blank_X2_wipe : GoodIn wsX5_blank (wsV RX5 54 RX2 yX2_wipe wsX2_wipe) := goodIn_app (goodIn_of _ (by decide +kernel)) ggX5_blank_X2_wipe
theorem dX5_blank_0 : decode cX5_blank 0 = .ok (.aload_n 0, 1) := by decide +kernel
theorem dX5_blank_1 : decode cX5_blank 1 = .ok (.getfield 10, 3) := by decide +kernel
theorem dX5_blank_4 : decode cX5_blank 4 = .ok (.invokevirtual 54, 3) := by decide +kernel
theorem dX5_blank_7 : decode cX5_blank 7 = .ok (.ireturn, 1) := by decide +kernel
set_option maxRecDepth 20000 in
theorem ggX5_fault_X2_faultPlace : GoodIn wsX5_fault wsX2_faultPlace := goodIn_r _ [6, 7, 8, 12, 13, 14, 15, 16, 17] (by decide +kernel) (by decide +kernel)
set_option maxRecDepth 20000 in
theorem gX5_fault_X2_faultPlace : GoodIn wsX5_fault (wsV RX5 58 RX2 yX2_faultPlace wsX2_faultPlace) := goodIn_app (goodIn_of _ (by decide +kernel)) ggX5_fault_X2_faultPlace
theorem dX5_fault_0 : decode cX5_fault 0 = .ok (.aload_n 0, 1) := by decide +kernel
theorem dX5_fault_1 : decode cX5_fault 1 = .ok (.getfield 10, 3) := by decide +kernel
theorem dX5_fault_4 : decode cX5_fault 4 = .ok (.invokevirtual 58, 3) := by decide +kernel
theorem dX5_fault_7 : decode cX5_fault 7 = .ok (.ireturn, 1) := by decide +kernel
set_option maxRecDepth 20000 in
theorem ggX5_sigma_X2_isFormula : GoodIn wsX5_sigma wsX2_isFormula := goodIn_r _ [6, 7, 8, 18, 19, 20, 21, 22, 23] (by decide +kernel) (by decide +kernel)
set_option maxRecDepth 20000 in
theorem gX5_sigma_X2_isFormula : GoodIn wsX5_sigma (wsV RX5 61 RX2 yX2_isFormula wsX2_isFormula) := goodIn_app (goodIn_of _ (by decide +kernel)) ggX5_sigma_X2_isFormula
set_option maxRecDepth 20000 in
theorem ggX5_sigma_X0_wholeSigma : GoodIn wsX5_sigma wsX0_wholeSigma := goodIn_r _ [13, 14, 24, 25, 26, 27, 28, 29, 30, 31, 32, 33, 34] (by decide +kernel) (by decide +kernel)
set_option maxRecDepth 20000 in
theorem gX5_sigma_X0_wholeSigma : GoodIn wsX5_sigma (wsV RX5 68 RX0 yX0_wholeSigma wsX0_wholeSigma) := goodIn_app (goodIn_of _ (by decide +kernel)) ggX5_sigma_X0_wholeSigma
theorem dX5_sigma_0 : decode cX5_sigma 0 = .ok (.aload_n 0, 1) := by decide +kernel
theorem dX5_sigma_1 : decode cX5_sigma 1 = .ok (.getfield 10, 3) := by decide +kernel
theorem dX5_sigma_4 : decode cX5_sigma 4 = .ok (.invokevirtual 61, 3) := by decide +kernel
theorem dX5_sigma_7 : decode cX5_sigma 7 = .ok (.ifCond .eq 16, 3) := by decide +kernel
theorem dX5_sigma_10 : decode cX5_sigma 10 = .ok (.aload_n 0, 1) := by decide +kernel
theorem dX5_sigma_11 : decode cX5_sigma 11 = .ok (.getfield 10, 3) := by decide +kernel
theorem dX5_sigma_14 : decode cX5_sigma 14 = .ok (.getfield 64, 3) := by decide +kernel
theorem dX5_sigma_17 : decode cX5_sigma 17 = .ok (.invokevirtual 68, 3) := by decide +kernel
theorem dX5_sigma_20 : decode cX5_sigma 20 = .ok (.goto 4, 3) := by decide +kernel
theorem dX5_sigma_23 : decode cX5_sigma 23 = .ok (.iconst (-1), 1) := by decide +kernel
theorem dX5_sigma_24 : decode cX5_sigma 24 = .ok (.ireturn, 1) := by decide +kernel
set_option maxRecDepth 20000 in
theorem ggX5_pi_X2_isFormula : GoodIn wsX5_pi wsX2_isFormula := goodIn_r _ [6, 7, 8, 18, 19, 20, 21, 22, 23] (by decide +kernel) (by decide +kernel)
set_option maxRecDepth 20000 in
theorem gX5_pi_X2_isFormula : GoodIn wsX5_pi (wsV RX5 61 RX2 yX2_isFormula wsX2_isFormula) := goodIn_app (goodIn_of _ (by decide +kernel)) ggX5_pi_X2_isFormula
set_option maxRecDepth 20000 in
theorem ggX5_pi_X0_wholePi : GoodIn wsX5_pi wsX0_wholePi := goodIn_r _ [13, 14, 24, 25, 26, 27, 28, 29, 30, 31, 32, 33, 34] (by decide +kernel) (by decide +kernel)
set_option maxRecDepth 20000 in
theorem gX5_pi_X0_wholePi : GoodIn wsX5_pi (wsV RX5 73 RX0 yX0_wholePi wsX0_wholePi) := goodIn_app (goodIn_of _ (by decide +kernel)) ggX5_pi_X0_wholePi
theorem dX5_pi_0 : decode cX5_pi 0 = .ok (.aload_n 0, 1) := by decide +kernel
theorem dX5_pi_1 : decode cX5_pi 1 = .ok (.getfield 10, 3) := by decide +kernel
theorem dX5_pi_4 : decode cX5_pi 4 = .ok (.invokevirtual 61, 3) := by decide +kernel
theorem dX5_pi_7 : decode cX5_pi 7 = .ok (.ifCond .eq 16, 3) := by decide +kernel
theorem dX5_pi_10 : decode cX5_pi 10 = .ok (.aload_n 0, 1) := by decide +kernel
theorem dX5_pi_11 : decode cX5_pi 11 = .ok (.getfield 10, 3) := by decide +kernel
theorem dX5_pi_14 : decode cX5_pi 14 = .ok (.getfield 64, 3) := by decide +kernel
theorem dX5_pi_17 : decode cX5_pi 17 = .ok (.invokevirtual 73, 3) := by decide +kernel
theorem dX5_pi_20 : decode cX5_pi 20 = .ok (.goto 4, 3) := by decide +kernel
theorem dX5_pi_23 : decode cX5_pi 23 = .ok (.iconst (-1), 1) := by decide +kernel
theorem dX5_pi_24 : decode cX5_pi 24 = .ok (.ireturn, 1) := by decide +kernel
set_option maxRecDepth 20000 in
theorem ggX5_free_X2_isFormula : GoodIn wsX5_free wsX2_isFormula := goodIn_r _ [6, 7, 8, 18, 19, 20, 21, 22, 23] (by decide +kernel) (by decide +kernel)
set_option maxRecDepth 20000 in
theorem gX5_free_X2_isFormula : GoodIn wsX5_free (wsV RX5 61 RX2 yX2_isFormula wsX2_isFormula) := goodIn_app (goodIn_of _ (by decide +kernel)) ggX5_free_X2_isFormula
set_option maxRecDepth 20000 in
theorem ggX5_free_X0_wholeFree : GoodIn wsX5_free wsX0_wholeFree := goodIn_r _ [13, 14, 24, 25, 26, 27, 28, 29, 30, 31, 32, 33, 34] (by decide +kernel) (by decide +kernel)
set_option maxRecDepth 20000 in
theorem gX5_free_X0_wholeFree : GoodIn wsX5_free (wsV RX5 76 RX0 yX0_wholeFree wsX0_wholeFree) := goodIn_app (goodIn_of _ (by decide +kernel)) ggX5_free_X0_wholeFree
theorem dX5_free_0 : decode cX5_free 0 = .ok (.aload_n 0, 1) := by decide +kernel
theorem dX5_free_1 : decode cX5_free 1 = .ok (.getfield 10, 3) := by decide +kernel
theorem dX5_free_4 : decode cX5_free 4 = .ok (.invokevirtual 61, 3) := by decide +kernel
theorem dX5_free_7 : decode cX5_free 7 = .ok (.ifCond .eq 16, 3) := by decide +kernel
theorem dX5_free_10 : decode cX5_free 10 = .ok (.aload_n 0, 1) := by decide +kernel
theorem dX5_free_11 : decode cX5_free 11 = .ok (.getfield 10, 3) := by decide +kernel
theorem dX5_free_14 : decode cX5_free 14 = .ok (.getfield 64, 3) := by decide +kernel
theorem dX5_free_17 : decode cX5_free 17 = .ok (.invokevirtual 76, 3) := by decide +kernel
theorem dX5_free_20 : decode cX5_free 20 = .ok (.goto 4, 3) := by decide +kernel
theorem dX5_free_23 : decode cX5_free 23 = .ok (.iconst (-1), 1) := by decide +kernel
theorem dX5_free_24 : decode cX5_free 24 = .ok (.ireturn, 1) := by decide +kernel
set_option maxRecDepth 20000 in
theorem ggX5_isSo_X5_isBetween : GoodIn wsX5_isSo wsX5_isBetween := goodIn_r _ [9] (by decide +kernel) (by decide +kernel)
set_option maxRecDepth 20000 in
theorem gX5_isSo_X5_isBetween : GoodIn wsX5_isSo (va_wsS RX5 79 yX5_isBetween wsX5_isBetween) := goodIn_app (goodIn_of _ (by decide +kernel)) ggX5_isSo_X5_isBetween
set_option maxRecDepth 20000 in
theorem ggX5_isSo_X5_isBelow : GoodIn wsX5_isSo wsX5_isBelow := goodIn_r _ [12] (by decide +kernel) (by decide +kernel)
set_option maxRecDepth 20000 in
theorem gX5_isSo_X5_isBelow : GoodIn wsX5_isSo (va_wsS RX5 83 yX5_isBelow wsX5_isBelow) := goodIn_app (goodIn_of _ (by decide +kernel)) ggX5_isSo_X5_isBelow
set_option maxRecDepth 20000 in
theorem ggX5_isSo_X2_isFormula : GoodIn wsX5_isSo wsX2_isFormula := goodIn_r _ [17, 18, 19, 53, 54, 55, 56, 57, 58] (by decide +kernel) (by decide +kernel)
set_option maxRecDepth 20000 in
theorem gX5_isSo_X2_isFormula : GoodIn wsX5_isSo (wsV RX5 61 RX2 yX2_isFormula wsX2_isFormula) := goodIn_app (goodIn_of _ (by decide +kernel)) ggX5_isSo_X2_isFormula
set_option maxRecDepth 20000 in
theorem ggX5_isSo_X0_isTrue : GoodIn wsX5_isSo wsX0_isTrue := goodIn_r _ [24, 25, 26, 27, 28, 29, 23, 30, 31, 32, 33, 34, 35, 36, 37, 38, 39, 40, 41, 42, 43, 44, 45, 46, 47, 48, 49, 59, 60, 61, 62, 63, 64, 65, 66, 67, 68, 69] (by decide +kernel) (by decide +kernel)
set_option maxRecDepth 20000 in
theorem gX5_isSo_X0_isTrue : GoodIn wsX5_isSo (wsV RX5 95 RX0 yX0_isTrue wsX0_isTrue) := goodIn_app (goodIn_of _ (by decide +kernel)) ggX5_isSo_X0_isTrue
theorem dX5_isSo_0 : decode cX5_isSo 0 = .ok (.iconst 1, 1) := by decide +kernel
theorem dX5_isSo_1 : decode cX5_isSo 1 = .ok (.iload_n 1, 1) := by decide +kernel
theorem dX5_isSo_2 : decode cX5_isSo 2 = .ok (.iconst 5, 1) := by decide +kernel
theorem dX5_isSo_3 : decode cX5_isSo 3 = .ok (.invokestatic 79, 3) := by decide +kernel
theorem dX5_isSo_6 : decode cX5_isSo 6 = .ok (.ifCond .eq 28, 3) := by decide +kernel
theorem dX5_isSo_9 : decode cX5_isSo 9 = .ok (.iload_n 2, 1) := by decide +kernel
theorem dX5_isSo_10 : decode cX5_isSo 10 = .ok (.iload_n 1, 1) := by decide +kernel
theorem dX5_isSo_11 : decode cX5_isSo 11 = .ok (.invokestatic 83, 3) := by decide +kernel
theorem dX5_isSo_14 : decode cX5_isSo 14 = .ok (.ifCond .eq 20, 3) := by decide +kernel
theorem dX5_isSo_17 : decode cX5_isSo 17 = .ok (.iload_n 3, 1) := by decide +kernel
theorem dX5_isSo_18 : decode cX5_isSo 18 = .ok (.iload_n 1, 1) := by decide +kernel
theorem dX5_isSo_19 : decode cX5_isSo 19 = .ok (.invokestatic 83, 3) := by decide +kernel
theorem dX5_isSo_22 : decode cX5_isSo 22 = .ok (.ifCond .eq 12, 3) := by decide +kernel
theorem dX5_isSo_25 : decode cX5_isSo 25 = .ok (.iload 4, 2) := by decide +kernel
theorem dX5_isSo_27 : decode cX5_isSo 27 = .ok (.iload_n 1, 1) := by decide +kernel
theorem dX5_isSo_28 : decode cX5_isSo 28 = .ok (.invokestatic 83, 3) := by decide +kernel
theorem dX5_isSo_31 : decode cX5_isSo 31 = .ok (.ifCond .ne 13, 3) := by decide +kernel
theorem dX5_isSo_34 : decode cX5_isSo 34 = .ok (.new 34, 3) := by decide +kernel
theorem dX5_isSo_37 : decode cX5_isSo 37 = .ok (.dup, 1) := by decide +kernel
theorem dX5_isSo_38 : decode cX5_isSo 38 = .ok (.ldc 87, 2) := by decide +kernel
theorem dX5_isSo_40 : decode cX5_isSo 40 = .ok (.invokespecial 38, 3) := by decide +kernel
theorem dX5_isSo_43 : decode cX5_isSo 43 = .ok (.athrow, 1) := by decide +kernel
theorem dX5_isSo_44 : decode cX5_isSo 44 = .ok (.aload_n 0, 1) := by decide +kernel
theorem dX5_isSo_45 : decode cX5_isSo 45 = .ok (.getfield 10, 3) := by decide +kernel
theorem dX5_isSo_48 : decode cX5_isSo 48 = .ok (.invokevirtual 61, 3) := by decide +kernel
theorem dX5_isSo_51 : decode cX5_isSo 51 = .ok (.ifCond .eq 18, 3) := by decide +kernel
theorem dX5_isSo_54 : decode cX5_isSo 54 = .ok (.aload_n 0, 1) := by decide +kernel
theorem dX5_isSo_55 : decode cX5_isSo 55 = .ok (.getfield 10, 3) := by decide +kernel
theorem dX5_isSo_58 : decode cX5_isSo 58 = .ok (.getfield 64, 3) := by decide +kernel
theorem dX5_isSo_61 : decode cX5_isSo 61 = .ok (.getfield 89, 3) := by decide +kernel
theorem dX5_isSo_64 : decode cX5_isSo 64 = .ok (.bipush 6, 2) := by decide +kernel
theorem dX5_isSo_66 : decode cX5_isSo 66 = .ok (.if_icmp .le 13, 3) := by decide +kernel
theorem dX5_isSo_69 : decode cX5_isSo 69 = .ok (.new 45, 3) := by decide +kernel
theorem dX5_isSo_72 : decode cX5_isSo 72 = .ok (.dup, 1) := by decide +kernel
theorem dX5_isSo_73 : decode cX5_isSo 73 = .ok (.ldc 93, 2) := by decide +kernel
theorem dX5_isSo_75 : decode cX5_isSo 75 = .ok (.invokespecial 49, 3) := by decide +kernel
theorem dX5_isSo_78 : decode cX5_isSo 78 = .ok (.athrow, 1) := by decide +kernel
theorem dX5_isSo_79 : decode cX5_isSo 79 = .ok (.aload_n 0, 1) := by decide +kernel
theorem dX5_isSo_80 : decode cX5_isSo 80 = .ok (.getfield 10, 3) := by decide +kernel
theorem dX5_isSo_83 : decode cX5_isSo 83 = .ok (.getfield 64, 3) := by decide +kernel
theorem dX5_isSo_86 : decode cX5_isSo 86 = .ok (.iload_n 1, 1) := by decide +kernel
theorem dX5_isSo_87 : decode cX5_isSo 87 = .ok (.iload_n 2, 1) := by decide +kernel
theorem dX5_isSo_88 : decode cX5_isSo 88 = .ok (.iload_n 3, 1) := by decide +kernel
theorem dX5_isSo_89 : decode cX5_isSo 89 = .ok (.iload 4, 2) := by decide +kernel
theorem dX5_isSo_91 : decode cX5_isSo 91 = .ok (.invokevirtual 95, 3) := by decide +kernel
theorem dX5_isSo_94 : decode cX5_isSo 94 = .ok (.ireturn, 1) := by decide +kernel
set_option maxRecDepth 20000 in
theorem ggX5_principle_X2_isFormula : GoodIn wsX5_principle wsX2_isFormula := goodIn_r _ [9, 10, 11, 56, 57, 58, 59, 60, 61] (by decide +kernel) (by decide +kernel)
set_option maxRecDepth 20000 in
theorem gX5_principle_X2_isFormula : GoodIn wsX5_principle (wsV RX5 61 RX2 yX2_isFormula wsX2_isFormula) := goodIn_app (goodIn_of _ (by decide +kernel)) ggX5_principle_X2_isFormula
set_option maxRecDepth 20000 in
theorem ggX5_principle_X0_wholeFree : GoodIn wsX5_principle wsX0_wholeFree := goodIn_r _ [16, 17, 62, 63, 64, 65, 66, 67, 68, 69, 70, 71, 72] (by decide +kernel) (by decide +kernel)
set_option maxRecDepth 20000 in
theorem gX5_principle_X0_wholeFree : GoodIn wsX5_principle (wsV RX5 76 RX0 yX0_wholeFree wsX0_wholeFree) := goodIn_app (goodIn_of _ (by decide +kernel)) ggX5_principle_X0_wholeFree
set_option maxRecDepth 20000 in
theorem ggX5_principle_X4_hasAllPrinciples : GoodIn wsX5_principle wsX4_hasAllPrinciples := goodIn_r _ [22, 23, 73, 74, 75, 76, 77, 78, 79, 80, 81] (by decide +kernel) (by decide +kernel)
set_option maxRecDepth 20000 in
theorem gX5_principle_X4_hasAllPrinciples : GoodIn wsX5_principle (wsV RX5 99 RX4 yX4_hasAllPrinciples wsX4_hasAllPrinciples) := goodIn_app (goodIn_of _ (by decide +kernel)) ggX5_principle_X4_hasAllPrinciples
set_option maxRecDepth 20000 in
theorem ggX5_principle_X0_wholeSigma : GoodIn wsX5_principle wsX0_wholeSigma := goodIn_r _ [27, 28, 62, 63, 64, 65, 66, 67, 68, 69, 70, 71, 72] (by decide +kernel) (by decide +kernel)
set_option maxRecDepth 20000 in
theorem gX5_principle_X0_wholeSigma : GoodIn wsX5_principle (wsV RX5 68 RX0 yX0_wholeSigma wsX0_wholeSigma) := goodIn_app (goodIn_of _ (by decide +kernel)) ggX5_principle_X0_wholeSigma
set_option maxRecDepth 20000 in
theorem ggX5_principle_X0_wholePi : GoodIn wsX5_principle wsX0_wholePi := goodIn_r _ [32, 33, 62, 63, 64, 65, 66, 67, 68, 69, 70, 71, 72] (by decide +kernel) (by decide +kernel)
set_option maxRecDepth 20000 in
theorem gX5_principle_X0_wholePi : GoodIn wsX5_principle (wsV RX5 73 RX0 yX0_wholePi wsX0_wholePi) := goodIn_app (goodIn_of _ (by decide +kernel)) ggX5_principle_X0_wholePi
set_option maxRecDepth 20000 in
theorem ggX5_principle_X4_addPrinciple : GoodIn wsX5_principle wsX4_addPrinciple := goodIn_r _ [37, 23, 38, 39, 73, 74, 75, 76, 77, 78, 79, 80, 81] (by decide +kernel) (by decide +kernel)
set_option maxRecDepth 20000 in
theorem gX5_principle_X4_addPrinciple : GoodIn wsX5_principle (wsV RX5 104 RX4 yX4_addPrinciple wsX4_addPrinciple) := goodIn_app (goodIn_of _ (by decide +kernel)) ggX5_principle_X4_addPrinciple
set_option maxRecDepth 20000 in
theorem ggX5_principle_X2_wipe : GoodIn wsX5_principle wsX2_wipe := goodIn_r _ [43, 44, 10, 11, 45, 46, 47, 48, 49, 15, 50, 51, 52, 56, 57, 58, 59, 60, 61, 62, 63, 64, 65, 66, 67, 68, 69, 70, 71, 72] (by decide +kernel) (by decide +kernel)
set_option maxRecDepth 20000 in
theorem gX5_principle_X2_wipe : GoodIn wsX5_principle (wsV RX5 54 RX2 yX2_wipe wsX2_wipe) := goodIn_app (goodIn_of _ (by decide +kernel)) ggX5_principle_X2_wipe
theorem dX5_principle_0 : decode cX5_principle 0 = .ok (.aload_n 0, 1) := by decide +kernel
theorem dX5_principle_1 : decode cX5_principle 1 = .ok (.getfield 10, 3) := by decide +kernel
theorem dX5_principle_4 : decode cX5_principle 4 = .ok (.invokevirtual 61, 3) := by decide +kernel
theorem dX5_principle_7 : decode cX5_principle 7 = .ok (.ifCond .eq 26, 3) := by decide +kernel
theorem dX5_principle_10 : decode cX5_principle 10 = .ok (.aload_n 0, 1) := by decide +kernel
theorem dX5_principle_11 : decode cX5_principle 11 = .ok (.getfield 10, 3) := by decide +kernel
theorem dX5_principle_14 : decode cX5_principle 14 = .ok (.getfield 64, 3) := by decide +kernel
theorem dX5_principle_17 : decode cX5_principle 17 = .ok (.invokevirtual 76, 3) := by decide +kernel
theorem dX5_principle_20 : decode cX5_principle 20 = .ok (.ifCond .ne 13, 3) := by decide +kernel
theorem dX5_principle_23 : decode cX5_principle 23 = .ok (.aload_n 0, 1) := by decide +kernel
theorem dX5_principle_24 : decode cX5_principle 24 = .ok (.getfield 19, 3) := by decide +kernel
theorem dX5_principle_27 : decode cX5_principle 27 = .ok (.invokevirtual 99, 3) := by decide +kernel
theorem dX5_principle_30 : decode cX5_principle 30 = .ok (.ifCond .eq 13, 3) := by decide +kernel
theorem dX5_principle_33 : decode cX5_principle 33 = .ok (.new 45, 3) := by decide +kernel
theorem dX5_principle_36 : decode cX5_principle 36 = .ok (.dup, 1) := by decide +kernel
theorem dX5_principle_37 : decode cX5_principle 37 = .ok (.ldc 102, 2) := by decide +kernel
theorem dX5_principle_39 : decode cX5_principle 39 = .ok (.invokespecial 49, 3) := by decide +kernel
theorem dX5_principle_42 : decode cX5_principle 42 = .ok (.athrow, 1) := by decide +kernel
theorem dX5_principle_43 : decode cX5_principle 43 = .ok (.aload_n 0, 1) := by decide +kernel
theorem dX5_principle_44 : decode cX5_principle 44 = .ok (.getfield 19, 3) := by decide +kernel
theorem dX5_principle_47 : decode cX5_principle 47 = .ok (.aload_n 0, 1) := by decide +kernel
theorem dX5_principle_48 : decode cX5_principle 48 = .ok (.getfield 10, 3) := by decide +kernel
theorem dX5_principle_51 : decode cX5_principle 51 = .ok (.getfield 64, 3) := by decide +kernel
theorem dX5_principle_54 : decode cX5_principle 54 = .ok (.invokevirtual 68, 3) := by decide +kernel
theorem dX5_principle_57 : decode cX5_principle 57 = .ok (.aload_n 0, 1) := by decide +kernel
theorem dX5_principle_58 : decode cX5_principle 58 = .ok (.getfield 10, 3) := by decide +kernel
theorem dX5_principle_61 : decode cX5_principle 61 = .ok (.getfield 64, 3) := by decide +kernel
theorem dX5_principle_64 : decode cX5_principle 64 = .ok (.invokevirtual 73, 3) := by decide +kernel
theorem dX5_principle_67 : decode cX5_principle 67 = .ok (.invokevirtual 104, 3) := by decide +kernel
theorem dX5_principle_70 : decode cX5_principle 70 = .ok (.istore_n 1, 1) := by decide +kernel
theorem dX5_principle_71 : decode cX5_principle 71 = .ok (.aload_n 0, 1) := by decide +kernel
theorem dX5_principle_72 : decode cX5_principle 72 = .ok (.getfield 10, 3) := by decide +kernel
theorem dX5_principle_75 : decode cX5_principle 75 = .ok (.invokevirtual 54, 3) := by decide +kernel
theorem dX5_principle_78 : decode cX5_principle 78 = .ok (.pop, 1) := by decide +kernel
theorem dX5_principle_79 : decode cX5_principle 79 = .ok (.iload_n 1, 1) := by decide +kernel
theorem dX5_principle_80 : decode cX5_principle 80 = .ok (.ireturn, 1) := by decide +kernel
set_option maxRecDepth 20000 in
theorem ggX5_rule_X4_hasPrinciple : GoodIn wsX5_rule wsX4_hasPrinciple := goodIn_r _ [12, 13, 14, 15, 16, 51, 52, 53, 54, 55, 56, 57, 58, 59] (by decide +kernel) (by decide +kernel)
set_option maxRecDepth 20000 in
theorem gX5_rule_X4_hasPrinciple : GoodIn wsX5_rule (wsV RX5 108 RX4 yX4_hasPrinciple wsX4_hasPrinciple) := goodIn_app (goodIn_of _ (by decide +kernel)) ggX5_rule_X4_hasPrinciple
set_option maxRecDepth 20000 in
theorem ggX5_rule_X4_isSet : GoodIn wsX5_rule wsX4_isSet := goodIn_r _ [20, 13, 51, 52, 53, 54, 55, 56, 57, 58, 59] (by decide +kernel) (by decide +kernel)
set_option maxRecDepth 20000 in
theorem gX5_rule_X4_isSet : GoodIn wsX5_rule (wsV RX5 117 RX4 yX4_isSet wsX4_isSet) := goodIn_app (goodIn_of _ (by decide +kernel)) ggX5_rule_X4_isSet
set_option maxRecDepth 20000 in
theorem ggX5_rule_X4_contains : GoodIn wsX5_rule wsX4_contains := goodIn_r _ [23] (by decide +kernel) (by decide +kernel)
set_option maxRecDepth 20000 in
theorem gX5_rule_X4_contains : GoodIn wsX5_rule (va_wsS RX5 120 yX4_contains wsX4_contains) := goodIn_app (goodIn_of _ (by decide +kernel)) ggX5_rule_X4_contains
set_option maxRecDepth 20000 in
theorem ggX5_rule_X4_hasAllRules : GoodIn wsX5_rule wsX4_hasAllRules := goodIn_r _ [27, 28, 51, 52, 53, 54, 55, 56, 57, 58, 59] (by decide +kernel) (by decide +kernel)
set_option maxRecDepth 20000 in
theorem gX5_rule_X4_hasAllRules : GoodIn wsX5_rule (wsV RX5 125 RX4 yX4_hasAllRules wsX4_hasAllRules) := goodIn_app (goodIn_of _ (by decide +kernel)) ggX5_rule_X4_hasAllRules
set_option maxRecDepth 20000 in
theorem ggX5_rule_X4_isBrokenByModel : GoodIn wsX5_rule wsX4_isBrokenByModel := goodIn_r _ [32, 33, 34, 35, 36, 11, 37, 38, 39, 40, 41, 22, 23, 51, 52, 53, 54, 55, 56, 57, 58, 59] (by decide +kernel) (by decide +kernel)
set_option maxRecDepth 20000 in
theorem gX5_rule_X4_isBrokenByModel : GoodIn wsX5_rule (wsV RX5 128 RX4 yX4_isBrokenByModel wsX4_isBrokenByModel) := goodIn_app (goodIn_of _ (by decide +kernel)) ggX5_rule_X4_isBrokenByModel
set_option maxRecDepth 20000 in
theorem ggX5_rule_X4_addRule : GoodIn wsX5_rule wsX4_addRule := goodIn_r _ [45, 28, 46, 47, 51, 52, 53, 54, 55, 56, 57, 58, 59] (by decide +kernel) (by decide +kernel)
set_option maxRecDepth 20000 in
theorem gX5_rule_X4_addRule : GoodIn wsX5_rule (wsV RX5 133 RX4 yX4_addRule wsX4_addRule) := goodIn_app (goodIn_of _ (by decide +kernel)) ggX5_rule_X4_addRule
theorem dX5_rule_0 : decode cX5_rule 0 = .ok (.aload_n 0, 1) := by decide +kernel
theorem dX5_rule_1 : decode cX5_rule 1 = .ok (.getfield 19, 3) := by decide +kernel
theorem dX5_rule_4 : decode cX5_rule 4 = .ok (.iload_n 2, 1) := by decide +kernel
theorem dX5_rule_5 : decode cX5_rule 5 = .ok (.invokevirtual 108, 3) := by decide +kernel
theorem dX5_rule_8 : decode cX5_rule 8 = .ok (.ifCond .ne 13, 3) := by decide +kernel
theorem dX5_rule_11 : decode cX5_rule 11 = .ok (.new 112, 3) := by decide +kernel
theorem dX5_rule_14 : decode cX5_rule 14 = .ok (.dup, 1) := by decide +kernel
theorem dX5_rule_15 : decode cX5_rule 15 = .ok (.ldc 114, 2) := by decide +kernel
theorem dX5_rule_17 : decode cX5_rule 17 = .ok (.invokespecial 116, 3) := by decide +kernel
theorem dX5_rule_20 : decode cX5_rule 20 = .ok (.athrow, 1) := by decide +kernel
theorem dX5_rule_21 : decode cX5_rule 21 = .ok (.aload_n 0, 1) := by decide +kernel
theorem dX5_rule_22 : decode cX5_rule 22 = .ok (.getfield 19, 3) := by decide +kernel
theorem dX5_rule_25 : decode cX5_rule 25 = .ok (.iload_n 1, 1) := by decide +kernel
theorem dX5_rule_26 : decode cX5_rule 26 = .ok (.invokevirtual 117, 3) := by decide +kernel
theorem dX5_rule_29 : decode cX5_rule 29 = .ok (.ifCond .eq 11, 3) := by decide +kernel
theorem dX5_rule_32 : decode cX5_rule 32 = .ok (.iload_n 1, 1) := by decide +kernel
theorem dX5_rule_33 : decode cX5_rule 33 = .ok (.iload_n 2, 1) := by decide +kernel
theorem dX5_rule_34 : decode cX5_rule 34 = .ok (.invokestatic 120, 3) := by decide +kernel
theorem dX5_rule_37 : decode cX5_rule 37 = .ok (.ifCond .eq 13, 3) := by decide +kernel
theorem dX5_rule_40 : decode cX5_rule 40 = .ok (.new 34, 3) := by decide +kernel
theorem dX5_rule_43 : decode cX5_rule 43 = .ok (.dup, 1) := by decide +kernel
theorem dX5_rule_44 : decode cX5_rule 44 = .ok (.ldc 123, 2) := by decide +kernel
theorem dX5_rule_46 : decode cX5_rule 46 = .ok (.invokespecial 38, 3) := by decide +kernel
theorem dX5_rule_49 : decode cX5_rule 49 = .ok (.athrow, 1) := by decide +kernel
theorem dX5_rule_50 : decode cX5_rule 50 = .ok (.aload_n 0, 1) := by decide +kernel
theorem dX5_rule_51 : decode cX5_rule 51 = .ok (.getfield 19, 3) := by decide +kernel
theorem dX5_rule_54 : decode cX5_rule 54 = .ok (.invokevirtual 125, 3) := by decide +kernel
theorem dX5_rule_57 : decode cX5_rule 57 = .ok (.ifCond .ne 15, 3) := by decide +kernel
theorem dX5_rule_60 : decode cX5_rule 60 = .ok (.aload_n 0, 1) := by decide +kernel
theorem dX5_rule_61 : decode cX5_rule 61 = .ok (.getfield 19, 3) := by decide +kernel
theorem dX5_rule_64 : decode cX5_rule 64 = .ok (.iload_n 1, 1) := by decide +kernel
theorem dX5_rule_65 : decode cX5_rule 65 = .ok (.iload_n 2, 1) := by decide +kernel
theorem dX5_rule_66 : decode cX5_rule 66 = .ok (.invokevirtual 128, 3) := by decide +kernel
theorem dX5_rule_69 : decode cX5_rule 69 = .ok (.ifCond .eq 13, 3) := by decide +kernel
theorem dX5_rule_72 : decode cX5_rule 72 = .ok (.new 45, 3) := by decide +kernel
theorem dX5_rule_75 : decode cX5_rule 75 = .ok (.dup, 1) := by decide +kernel
theorem dX5_rule_76 : decode cX5_rule 76 = .ok (.ldc 131, 2) := by decide +kernel
theorem dX5_rule_78 : decode cX5_rule 78 = .ok (.invokespecial 49, 3) := by decide +kernel
theorem dX5_rule_81 : decode cX5_rule 81 = .ok (.athrow, 1) := by decide +kernel
theorem dX5_rule_82 : decode cX5_rule 82 = .ok (.aload_n 0, 1) := by decide +kernel
theorem dX5_rule_83 : decode cX5_rule 83 = .ok (.getfield 19, 3) := by decide +kernel
theorem dX5_rule_86 : decode cX5_rule 86 = .ok (.iload_n 1, 1) := by decide +kernel
theorem dX5_rule_87 : decode cX5_rule 87 = .ok (.iload_n 2, 1) := by decide +kernel
theorem dX5_rule_88 : decode cX5_rule 88 = .ok (.invokevirtual 133, 3) := by decide +kernel
theorem dX5_rule_91 : decode cX5_rule 91 = .ok (.ireturn, 1) := by decide +kernel
set_option maxRecDepth 20000 in
theorem ggX5_model_X4_isSet : GoodIn wsX5_model wsX4_isSet := goodIn_r _ [10, 11, 45, 46, 47, 48, 49, 50, 51, 52, 53] (by decide +kernel) (by decide +kernel)
set_option maxRecDepth 20000 in
theorem gX5_model_X4_isSet : GoodIn wsX5_model (wsV RX5 117 RX4 yX4_isSet wsX4_isSet) := goodIn_app (goodIn_of _ (by decide +kernel)) ggX5_model_X4_isSet
set_option maxRecDepth 20000 in
theorem ggX5_model_X4_hasAllModels : GoodIn wsX5_model wsX4_hasAllModels := goodIn_r _ [15, 16, 45, 46, 47, 48, 49, 50, 51, 52, 53] (by decide +kernel) (by decide +kernel)
set_option maxRecDepth 20000 in
theorem gX5_model_X4_hasAllModels : GoodIn wsX5_model (wsV RX5 138 RX4 yX4_hasAllModels wsX4_hasAllModels) := goodIn_app (goodIn_of _ (by decide +kernel)) ggX5_model_X4_hasAllModels
set_option maxRecDepth 20000 in
theorem ggX5_model_X4_breaksRule : GoodIn wsX5_model wsX4_breaksRule := goodIn_r _ [20, 21, 22, 23, 9, 24, 25, 26, 27, 28, 29, 30, 31, 32, 33, 34, 35, 36, 45, 46, 47, 48, 49, 50, 51, 52, 53] (by decide +kernel) (by decide +kernel)
set_option maxRecDepth 20000 in
theorem gX5_model_X4_breaksRule : GoodIn wsX5_model (wsV RX5 141 RX4 yX4_breaksRule wsX4_breaksRule) := goodIn_app (goodIn_of _ (by decide +kernel)) ggX5_model_X4_breaksRule
set_option maxRecDepth 20000 in
theorem ggX5_model_X4_addModel : GoodIn wsX5_model wsX4_addModel := goodIn_r _ [40, 16, 41, 45, 46, 47, 48, 49, 50, 51, 52, 53] (by decide +kernel) (by decide +kernel)
set_option maxRecDepth 20000 in
theorem gX5_model_X4_addModel : GoodIn wsX5_model (wsV RX5 146 RX4 yX4_addModel wsX4_addModel) := goodIn_app (goodIn_of _ (by decide +kernel)) ggX5_model_X4_addModel
theorem dX5_model_0 : decode cX5_model 0 = .ok (.aload_n 0, 1) := by decide +kernel
theorem dX5_model_1 : decode cX5_model 1 = .ok (.getfield 19, 3) := by decide +kernel
theorem dX5_model_4 : decode cX5_model 4 = .ok (.iload_n 1, 1) := by decide +kernel
theorem dX5_model_5 : decode cX5_model 5 = .ok (.invokevirtual 117, 3) := by decide +kernel
theorem dX5_model_8 : decode cX5_model 8 = .ok (.ifCond .ne 13, 3) := by decide +kernel
theorem dX5_model_11 : decode cX5_model 11 = .ok (.new 34, 3) := by decide +kernel
theorem dX5_model_14 : decode cX5_model 14 = .ok (.dup, 1) := by decide +kernel
theorem dX5_model_15 : decode cX5_model 15 = .ok (.ldc 136, 2) := by decide +kernel
theorem dX5_model_17 : decode cX5_model 17 = .ok (.invokespecial 38, 3) := by decide +kernel
theorem dX5_model_20 : decode cX5_model 20 = .ok (.athrow, 1) := by decide +kernel
theorem dX5_model_21 : decode cX5_model 21 = .ok (.aload_n 0, 1) := by decide +kernel
theorem dX5_model_22 : decode cX5_model 22 = .ok (.getfield 19, 3) := by decide +kernel
theorem dX5_model_25 : decode cX5_model 25 = .ok (.invokevirtual 138, 3) := by decide +kernel
theorem dX5_model_28 : decode cX5_model 28 = .ok (.ifCond .ne 14, 3) := by decide +kernel
theorem dX5_model_31 : decode cX5_model 31 = .ok (.aload_n 0, 1) := by decide +kernel
theorem dX5_model_32 : decode cX5_model 32 = .ok (.getfield 19, 3) := by decide +kernel
theorem dX5_model_35 : decode cX5_model 35 = .ok (.iload_n 1, 1) := by decide +kernel
theorem dX5_model_36 : decode cX5_model 36 = .ok (.invokevirtual 141, 3) := by decide +kernel
theorem dX5_model_39 : decode cX5_model 39 = .ok (.ifCond .eq 13, 3) := by decide +kernel
theorem dX5_model_42 : decode cX5_model 42 = .ok (.new 45, 3) := by decide +kernel
theorem dX5_model_45 : decode cX5_model 45 = .ok (.dup, 1) := by decide +kernel
theorem dX5_model_46 : decode cX5_model 46 = .ok (.ldc 144, 2) := by decide +kernel
theorem dX5_model_48 : decode cX5_model 48 = .ok (.invokespecial 49, 3) := by decide +kernel
theorem dX5_model_51 : decode cX5_model 51 = .ok (.athrow, 1) := by decide +kernel
theorem dX5_model_52 : decode cX5_model 52 = .ok (.aload_n 0, 1) := by decide +kernel
theorem dX5_model_53 : decode cX5_model 53 = .ok (.getfield 19, 3) := by decide +kernel
theorem dX5_model_56 : decode cX5_model 56 = .ok (.iload_n 1, 1) := by decide +kernel
theorem dX5_model_57 : decode cX5_model 57 = .ok (.invokevirtual 146, 3) := by decide +kernel
theorem dX5_model_60 : decode cX5_model 60 = .ok (.ireturn, 1) := by decide +kernel
set_option maxRecDepth 20000 in
theorem ggX5_proves_X4_isSet : GoodIn wsX5_proves wsX4_isSet := goodIn_r _ [8, 9, 33, 34, 35, 36, 37, 38, 39, 40, 41] (by decide +kernel) (by decide +kernel)
set_option maxRecDepth 20000 in
theorem gX5_proves_X4_isSet : GoodIn wsX5_proves (wsV RX5 117 RX4 yX4_isSet wsX4_isSet) := goodIn_app (goodIn_of _ (by decide +kernel)) ggX5_proves_X4_isSet
set_option maxRecDepth 20000 in
theorem ggX5_proves_X4_closure : GoodIn wsX5_proves wsX4_closure := goodIn_r _ [13, 14, 15, 16, 17, 7, 18, 19, 20, 21, 22, 23, 24, 25, 26, 27, 28, 29, 33, 34, 35, 36, 37, 38, 39, 40, 41] (by decide +kernel) (by decide +kernel)
set_option maxRecDepth 20000 in
theorem gX5_proves_X4_closure : GoodIn wsX5_proves (wsV RX5 150 RX4 yX4_closure wsX4_closure) := goodIn_app (goodIn_of _ (by decide +kernel)) ggX5_proves_X4_closure
theorem dX5_proves_0 : decode cX5_proves 0 = .ok (.aload_n 0, 1) := by decide +kernel
theorem dX5_proves_1 : decode cX5_proves 1 = .ok (.getfield 19, 3) := by decide +kernel
theorem dX5_proves_4 : decode cX5_proves 4 = .ok (.iload_n 1, 1) := by decide +kernel
theorem dX5_proves_5 : decode cX5_proves 5 = .ok (.invokevirtual 117, 3) := by decide +kernel
theorem dX5_proves_8 : decode cX5_proves 8 = .ok (.ifCond .ne 13, 3) := by decide +kernel
theorem dX5_proves_11 : decode cX5_proves 11 = .ok (.new 34, 3) := by decide +kernel
theorem dX5_proves_14 : decode cX5_proves 14 = .ok (.dup, 1) := by decide +kernel
theorem dX5_proves_15 : decode cX5_proves 15 = .ok (.ldc 136, 2) := by decide +kernel
theorem dX5_proves_17 : decode cX5_proves 17 = .ok (.invokespecial 38, 3) := by decide +kernel
theorem dX5_proves_20 : decode cX5_proves 20 = .ok (.athrow, 1) := by decide +kernel
theorem dX5_proves_21 : decode cX5_proves 21 = .ok (.aload_n 0, 1) := by decide +kernel
theorem dX5_proves_22 : decode cX5_proves 22 = .ok (.getfield 19, 3) := by decide +kernel
theorem dX5_proves_25 : decode cX5_proves 25 = .ok (.iload_n 1, 1) := by decide +kernel
theorem dX5_proves_26 : decode cX5_proves 26 = .ok (.invokevirtual 150, 3) := by decide +kernel
theorem dX5_proves_29 : decode cX5_proves 29 = .ok (.ireturn, 1) := by decide +kernel
set_option maxRecDepth 20000 in
theorem ggX5_proof_X4_hasPrinciple : GoodIn wsX5_proof wsX4_hasPrinciple := goodIn_r _ [10, 11, 12, 13, 14, 55, 56, 57, 58, 59, 60, 61, 62, 63] (by decide +kernel) (by decide +kernel)
set_option maxRecDepth 20000 in
theorem gX5_proof_X4_hasPrinciple : GoodIn wsX5_proof (wsV RX5 108 RX4 yX4_hasPrinciple wsX4_hasPrinciple) := goodIn_app (goodIn_of _ (by decide +kernel)) ggX5_proof_X4_hasPrinciple
set_option maxRecDepth 20000 in
theorem ggX5_proof_X4_isSet : GoodIn wsX5_proof wsX4_isSet := goodIn_r _ [18, 11, 55, 56, 57, 58, 59, 60, 61, 62, 63] (by decide +kernel) (by decide +kernel)
set_option maxRecDepth 20000 in
theorem gX5_proof_X4_isSet : GoodIn wsX5_proof (wsV RX5 117 RX4 yX4_isSet wsX4_isSet) := goodIn_app (goodIn_of _ (by decide +kernel)) ggX5_proof_X4_isSet
set_option maxRecDepth 20000 in
theorem ggX5_proof_X4_proofStep : GoodIn wsX5_proof wsX4_proofStep := goodIn_r _ [22, 23, 24, 25, 9, 26, 27, 28, 29, 30, 31, 32, 33, 34, 35, 36, 37, 38, 39, 40, 41, 42, 43, 44, 45, 46, 47, 48, 49, 50, 51, 55, 56, 57, 58, 59, 60, 61, 62, 63] (by decide +kernel) (by decide +kernel)
set_option maxRecDepth 20000 in
theorem gX5_proof_X4_proofStep : GoodIn wsX5_proof (wsV RX5 155 RX4 yX4_proofStep wsX4_proofStep) := goodIn_app (goodIn_of _ (by decide +kernel)) ggX5_proof_X4_proofStep
theorem dX5_proof_0 : decode cX5_proof 0 = .ok (.aload_n 0, 1) := by decide +kernel
theorem dX5_proof_1 : decode cX5_proof 1 = .ok (.getfield 19, 3) := by decide +kernel
theorem dX5_proof_4 : decode cX5_proof 4 = .ok (.iload_n 2, 1) := by decide +kernel
theorem dX5_proof_5 : decode cX5_proof 5 = .ok (.invokevirtual 108, 3) := by decide +kernel
theorem dX5_proof_8 : decode cX5_proof 8 = .ok (.ifCond .eq 7, 3) := by decide +kernel
theorem dX5_proof_11 : decode cX5_proof 11 = .ok (.iload_n 3, 1) := by decide +kernel
theorem dX5_proof_12 : decode cX5_proof 12 = .ok (.ifCond .ge 13, 3) := by decide +kernel
theorem dX5_proof_15 : decode cX5_proof 15 = .ok (.new 112, 3) := by decide +kernel
theorem dX5_proof_18 : decode cX5_proof 18 = .ok (.dup, 1) := by decide +kernel
theorem dX5_proof_19 : decode cX5_proof 19 = .ok (.ldc 153, 2) := by decide +kernel
theorem dX5_proof_21 : decode cX5_proof 21 = .ok (.invokespecial 116, 3) := by decide +kernel
theorem dX5_proof_24 : decode cX5_proof 24 = .ok (.athrow, 1) := by decide +kernel
theorem dX5_proof_25 : decode cX5_proof 25 = .ok (.aload_n 0, 1) := by decide +kernel
theorem dX5_proof_26 : decode cX5_proof 26 = .ok (.getfield 19, 3) := by decide +kernel
theorem dX5_proof_29 : decode cX5_proof 29 = .ok (.iload_n 1, 1) := by decide +kernel
theorem dX5_proof_30 : decode cX5_proof 30 = .ok (.invokevirtual 117, 3) := by decide +kernel
theorem dX5_proof_33 : decode cX5_proof 33 = .ok (.ifCond .ne 13, 3) := by decide +kernel
theorem dX5_proof_36 : decode cX5_proof 36 = .ok (.new 34, 3) := by decide +kernel
theorem dX5_proof_39 : decode cX5_proof 39 = .ok (.dup, 1) := by decide +kernel
theorem dX5_proof_40 : decode cX5_proof 40 = .ok (.ldc 136, 2) := by decide +kernel
theorem dX5_proof_42 : decode cX5_proof 42 = .ok (.invokespecial 38, 3) := by decide +kernel
theorem dX5_proof_45 : decode cX5_proof 45 = .ok (.athrow, 1) := by decide +kernel
theorem dX5_proof_46 : decode cX5_proof 46 = .ok (.aload_n 0, 1) := by decide +kernel
theorem dX5_proof_47 : decode cX5_proof 47 = .ok (.getfield 19, 3) := by decide +kernel
theorem dX5_proof_50 : decode cX5_proof 50 = .ok (.iload_n 1, 1) := by decide +kernel
theorem dX5_proof_51 : decode cX5_proof 51 = .ok (.iload_n 2, 1) := by decide +kernel
theorem dX5_proof_52 : decode cX5_proof 52 = .ok (.iload_n 3, 1) := by decide +kernel
theorem dX5_proof_53 : decode cX5_proof 53 = .ok (.invokevirtual 155, 3) := by decide +kernel
theorem dX5_proof_56 : decode cX5_proof 56 = .ok (.ireturn, 1) := by decide +kernel
set_option maxRecDepth 20000 in
theorem ggX5_known_X4_hasPrinciple : GoodIn wsX5_known wsX4_hasPrinciple := goodIn_r _ [10, 11, 12, 13, 14, 44, 45, 46, 47, 48, 49, 50, 51, 52] (by decide +kernel) (by decide +kernel)
set_option maxRecDepth 20000 in
theorem gX5_known_X4_hasPrinciple : GoodIn wsX5_known (wsV RX5 108 RX4 yX4_hasPrinciple wsX4_hasPrinciple) := goodIn_app (goodIn_of _ (by decide +kernel)) ggX5_known_X4_hasPrinciple
set_option maxRecDepth 20000 in
theorem ggX5_known_X4_verdict : GoodIn wsX5_known wsX4_verdict := goodIn_r _ [18, 19, 20, 21, 22, 23, 9, 24, 25, 26, 27, 28, 29, 30, 31, 32, 33, 34, 35, 36, 37, 38, 39, 40, 44, 45, 46, 47, 48, 49, 50, 51, 52] (by decide +kernel) (by decide +kernel)
set_option maxRecDepth 20000 in
theorem gX5_known_X4_verdict : GoodIn wsX5_known (wsV RX5 161 RX4 yX4_verdict wsX4_verdict) := goodIn_app (goodIn_of _ (by decide +kernel)) ggX5_known_X4_verdict
theorem dX5_known_0 : decode cX5_known 0 = .ok (.aload_n 0, 1) := by decide +kernel
theorem dX5_known_1 : decode cX5_known 1 = .ok (.getfield 19, 3) := by decide +kernel
theorem dX5_known_4 : decode cX5_known 4 = .ok (.iload_n 1, 1) := by decide +kernel
theorem dX5_known_5 : decode cX5_known 5 = .ok (.invokevirtual 108, 3) := by decide +kernel
theorem dX5_known_8 : decode cX5_known 8 = .ok (.ifCond .eq 14, 3) := by decide +kernel
theorem dX5_known_11 : decode cX5_known 11 = .ok (.aload_n 0, 1) := by decide +kernel
theorem dX5_known_12 : decode cX5_known 12 = .ok (.getfield 19, 3) := by decide +kernel
theorem dX5_known_15 : decode cX5_known 15 = .ok (.iload_n 2, 1) := by decide +kernel
theorem dX5_known_16 : decode cX5_known 16 = .ok (.invokevirtual 108, 3) := by decide +kernel
theorem dX5_known_19 : decode cX5_known 19 = .ok (.ifCond .ne 13, 3) := by decide +kernel
theorem dX5_known_22 : decode cX5_known 22 = .ok (.new 112, 3) := by decide +kernel
theorem dX5_known_25 : decode cX5_known 25 = .ok (.dup, 1) := by decide +kernel
theorem dX5_known_26 : decode cX5_known 26 = .ok (.ldc 114, 2) := by decide +kernel
theorem dX5_known_28 : decode cX5_known 28 = .ok (.invokespecial 116, 3) := by decide +kernel
theorem dX5_known_31 : decode cX5_known 31 = .ok (.athrow, 1) := by decide +kernel
theorem dX5_known_32 : decode cX5_known 32 = .ok (.iload_n 1, 1) := by decide +kernel
theorem dX5_known_33 : decode cX5_known 33 = .ok (.iload_n 2, 1) := by decide +kernel
theorem dX5_known_34 : decode cX5_known 34 = .ok (.if_icmp .ne 13, 3) := by decide +kernel
theorem dX5_known_37 : decode cX5_known 37 = .ok (.new 34, 3) := by decide +kernel
theorem dX5_known_40 : decode cX5_known 40 = .ok (.dup, 1) := by decide +kernel
theorem dX5_known_41 : decode cX5_known 41 = .ok (.ldc 159, 2) := by decide +kernel
theorem dX5_known_43 : decode cX5_known 43 = .ok (.invokespecial 38, 3) := by decide +kernel
theorem dX5_known_46 : decode cX5_known 46 = .ok (.athrow, 1) := by decide +kernel
theorem dX5_known_47 : decode cX5_known 47 = .ok (.aload_n 0, 1) := by decide +kernel
theorem dX5_known_48 : decode cX5_known 48 = .ok (.getfield 19, 3) := by decide +kernel
theorem dX5_known_51 : decode cX5_known 51 = .ok (.iload_n 1, 1) := by decide +kernel
theorem dX5_known_52 : decode cX5_known 52 = .ok (.iload_n 2, 1) := by decide +kernel
theorem dX5_known_53 : decode cX5_known 53 = .ok (.invokevirtual 161, 3) := by decide +kernel
theorem dX5_known_56 : decode cX5_known 56 = .ok (.ireturn, 1) := by decide +kernel
set_option maxRecDepth 20000 in
theorem ggX5_open_X4_openPairs : GoodIn wsX5_open wsX4_openPairs := goodIn_r _ [6, 7, 8, 9, 10, 5, 11, 12, 13, 14, 15, 16, 17, 18, 19, 20, 21, 22, 23, 24, 25, 26, 27, 28, 29, 30, 31, 32, 33, 37, 38, 39, 40, 41, 42, 43, 44, 45] (by decide +kernel) (by decide +kernel)
set_option maxRecDepth 20000 in
theorem gX5_open_X4_openPairs : GoodIn wsX5_open (wsV RX5 164 RX4 yX4_openPairs wsX4_openPairs) := goodIn_app (goodIn_of _ (by decide +kernel)) ggX5_open_X4_openPairs
theorem dX5_open_0 : decode cX5_open 0 = .ok (.aload_n 0, 1) := by decide +kernel
theorem dX5_open_1 : decode cX5_open 1 = .ok (.getfield 19, 3) := by decide +kernel
theorem dX5_open_4 : decode cX5_open 4 = .ok (.invokevirtual 164, 3) := by decide +kernel
theorem dX5_open_7 : decode cX5_open 7 = .ok (.ireturn, 1) := by decide +kernel
set_option maxRecDepth 20000 in
theorem ggX5_least_X4_hasPrinciple : GoodIn wsX5_least wsX4_hasPrinciple := goodIn_r _ [10, 11, 12, 13, 14, 53, 54, 55, 56, 57, 58, 59, 60, 61] (by decide +kernel) (by decide +kernel)
set_option maxRecDepth 20000 in
theorem gX5_least_X4_hasPrinciple : GoodIn wsX5_least (wsV RX5 108 RX4 yX4_hasPrinciple wsX4_hasPrinciple) := goodIn_app (goodIn_of _ (by decide +kernel)) ggX5_least_X4_hasPrinciple
set_option maxRecDepth 20000 in
theorem ggX5_least_X4_isSet : GoodIn wsX5_least wsX4_isSet := goodIn_r _ [18, 11, 53, 54, 55, 56, 57, 58, 59, 60, 61] (by decide +kernel) (by decide +kernel)
set_option maxRecDepth 20000 in
theorem gX5_least_X4_isSet : GoodIn wsX5_least (wsV RX5 117 RX4 yX4_isSet wsX4_isSet) := goodIn_app (goodIn_of _ (by decide +kernel)) ggX5_least_X4_isSet
set_option maxRecDepth 20000 in
theorem ggX5_least_X4_leastBySize : GoodIn wsX5_least wsX4_leastBySize := goodIn_r _ [22, 23, 24, 25, 9, 26, 27, 28, 29, 30, 31, 32, 33, 34, 35, 36, 37, 38, 39, 40, 41, 42, 43, 44, 45, 46, 47, 48, 49, 53, 54, 55, 56, 57, 58, 59, 60, 61] (by decide +kernel) (by decide +kernel)
set_option maxRecDepth 20000 in
theorem gX5_least_X4_leastBySize : GoodIn wsX5_least (wsV RX5 169 RX4 yX4_leastBySize wsX4_leastBySize) := goodIn_app (goodIn_of _ (by decide +kernel)) ggX5_least_X4_leastBySize
theorem dX5_least_0 : decode cX5_least 0 = .ok (.aload_n 0, 1) := by decide +kernel
theorem dX5_least_1 : decode cX5_least 1 = .ok (.getfield 19, 3) := by decide +kernel
theorem dX5_least_4 : decode cX5_least 4 = .ok (.iload_n 1, 1) := by decide +kernel
theorem dX5_least_5 : decode cX5_least 5 = .ok (.invokevirtual 108, 3) := by decide +kernel
theorem dX5_least_8 : decode cX5_least 8 = .ok (.ifCond .ne 13, 3) := by decide +kernel
theorem dX5_least_11 : decode cX5_least 11 = .ok (.new 112, 3) := by decide +kernel
theorem dX5_least_14 : decode cX5_least 14 = .ok (.dup, 1) := by decide +kernel
theorem dX5_least_15 : decode cX5_least 15 = .ok (.ldc 114, 2) := by decide +kernel
theorem dX5_least_17 : decode cX5_least 17 = .ok (.invokespecial 116, 3) := by decide +kernel
theorem dX5_least_20 : decode cX5_least 20 = .ok (.athrow, 1) := by decide +kernel
theorem dX5_least_21 : decode cX5_least 21 = .ok (.aload_n 0, 1) := by decide +kernel
theorem dX5_least_22 : decode cX5_least 22 = .ok (.getfield 19, 3) := by decide +kernel
theorem dX5_least_25 : decode cX5_least 25 = .ok (.iload_n 2, 1) := by decide +kernel
theorem dX5_least_26 : decode cX5_least 26 = .ok (.invokevirtual 117, 3) := by decide +kernel
theorem dX5_least_29 : decode cX5_least 29 = .ok (.ifCond .ne 13, 3) := by decide +kernel
theorem dX5_least_32 : decode cX5_least 32 = .ok (.new 34, 3) := by decide +kernel
theorem dX5_least_35 : decode cX5_least 35 = .ok (.dup, 1) := by decide +kernel
theorem dX5_least_36 : decode cX5_least 36 = .ok (.ldc 167, 2) := by decide +kernel
theorem dX5_least_38 : decode cX5_least 38 = .ok (.invokespecial 38, 3) := by decide +kernel
theorem dX5_least_41 : decode cX5_least 41 = .ok (.athrow, 1) := by decide +kernel
theorem dX5_least_42 : decode cX5_least 42 = .ok (.aload_n 0, 1) := by decide +kernel
theorem dX5_least_43 : decode cX5_least 43 = .ok (.getfield 19, 3) := by decide +kernel
theorem dX5_least_46 : decode cX5_least 46 = .ok (.iload_n 1, 1) := by decide +kernel
theorem dX5_least_47 : decode cX5_least 47 = .ok (.iload_n 2, 1) := by decide +kernel
theorem dX5_least_48 : decode cX5_least 48 = .ok (.invokevirtual 169, 3) := by decide +kernel
theorem dX5_least_51 : decode cX5_least 51 = .ok (.ireturn, 1) := by decide +kernel
set_option maxRecDepth 20000 in
theorem ggX5_leastAnew_X4_hasPrinciple : GoodIn wsX5_leastAnew wsX4_hasPrinciple := goodIn_r _ [10, 11, 12, 13, 14, 53, 54, 55, 56, 57, 58, 59, 60, 61] (by decide +kernel) (by decide +kernel)
set_option maxRecDepth 20000 in
theorem gX5_leastAnew_X4_hasPrinciple : GoodIn wsX5_leastAnew (wsV RX5 108 RX4 yX4_hasPrinciple wsX4_hasPrinciple) := goodIn_app (goodIn_of _ (by decide +kernel)) ggX5_leastAnew_X4_hasPrinciple
set_option maxRecDepth 20000 in
theorem ggX5_leastAnew_X4_isSet : GoodIn wsX5_leastAnew wsX4_isSet := goodIn_r _ [18, 11, 53, 54, 55, 56, 57, 58, 59, 60, 61] (by decide +kernel) (by decide +kernel)
set_option maxRecDepth 20000 in
theorem gX5_leastAnew_X4_isSet : GoodIn wsX5_leastAnew (wsV RX5 117 RX4 yX4_isSet wsX4_isSet) := goodIn_app (goodIn_of _ (by decide +kernel)) ggX5_leastAnew_X4_isSet
set_option maxRecDepth 20000 in
theorem ggX5_leastAnew_X4_leastOfAll : GoodIn wsX5_leastAnew wsX4_leastOfAll := goodIn_r _ [22, 23, 24, 25, 26, 27, 28, 29, 30, 31, 9, 32, 33, 34, 35, 36, 37, 38, 39, 40, 41, 42, 43, 44, 45, 46, 47, 48, 49, 53, 54, 55, 56, 57, 58, 59, 60, 61] (by decide +kernel) (by decide +kernel)
set_option maxRecDepth 20000 in
theorem gX5_leastAnew_X4_leastOfAll : GoodIn wsX5_leastAnew (wsV RX5 172 RX4 yX4_leastOfAll wsX4_leastOfAll) := goodIn_app (goodIn_of _ (by decide +kernel)) ggX5_leastAnew_X4_leastOfAll
theorem dX5_leastAnew_0 : decode cX5_leastAnew 0 = .ok (.aload_n 0, 1) := by decide +kernel
theorem dX5_leastAnew_1 : decode cX5_leastAnew 1 = .ok (.getfield 19, 3) := by decide +kernel
theorem dX5_leastAnew_4 : decode cX5_leastAnew 4 = .ok (.iload_n 1, 1) := by decide +kernel
theorem dX5_leastAnew_5 : decode cX5_leastAnew 5 = .ok (.invokevirtual 108, 3) := by decide +kernel
theorem dX5_leastAnew_8 : decode cX5_leastAnew 8 = .ok (.ifCond .ne 13, 3) := by decide +kernel
theorem dX5_leastAnew_11 : decode cX5_leastAnew 11 = .ok (.new 112, 3) := by decide +kernel
theorem dX5_leastAnew_14 : decode cX5_leastAnew 14 = .ok (.dup, 1) := by decide +kernel
theorem dX5_leastAnew_15 : decode cX5_leastAnew 15 = .ok (.ldc 114, 2) := by decide +kernel
theorem dX5_leastAnew_17 : decode cX5_leastAnew 17 = .ok (.invokespecial 116, 3) := by decide +kernel
theorem dX5_leastAnew_20 : decode cX5_leastAnew 20 = .ok (.athrow, 1) := by decide +kernel
theorem dX5_leastAnew_21 : decode cX5_leastAnew 21 = .ok (.aload_n 0, 1) := by decide +kernel
theorem dX5_leastAnew_22 : decode cX5_leastAnew 22 = .ok (.getfield 19, 3) := by decide +kernel
theorem dX5_leastAnew_25 : decode cX5_leastAnew 25 = .ok (.iload_n 2, 1) := by decide +kernel
theorem dX5_leastAnew_26 : decode cX5_leastAnew 26 = .ok (.invokevirtual 117, 3) := by decide +kernel
theorem dX5_leastAnew_29 : decode cX5_leastAnew 29 = .ok (.ifCond .ne 13, 3) := by decide +kernel
theorem dX5_leastAnew_32 : decode cX5_leastAnew 32 = .ok (.new 34, 3) := by decide +kernel
theorem dX5_leastAnew_35 : decode cX5_leastAnew 35 = .ok (.dup, 1) := by decide +kernel
theorem dX5_leastAnew_36 : decode cX5_leastAnew 36 = .ok (.ldc 167, 2) := by decide +kernel
theorem dX5_leastAnew_38 : decode cX5_leastAnew 38 = .ok (.invokespecial 38, 3) := by decide +kernel
theorem dX5_leastAnew_41 : decode cX5_leastAnew 41 = .ok (.athrow, 1) := by decide +kernel
theorem dX5_leastAnew_42 : decode cX5_leastAnew 42 = .ok (.aload_n 0, 1) := by decide +kernel
theorem dX5_leastAnew_43 : decode cX5_leastAnew 43 = .ok (.getfield 19, 3) := by decide +kernel
theorem dX5_leastAnew_46 : decode cX5_leastAnew 46 = .ok (.iload_n 1, 1) := by decide +kernel
theorem dX5_leastAnew_47 : decode cX5_leastAnew 47 = .ok (.iload_n 2, 1) := by decide +kernel
theorem dX5_leastAnew_48 : decode cX5_leastAnew 48 = .ok (.invokevirtual 172, 3) := by decide +kernel
theorem dX5_leastAnew_51 : decode cX5_leastAnew 51 = .ok (.ireturn, 1) := by decide +kernel
set_option maxRecDepth 20000 in
theorem ggX5_ofPrinciple_X4_hasPrinciple : GoodIn wsX5_ofPrinciple wsX4_hasPrinciple := goodIn_r _ [10, 11, 12, 13, 14, 40, 41, 42, 43, 44, 45, 46, 47, 48] (by decide +kernel) (by decide +kernel)
set_option maxRecDepth 20000 in
theorem gX5_ofPrinciple_X4_hasPrinciple : GoodIn wsX5_ofPrinciple (wsV RX5 108 RX4 yX4_hasPrinciple wsX4_hasPrinciple) := goodIn_app (goodIn_of _ (by decide +kernel)) ggX5_ofPrinciple_X4_hasPrinciple
set_option maxRecDepth 20000 in
theorem ggX5_ofPrinciple_X5_isBelow : GoodIn wsX5_ofPrinciple wsX5_isBelow := goodIn_r _ [14] (by decide +kernel) (by decide +kernel)
set_option maxRecDepth 20000 in
theorem gX5_ofPrinciple_X5_isBelow : GoodIn wsX5_ofPrinciple (va_wsS RX5 83 yX5_isBelow wsX5_isBelow) := goodIn_app (goodIn_of _ (by decide +kernel)) ggX5_ofPrinciple_X5_isBelow
set_option maxRecDepth 20000 in
theorem ggX5_ofPrinciple_X4_tell : GoodIn wsX5_ofPrinciple wsX4_tell := goodIn_r _ [19, 20, 21, 22, 23, 24, 9, 25, 26, 27, 28, 29, 30, 31, 32, 33, 34, 35, 36, 40, 41, 42, 43, 44, 45, 46, 47, 48] (by decide +kernel) (by decide +kernel)
set_option maxRecDepth 20000 in
theorem gX5_ofPrinciple_X4_tell : GoodIn wsX5_ofPrinciple (wsV RX5 177 RX4 yX4_tell wsX4_tell) := goodIn_app (goodIn_of _ (by decide +kernel)) ggX5_ofPrinciple_X4_tell
theorem dX5_ofPrinciple_0 : decode cX5_ofPrinciple 0 = .ok (.aload_n 0, 1) := by decide +kernel
theorem dX5_ofPrinciple_1 : decode cX5_ofPrinciple 1 = .ok (.getfield 19, 3) := by decide +kernel
theorem dX5_ofPrinciple_4 : decode cX5_ofPrinciple 4 = .ok (.iload_n 1, 1) := by decide +kernel
theorem dX5_ofPrinciple_5 : decode cX5_ofPrinciple 5 = .ok (.invokevirtual 108, 3) := by decide +kernel
theorem dX5_ofPrinciple_8 : decode cX5_ofPrinciple 8 = .ok (.ifCond .ne 13, 3) := by decide +kernel
theorem dX5_ofPrinciple_11 : decode cX5_ofPrinciple 11 = .ok (.new 112, 3) := by decide +kernel
theorem dX5_ofPrinciple_14 : decode cX5_ofPrinciple 14 = .ok (.dup, 1) := by decide +kernel
theorem dX5_ofPrinciple_15 : decode cX5_ofPrinciple 15 = .ok (.ldc 114, 2) := by decide +kernel
theorem dX5_ofPrinciple_17 : decode cX5_ofPrinciple 17 = .ok (.invokespecial 116, 3) := by decide +kernel
theorem dX5_ofPrinciple_20 : decode cX5_ofPrinciple 20 = .ok (.athrow, 1) := by decide +kernel
theorem dX5_ofPrinciple_21 : decode cX5_ofPrinciple 21 = .ok (.iload_n 2, 1) := by decide +kernel
theorem dX5_ofPrinciple_22 : decode cX5_ofPrinciple 22 = .ok (.iconst 4, 1) := by decide +kernel
theorem dX5_ofPrinciple_23 : decode cX5_ofPrinciple 23 = .ok (.invokestatic 83, 3) := by decide +kernel
theorem dX5_ofPrinciple_26 : decode cX5_ofPrinciple 26 = .ok (.ifCond .ne 13, 3) := by decide +kernel
theorem dX5_ofPrinciple_29 : decode cX5_ofPrinciple 29 = .ok (.new 34, 3) := by decide +kernel
theorem dX5_ofPrinciple_32 : decode cX5_ofPrinciple 32 = .ok (.dup, 1) := by decide +kernel
theorem dX5_ofPrinciple_33 : decode cX5_ofPrinciple 33 = .ok (.ldc 175, 2) := by decide +kernel
theorem dX5_ofPrinciple_35 : decode cX5_ofPrinciple 35 = .ok (.invokespecial 38, 3) := by decide +kernel
theorem dX5_ofPrinciple_38 : decode cX5_ofPrinciple 38 = .ok (.athrow, 1) := by decide +kernel
theorem dX5_ofPrinciple_39 : decode cX5_ofPrinciple 39 = .ok (.aload_n 0, 1) := by decide +kernel
theorem dX5_ofPrinciple_40 : decode cX5_ofPrinciple 40 = .ok (.getfield 19, 3) := by decide +kernel
theorem dX5_ofPrinciple_43 : decode cX5_ofPrinciple 43 = .ok (.iload_n 1, 1) := by decide +kernel
theorem dX5_ofPrinciple_44 : decode cX5_ofPrinciple 44 = .ok (.iload_n 2, 1) := by decide +kernel
theorem dX5_ofPrinciple_45 : decode cX5_ofPrinciple 45 = .ok (.invokevirtual 177, 3) := by decide +kernel
theorem dX5_ofPrinciple_48 : decode cX5_ofPrinciple 48 = .ok (.ireturn, 1) := by decide +kernel
set_option maxRecDepth 20000 in
theorem ggX5_problem_X3_areInRange : GoodIn wsX5_problem wsX3_areInRange := goodIn_r _ [9, 10, 11, 12, 13, 14, 8, 15] (by decide +kernel) (by decide +kernel)
set_option maxRecDepth 20000 in
theorem gX5_problem_X3_areInRange : GoodIn wsX5_problem (va_wsS RX5 180 yX3_areInRange wsX3_areInRange) := goodIn_app (goodIn_of _ (by decide +kernel)) ggX5_problem_X3_areInRange
set_option maxRecDepth 20000 in
theorem ggX5_problem_X3_hasAll : GoodIn wsX5_problem wsX3_hasAll := goodIn_r _ [19, 20, 31, 32, 33, 34, 35, 36, 37] (by decide +kernel) (by decide +kernel)
set_option maxRecDepth 20000 in
theorem gX5_problem_X3_hasAll : GoodIn wsX5_problem (wsV RX5 185 RX3 yX3_hasAll wsX3_hasAll) := goodIn_app (goodIn_of _ (by decide +kernel)) ggX5_problem_X3_hasAll
set_option maxRecDepth 20000 in
theorem ggX5_problem_X3_add : GoodIn wsX5_problem wsX3_add := goodIn_r _ [24, 20, 25, 26, 27, 31, 32, 33, 34, 35, 36, 37] (by decide +kernel) (by decide +kernel)
set_option maxRecDepth 20000 in
theorem gX5_problem_X3_add : GoodIn wsX5_problem (wsV RX5 190 RX3 yX3_add wsX3_add) := goodIn_app (goodIn_of _ (by decide +kernel)) ggX5_problem_X3_add
theorem dX5_problem_0 : decode cX5_problem 0 = .ok (.iload_n 1, 1) := by decide +kernel
theorem dX5_problem_1 : decode cX5_problem 1 = .ok (.iload_n 2, 1) := by decide +kernel
theorem dX5_problem_2 : decode cX5_problem 2 = .ok (.iload_n 3, 1) := by decide +kernel
theorem dX5_problem_3 : decode cX5_problem 3 = .ok (.invokestatic 180, 3) := by decide +kernel
theorem dX5_problem_6 : decode cX5_problem 6 = .ok (.ifCond .ne 13, 3) := by decide +kernel
theorem dX5_problem_9 : decode cX5_problem 9 = .ok (.new 34, 3) := by decide +kernel
theorem dX5_problem_12 : decode cX5_problem 12 = .ok (.dup, 1) := by decide +kernel
theorem dX5_problem_13 : decode cX5_problem 13 = .ok (.ldc 183, 2) := by decide +kernel
theorem dX5_problem_15 : decode cX5_problem 15 = .ok (.invokespecial 38, 3) := by decide +kernel
theorem dX5_problem_18 : decode cX5_problem 18 = .ok (.athrow, 1) := by decide +kernel
theorem dX5_problem_19 : decode cX5_problem 19 = .ok (.aload_n 0, 1) := by decide +kernel
theorem dX5_problem_20 : decode cX5_problem 20 = .ok (.getfield 26, 3) := by decide +kernel
theorem dX5_problem_23 : decode cX5_problem 23 = .ok (.invokevirtual 185, 3) := by decide +kernel
theorem dX5_problem_26 : decode cX5_problem 26 = .ok (.ifCond .eq 13, 3) := by decide +kernel
theorem dX5_problem_29 : decode cX5_problem 29 = .ok (.new 45, 3) := by decide +kernel
theorem dX5_problem_32 : decode cX5_problem 32 = .ok (.dup, 1) := by decide +kernel
theorem dX5_problem_33 : decode cX5_problem 33 = .ok (.ldc 188, 2) := by decide +kernel
theorem dX5_problem_35 : decode cX5_problem 35 = .ok (.invokespecial 49, 3) := by decide +kernel
theorem dX5_problem_38 : decode cX5_problem 38 = .ok (.athrow, 1) := by decide +kernel
theorem dX5_problem_39 : decode cX5_problem 39 = .ok (.aload_n 0, 1) := by decide +kernel
theorem dX5_problem_40 : decode cX5_problem 40 = .ok (.getfield 26, 3) := by decide +kernel
theorem dX5_problem_43 : decode cX5_problem 43 = .ok (.iload_n 1, 1) := by decide +kernel
theorem dX5_problem_44 : decode cX5_problem 44 = .ok (.iload_n 2, 1) := by decide +kernel
theorem dX5_problem_45 : decode cX5_problem 45 = .ok (.iload_n 3, 1) := by decide +kernel
theorem dX5_problem_46 : decode cX5_problem 46 = .ok (.invokevirtual 190, 3) := by decide +kernel
theorem dX5_problem_49 : decode cX5_problem 49 = .ok (.ireturn, 1) := by decide +kernel
set_option maxRecDepth 20000 in
theorem ggX5_product_X3_hasBoth : GoodIn wsX5_product wsX3_hasBoth := goodIn_r _ [10, 11, 12, 13, 9, 14, 15, 16, 17, 18, 47, 48, 49, 50, 51, 52, 53] (by decide +kernel) (by decide +kernel)
set_option maxRecDepth 20000 in
theorem gX5_product_X3_hasBoth : GoodIn wsX5_product (wsV RX5 193 RX3 yX3_hasBoth wsX3_hasBoth) := goodIn_app (goodIn_of _ (by decide +kernel)) ggX5_product_X3_hasBoth
set_option maxRecDepth 20000 in
theorem ggX5_product_X3_hasAll : GoodIn wsX5_product wsX3_hasAll := goodIn_r _ [22, 15, 47, 48, 49, 50, 51, 52, 53] (by decide +kernel) (by decide +kernel)
set_option maxRecDepth 20000 in
theorem gX5_product_X3_hasAll : GoodIn wsX5_product (wsV RX5 185 RX3 yX3_hasAll wsX3_hasAll) := goodIn_app (goodIn_of _ (by decide +kernel)) ggX5_product_X3_hasAll
set_option maxRecDepth 20000 in
theorem ggX5_product_X3_canMultiply : GoodIn wsX5_product wsX3_canMultiply := goodIn_r _ [26, 27, 28, 47, 48, 49, 50, 51, 52, 53] (by decide +kernel) (by decide +kernel)
set_option maxRecDepth 20000 in
theorem gX5_product_X3_canMultiply : GoodIn wsX5_product (wsV RX5 198 RX3 yX3_canMultiply wsX3_canMultiply) := goodIn_app (goodIn_of _ (by decide +kernel)) ggX5_product_X3_canMultiply
set_option maxRecDepth 20000 in
theorem ggX5_product_X3_addProduct : GoodIn wsX5_product wsX3_addProduct := goodIn_r _ [32, 27, 33, 28, 34, 35, 9, 36, 37, 38, 39, 40, 41, 42, 43, 15, 47, 48, 49, 50, 51, 52, 53] (by decide +kernel) (by decide +kernel)
set_option maxRecDepth 20000 in
theorem gX5_product_X3_addProduct : GoodIn wsX5_product (wsV RX5 203 RX3 yX3_addProduct wsX3_addProduct) := goodIn_app (goodIn_of _ (by decide +kernel)) ggX5_product_X3_addProduct
theorem dX5_product_0 : decode cX5_product 0 = .ok (.aload_n 0, 1) := by decide +kernel
theorem dX5_product_1 : decode cX5_product 1 = .ok (.getfield 26, 3) := by decide +kernel
theorem dX5_product_4 : decode cX5_product 4 = .ok (.iload_n 1, 1) := by decide +kernel
theorem dX5_product_5 : decode cX5_product 5 = .ok (.iload_n 2, 1) := by decide +kernel
theorem dX5_product_6 : decode cX5_product 6 = .ok (.invokevirtual 193, 3) := by decide +kernel
theorem dX5_product_9 : decode cX5_product 9 = .ok (.ifCond .ne 13, 3) := by decide +kernel
theorem dX5_product_12 : decode cX5_product 12 = .ok (.new 112, 3) := by decide +kernel
theorem dX5_product_15 : decode cX5_product 15 = .ok (.dup, 1) := by decide +kernel
theorem dX5_product_16 : decode cX5_product 16 = .ok (.ldc 196, 2) := by decide +kernel
theorem dX5_product_18 : decode cX5_product 18 = .ok (.invokespecial 116, 3) := by decide +kernel
theorem dX5_product_21 : decode cX5_product 21 = .ok (.athrow, 1) := by decide +kernel
theorem dX5_product_22 : decode cX5_product 22 = .ok (.aload_n 0, 1) := by decide +kernel
theorem dX5_product_23 : decode cX5_product 23 = .ok (.getfield 26, 3) := by decide +kernel
theorem dX5_product_26 : decode cX5_product 26 = .ok (.invokevirtual 185, 3) := by decide +kernel
theorem dX5_product_29 : decode cX5_product 29 = .ok (.ifCond .ne 15, 3) := by decide +kernel
theorem dX5_product_32 : decode cX5_product 32 = .ok (.aload_n 0, 1) := by decide +kernel
theorem dX5_product_33 : decode cX5_product 33 = .ok (.getfield 26, 3) := by decide +kernel
theorem dX5_product_36 : decode cX5_product 36 = .ok (.iload_n 1, 1) := by decide +kernel
theorem dX5_product_37 : decode cX5_product 37 = .ok (.iload_n 2, 1) := by decide +kernel
theorem dX5_product_38 : decode cX5_product 38 = .ok (.invokevirtual 198, 3) := by decide +kernel
theorem dX5_product_41 : decode cX5_product 41 = .ok (.ifCond .ne 13, 3) := by decide +kernel
theorem dX5_product_44 : decode cX5_product 44 = .ok (.new 45, 3) := by decide +kernel
theorem dX5_product_47 : decode cX5_product 47 = .ok (.dup, 1) := by decide +kernel
theorem dX5_product_48 : decode cX5_product 48 = .ok (.ldc 201, 2) := by decide +kernel
theorem dX5_product_50 : decode cX5_product 50 = .ok (.invokespecial 49, 3) := by decide +kernel
theorem dX5_product_53 : decode cX5_product 53 = .ok (.athrow, 1) := by decide +kernel
theorem dX5_product_54 : decode cX5_product 54 = .ok (.aload_n 0, 1) := by decide +kernel
theorem dX5_product_55 : decode cX5_product 55 = .ok (.getfield 26, 3) := by decide +kernel
theorem dX5_product_58 : decode cX5_product 58 = .ok (.iload_n 1, 1) := by decide +kernel
theorem dX5_product_59 : decode cX5_product 59 = .ok (.iload_n 2, 1) := by decide +kernel
theorem dX5_product_60 : decode cX5_product 60 = .ok (.invokevirtual 203, 3) := by decide +kernel
theorem dX5_product_63 : decode cX5_product 63 = .ok (.ireturn, 1) := by decide +kernel
set_option maxRecDepth 20000 in
theorem ggX5_reduces_X3_hasBoth : GoodIn wsX5_reduces wsX3_hasBoth := goodIn_r _ [8, 9, 10, 11, 7, 12, 13, 14, 15, 16, 66, 67, 68, 69, 70, 71, 72] (by decide +kernel) (by decide +kernel)
set_option maxRecDepth 20000 in
theorem gX5_reduces_X3_hasBoth : GoodIn wsX5_reduces (wsV RX5 193 RX3 yX3_hasBoth wsX3_hasBoth) := goodIn_app (goodIn_of _ (by decide +kernel)) ggX5_reduces_X3_hasBoth
set_option maxRecDepth 20000 in
theorem ggX5_reduces_X3_lowestCode : GoodIn wsX5_reduces wsX3_lowestCode := goodIn_r _ [20, 21, 22, 23, 24, 7, 25, 26, 27, 28, 29, 30, 31, 32, 33, 34, 35, 36, 37, 38, 39, 40, 41, 42, 43, 44, 45, 46, 47, 48, 49, 50, 51, 52, 53, 54, 55, 56, 57, 58, 59, 60, 61, 62, 66, 67, 68, 69, 70, 71, 72] (by decide +kernel) (by decide +kernel)
set_option maxRecDepth 20000 in
theorem gX5_reduces_X3_lowestCode : GoodIn wsX5_reduces (wsV RX5 206 RX3 yX3_lowestCode wsX3_lowestCode) := goodIn_app (goodIn_of _ (by decide +kernel)) ggX5_reduces_X3_lowestCode
theorem dX5_reduces_0 : decode cX5_reduces 0 = .ok (.aload_n 0, 1) := by decide +kernel
theorem dX5_reduces_1 : decode cX5_reduces 1 = .ok (.getfield 26, 3) := by decide +kernel
theorem dX5_reduces_4 : decode cX5_reduces 4 = .ok (.iload_n 1, 1) := by decide +kernel
theorem dX5_reduces_5 : decode cX5_reduces 5 = .ok (.iload_n 2, 1) := by decide +kernel
theorem dX5_reduces_6 : decode cX5_reduces 6 = .ok (.invokevirtual 193, 3) := by decide +kernel
theorem dX5_reduces_9 : decode cX5_reduces 9 = .ok (.ifCond .ne 13, 3) := by decide +kernel
theorem dX5_reduces_12 : decode cX5_reduces 12 = .ok (.new 112, 3) := by decide +kernel
theorem dX5_reduces_15 : decode cX5_reduces 15 = .ok (.dup, 1) := by decide +kernel
theorem dX5_reduces_16 : decode cX5_reduces 16 = .ok (.ldc 196, 2) := by decide +kernel
theorem dX5_reduces_18 : decode cX5_reduces 18 = .ok (.invokespecial 116, 3) := by decide +kernel
theorem dX5_reduces_21 : decode cX5_reduces 21 = .ok (.athrow, 1) := by decide +kernel
theorem dX5_reduces_22 : decode cX5_reduces 22 = .ok (.aload_n 0, 1) := by decide +kernel
theorem dX5_reduces_23 : decode cX5_reduces 23 = .ok (.getfield 26, 3) := by decide +kernel
theorem dX5_reduces_26 : decode cX5_reduces 26 = .ok (.iload_n 1, 1) := by decide +kernel
theorem dX5_reduces_27 : decode cX5_reduces 27 = .ok (.iload_n 2, 1) := by decide +kernel
theorem dX5_reduces_28 : decode cX5_reduces 28 = .ok (.iconst 0, 1) := by decide +kernel
theorem dX5_reduces_29 : decode cX5_reduces 29 = .ok (.invokevirtual 206, 3) := by decide +kernel
theorem dX5_reduces_32 : decode cX5_reduces 32 = .ok (.ireturn, 1) := by decide +kernel
set_option maxRecDepth 20000 in
theorem ggX5_reducesAnew_X3_hasBoth : GoodIn wsX5_reducesAnew wsX3_hasBoth := goodIn_r _ [8, 9, 10, 11, 7, 12, 13, 14, 15, 16, 66, 67, 68, 69, 70, 71, 72] (by decide +kernel) (by decide +kernel)
set_option maxRecDepth 20000 in
theorem gX5_reducesAnew_X3_hasBoth : GoodIn wsX5_reducesAnew (wsV RX5 193 RX3 yX3_hasBoth wsX3_hasBoth) := goodIn_app (goodIn_of _ (by decide +kernel)) ggX5_reducesAnew_X3_hasBoth
set_option maxRecDepth 20000 in
theorem ggX5_reducesAnew_X3_lowestCode : GoodIn wsX5_reducesAnew wsX3_lowestCode := goodIn_r _ [20, 21, 22, 23, 24, 7, 25, 26, 27, 28, 29, 30, 31, 32, 33, 34, 35, 36, 37, 38, 39, 40, 41, 42, 43, 44, 45, 46, 47, 48, 49, 50, 51, 52, 53, 54, 55, 56, 57, 58, 59, 60, 61, 62, 66, 67, 68, 69, 70, 71, 72] (by decide +kernel) (by decide +kernel)
set_option maxRecDepth 20000 in
theorem gX5_reducesAnew_X3_lowestCode : GoodIn wsX5_reducesAnew (wsV RX5 206 RX3 yX3_lowestCode wsX3_lowestCode) := goodIn_app (goodIn_of _ (by decide +kernel)) ggX5_reducesAnew_X3_lowestCode
theorem dX5_reducesAnew_0 : decode cX5_reducesAnew 0 = .ok (.aload_n 0, 1) := by decide +kernel
theorem dX5_reducesAnew_1 : decode cX5_reducesAnew 1 = .ok (.getfield 26, 3) := by decide +kernel
theorem dX5_reducesAnew_4 : decode cX5_reducesAnew 4 = .ok (.iload_n 1, 1) := by decide +kernel
theorem dX5_reducesAnew_5 : decode cX5_reducesAnew 5 = .ok (.iload_n 2, 1) := by decide +kernel
theorem dX5_reducesAnew_6 : decode cX5_reducesAnew 6 = .ok (.invokevirtual 193, 3) := by decide +kernel
theorem dX5_reducesAnew_9 : decode cX5_reducesAnew 9 = .ok (.ifCond .ne 13, 3) := by decide +kernel
theorem dX5_reducesAnew_12 : decode cX5_reducesAnew 12 = .ok (.new 112, 3) := by decide +kernel
theorem dX5_reducesAnew_15 : decode cX5_reducesAnew 15 = .ok (.dup, 1) := by decide +kernel
theorem dX5_reducesAnew_16 : decode cX5_reducesAnew 16 = .ok (.ldc 196, 2) := by decide +kernel
theorem dX5_reducesAnew_18 : decode cX5_reducesAnew 18 = .ok (.invokespecial 116, 3) := by decide +kernel
theorem dX5_reducesAnew_21 : decode cX5_reducesAnew 21 = .ok (.athrow, 1) := by decide +kernel
theorem dX5_reducesAnew_22 : decode cX5_reducesAnew 22 = .ok (.aload_n 0, 1) := by decide +kernel
theorem dX5_reducesAnew_23 : decode cX5_reducesAnew 23 = .ok (.getfield 26, 3) := by decide +kernel
theorem dX5_reducesAnew_26 : decode cX5_reducesAnew 26 = .ok (.iload_n 1, 1) := by decide +kernel
theorem dX5_reducesAnew_27 : decode cX5_reducesAnew 27 = .ok (.iload_n 2, 1) := by decide +kernel
theorem dX5_reducesAnew_28 : decode cX5_reducesAnew 28 = .ok (.iconst 1, 1) := by decide +kernel
theorem dX5_reducesAnew_29 : decode cX5_reducesAnew 29 = .ok (.invokevirtual 206, 3) := by decide +kernel
theorem dX5_reducesAnew_32 : decode cX5_reducesAnew 32 = .ok (.ireturn, 1) := by decide +kernel
set_option maxRecDepth 20000 in
theorem ggX5_forth_X3_hasBoth : GoodIn wsX5_forth wsX3_hasBoth := goodIn_r _ [8, 9, 10, 11, 7, 12, 13, 14, 15, 16, 74, 75, 76, 77, 78, 79, 80] (by decide +kernel) (by decide +kernel)
set_option maxRecDepth 20000 in
theorem gX5_forth_X3_hasBoth : GoodIn wsX5_forth (wsV RX5 193 RX3 yX3_hasBoth wsX3_hasBoth) := goodIn_app (goodIn_of _ (by decide +kernel)) ggX5_forth_X3_hasBoth
set_option maxRecDepth 20000 in
theorem ggX5_forth_X3_hasInstance : GoodIn wsX5_forth wsX3_hasInstance := goodIn_r _ [20, 21, 14, 15, 16, 74, 75, 76, 77, 78, 79, 80] (by decide +kernel) (by decide +kernel)
set_option maxRecDepth 20000 in
theorem gX5_forth_X3_hasInstance : GoodIn wsX5_forth (wsV RX5 210 RX3 yX3_hasInstance wsX3_hasInstance) := goodIn_app (goodIn_of _ (by decide +kernel)) ggX5_forth_X3_hasInstance
set_option maxRecDepth 20000 in
theorem ggX5_forth_X3_forthOf : GoodIn wsX5_forth wsX3_forthOf := goodIn_r _ [25, 26, 27, 28, 7, 29, 30, 31, 32, 33, 34, 35, 36, 37, 38, 39, 40, 41, 21, 42, 43, 44, 45, 46, 47, 48, 49, 50, 51, 52, 53, 54, 55, 56, 57, 58, 59, 60, 61, 62, 63, 64, 65, 66, 67, 68, 69, 70, 74, 75, 76, 77, 78, 79, 80] (by decide +kernel) (by decide +kernel)
set_option maxRecDepth 20000 in
theorem gX5_forth_X3_forthOf : GoodIn wsX5_forth (wsV RX5 215 RX3 yX3_forthOf wsX3_forthOf) := goodIn_app (goodIn_of _ (by decide +kernel)) ggX5_forth_X3_forthOf
theorem dX5_forth_0 : decode cX5_forth 0 = .ok (.aload_n 0, 1) := by decide +kernel
theorem dX5_forth_1 : decode cX5_forth 1 = .ok (.getfield 26, 3) := by decide +kernel
theorem dX5_forth_4 : decode cX5_forth 4 = .ok (.iload_n 1, 1) := by decide +kernel
theorem dX5_forth_5 : decode cX5_forth 5 = .ok (.iload_n 2, 1) := by decide +kernel
theorem dX5_forth_6 : decode cX5_forth 6 = .ok (.invokevirtual 193, 3) := by decide +kernel
theorem dX5_forth_9 : decode cX5_forth 9 = .ok (.ifCond .eq 15, 3) := by decide +kernel
theorem dX5_forth_12 : decode cX5_forth 12 = .ok (.aload_n 0, 1) := by decide +kernel
theorem dX5_forth_13 : decode cX5_forth 13 = .ok (.getfield 26, 3) := by decide +kernel
theorem dX5_forth_16 : decode cX5_forth 16 = .ok (.iload_n 1, 1) := by decide +kernel
theorem dX5_forth_17 : decode cX5_forth 17 = .ok (.iload_n 3, 1) := by decide +kernel
theorem dX5_forth_18 : decode cX5_forth 18 = .ok (.invokevirtual 210, 3) := by decide +kernel
theorem dX5_forth_21 : decode cX5_forth 21 = .ok (.ifCond .ne 13, 3) := by decide +kernel
theorem dX5_forth_24 : decode cX5_forth 24 = .ok (.new 112, 3) := by decide +kernel
theorem dX5_forth_27 : decode cX5_forth 27 = .ok (.dup, 1) := by decide +kernel
theorem dX5_forth_28 : decode cX5_forth 28 = .ok (.ldc 213, 2) := by decide +kernel
theorem dX5_forth_30 : decode cX5_forth 30 = .ok (.invokespecial 116, 3) := by decide +kernel
theorem dX5_forth_33 : decode cX5_forth 33 = .ok (.athrow, 1) := by decide +kernel
theorem dX5_forth_34 : decode cX5_forth 34 = .ok (.aload_n 0, 1) := by decide +kernel
theorem dX5_forth_35 : decode cX5_forth 35 = .ok (.getfield 26, 3) := by decide +kernel
theorem dX5_forth_38 : decode cX5_forth 38 = .ok (.iload_n 1, 1) := by decide +kernel
theorem dX5_forth_39 : decode cX5_forth 39 = .ok (.iload_n 2, 1) := by decide +kernel
theorem dX5_forth_40 : decode cX5_forth 40 = .ok (.iload_n 3, 1) := by decide +kernel
theorem dX5_forth_41 : decode cX5_forth 41 = .ok (.invokevirtual 215, 3) := by decide +kernel
theorem dX5_forth_44 : decode cX5_forth 44 = .ok (.ireturn, 1) := by decide +kernel
set_option maxRecDepth 20000 in
theorem ggX5_ofProblem_X3_hasNumber : GoodIn wsX5_ofProblem wsX3_hasNumber := goodIn_r _ [10, 11, 12, 13, 14, 26, 27, 28, 29, 30, 31, 32] (by decide +kernel) (by decide +kernel)
set_option maxRecDepth 20000 in
theorem gX5_ofProblem_X3_hasNumber : GoodIn wsX5_ofProblem (wsV RX5 218 RX3 yX3_hasNumber wsX3_hasNumber) := goodIn_app (goodIn_of _ (by decide +kernel)) ggX5_ofProblem_X3_hasNumber
set_option maxRecDepth 20000 in
theorem ggX5_ofProblem_X5_isBelow : GoodIn wsX5_ofProblem wsX5_isBelow := goodIn_r _ [14] (by decide +kernel) (by decide +kernel)
set_option maxRecDepth 20000 in
theorem gX5_ofProblem_X5_isBelow : GoodIn wsX5_ofProblem (va_wsS RX5 83 yX5_isBelow wsX5_isBelow) := goodIn_app (goodIn_of _ (by decide +kernel)) ggX5_ofProblem_X5_isBelow
set_option maxRecDepth 20000 in
theorem ggX5_ofProblem_X3_tell : GoodIn wsX5_ofProblem wsX3_tell := goodIn_r _ [19, 20, 21, 22, 26, 27, 28, 29, 30, 31, 32] (by decide +kernel) (by decide +kernel)
set_option maxRecDepth 20000 in
theorem gX5_ofProblem_X3_tell : GoodIn wsX5_ofProblem (wsV RX5 221 RX3 yX3_tell wsX3_tell) := goodIn_app (goodIn_of _ (by decide +kernel)) ggX5_ofProblem_X3_tell
theorem dX5_ofProblem_0 : decode cX5_ofProblem 0 = .ok (.aload_n 0, 1) := by decide +kernel
theorem dX5_ofProblem_1 : decode cX5_ofProblem 1 = .ok (.getfield 26, 3) := by decide +kernel
theorem dX5_ofProblem_4 : decode cX5_ofProblem 4 = .ok (.iload_n 1, 1) := by decide +kernel
theorem dX5_ofProblem_5 : decode cX5_ofProblem 5 = .ok (.invokevirtual 218, 3) := by decide +kernel
theorem dX5_ofProblem_8 : decode cX5_ofProblem 8 = .ok (.ifCond .ne 13, 3) := by decide +kernel
theorem dX5_ofProblem_11 : decode cX5_ofProblem 11 = .ok (.new 112, 3) := by decide +kernel
theorem dX5_ofProblem_14 : decode cX5_ofProblem 14 = .ok (.dup, 1) := by decide +kernel
theorem dX5_ofProblem_15 : decode cX5_ofProblem 15 = .ok (.ldc 196, 2) := by decide +kernel
theorem dX5_ofProblem_17 : decode cX5_ofProblem 17 = .ok (.invokespecial 116, 3) := by decide +kernel
theorem dX5_ofProblem_20 : decode cX5_ofProblem 20 = .ok (.athrow, 1) := by decide +kernel
theorem dX5_ofProblem_21 : decode cX5_ofProblem 21 = .ok (.iload_n 2, 1) := by decide +kernel
theorem dX5_ofProblem_22 : decode cX5_ofProblem 22 = .ok (.iconst 3, 1) := by decide +kernel
theorem dX5_ofProblem_23 : decode cX5_ofProblem 23 = .ok (.invokestatic 83, 3) := by decide +kernel
theorem dX5_ofProblem_26 : decode cX5_ofProblem 26 = .ok (.ifCond .ne 13, 3) := by decide +kernel
theorem dX5_ofProblem_29 : decode cX5_ofProblem 29 = .ok (.new 34, 3) := by decide +kernel
theorem dX5_ofProblem_32 : decode cX5_ofProblem 32 = .ok (.dup, 1) := by decide +kernel
theorem dX5_ofProblem_33 : decode cX5_ofProblem 33 = .ok (.ldc 175, 2) := by decide +kernel
theorem dX5_ofProblem_35 : decode cX5_ofProblem 35 = .ok (.invokespecial 38, 3) := by decide +kernel
theorem dX5_ofProblem_38 : decode cX5_ofProblem 38 = .ok (.athrow, 1) := by decide +kernel
theorem dX5_ofProblem_39 : decode cX5_ofProblem 39 = .ok (.aload_n 0, 1) := by decide +kernel
theorem dX5_ofProblem_40 : decode cX5_ofProblem 40 = .ok (.getfield 26, 3) := by decide +kernel
theorem dX5_ofProblem_43 : decode cX5_ofProblem 43 = .ok (.iload_n 1, 1) := by decide +kernel
theorem dX5_ofProblem_44 : decode cX5_ofProblem 44 = .ok (.iload_n 2, 1) := by decide +kernel
theorem dX5_ofProblem_45 : decode cX5_ofProblem 45 = .ok (.invokevirtual 221, 3) := by decide +kernel
theorem dX5_ofProblem_48 : decode cX5_ofProblem 48 = .ok (.ireturn, 1) := by decide +kernel
set_option maxRecDepth 20000 in
theorem ggX5_has_X1_isInRange : GoodIn wsX5_has wsX1_isInRange := goodIn_r _ [6, 7, 8, 9] (by decide +kernel) (by decide +kernel)
set_option maxRecDepth 20000 in
theorem gX5_has_X1_isInRange : GoodIn wsX5_has (va_wsS RX5 222 yX1_isInRange wsX1_isInRange) := goodIn_app (goodIn_of _ (by decide +kernel)) ggX5_has_X1_isInRange
set_option maxRecDepth 20000 in
theorem ggX5_has_X1_isWonBackwards : GoodIn wsX5_has wsX1_isWonBackwards := goodIn_r _ [12, 13, 14, 5, 15, 16, 17, 18] (by decide +kernel) (by decide +kernel)
set_option maxRecDepth 20000 in
theorem gX5_has_X1_isWonBackwards : GoodIn wsX5_has (va_wsS RX5 229 yX1_isWonBackwards wsX1_isWonBackwards) := goodIn_app (goodIn_of _ (by decide +kernel)) ggX5_has_X1_isWonBackwards
theorem dX5_has_0 : decode cX5_has 0 = .ok (.iload_n 1, 1) := by decide +kernel
theorem dX5_has_1 : decode cX5_has 1 = .ok (.iload_n 2, 1) := by decide +kernel
theorem dX5_has_2 : decode cX5_has 2 = .ok (.invokestatic 222, 3) := by decide +kernel
theorem dX5_has_5 : decode cX5_has 5 = .ok (.ifCond .ne 13, 3) := by decide +kernel
theorem dX5_has_8 : decode cX5_has 8 = .ok (.new 34, 3) := by decide +kernel
theorem dX5_has_11 : decode cX5_has 11 = .ok (.dup, 1) := by decide +kernel
theorem dX5_has_12 : decode cX5_has 12 = .ok (.ldc 227, 2) := by decide +kernel
theorem dX5_has_14 : decode cX5_has 14 = .ok (.invokespecial 38, 3) := by decide +kernel
theorem dX5_has_17 : decode cX5_has 17 = .ok (.athrow, 1) := by decide +kernel
theorem dX5_has_18 : decode cX5_has 18 = .ok (.iload_n 1, 1) := by decide +kernel
theorem dX5_has_19 : decode cX5_has 19 = .ok (.iload_n 2, 1) := by decide +kernel
theorem dX5_has_20 : decode cX5_has 20 = .ok (.invokestatic 229, 3) := by decide +kernel
theorem dX5_has_23 : decode cX5_has 23 = .ok (.ireturn, 1) := by decide +kernel
set_option maxRecDepth 20000 in
theorem ggX5_hasAnew_X1_isInRange : GoodIn wsX5_hasAnew wsX1_isInRange := goodIn_r _ [6, 7, 8, 9] (by decide +kernel) (by decide +kernel)
set_option maxRecDepth 20000 in
theorem gX5_hasAnew_X1_isInRange : GoodIn wsX5_hasAnew (va_wsS RX5 222 yX1_isInRange wsX1_isInRange) := goodIn_app (goodIn_of _ (by decide +kernel)) ggX5_hasAnew_X1_isInRange
set_option maxRecDepth 20000 in
theorem ggX5_hasAnew_X1_isWonBySomePlan : GoodIn wsX5_hasAnew wsX1_isWonBySomePlan := goodIn_r _ [12, 13, 14, 5, 15, 16, 17, 18, 19, 20, 21] (by decide +kernel) (by decide +kernel)
set_option maxRecDepth 20000 in
theorem gX5_hasAnew_X1_isWonBySomePlan : GoodIn wsX5_hasAnew (va_wsS RX5 232 yX1_isWonBySomePlan wsX1_isWonBySomePlan) := goodIn_app (goodIn_of _ (by decide +kernel)) ggX5_hasAnew_X1_isWonBySomePlan
theorem dX5_hasAnew_0 : decode cX5_hasAnew 0 = .ok (.iload_n 1, 1) := by decide +kernel
theorem dX5_hasAnew_1 : decode cX5_hasAnew 1 = .ok (.iload_n 2, 1) := by decide +kernel
theorem dX5_hasAnew_2 : decode cX5_hasAnew 2 = .ok (.invokestatic 222, 3) := by decide +kernel
theorem dX5_hasAnew_5 : decode cX5_hasAnew 5 = .ok (.ifCond .ne 13, 3) := by decide +kernel
theorem dX5_hasAnew_8 : decode cX5_hasAnew 8 = .ok (.new 34, 3) := by decide +kernel
theorem dX5_hasAnew_11 : decode cX5_hasAnew 11 = .ok (.dup, 1) := by decide +kernel
theorem dX5_hasAnew_12 : decode cX5_hasAnew 12 = .ok (.ldc 227, 2) := by decide +kernel
theorem dX5_hasAnew_14 : decode cX5_hasAnew 14 = .ok (.invokespecial 38, 3) := by decide +kernel
theorem dX5_hasAnew_17 : decode cX5_hasAnew 17 = .ok (.athrow, 1) := by decide +kernel
theorem dX5_hasAnew_18 : decode cX5_hasAnew 18 = .ok (.iload_n 1, 1) := by decide +kernel
theorem dX5_hasAnew_19 : decode cX5_hasAnew 19 = .ok (.iload_n 2, 1) := by decide +kernel
theorem dX5_hasAnew_20 : decode cX5_hasAnew 20 = .ok (.invokestatic 232, 3) := by decide +kernel
theorem dX5_hasAnew_23 : decode cX5_hasAnew 23 = .ok (.ireturn, 1) := by decide +kernel
theorem dX5_isBelow_0 : decode cX5_isBelow 0 = .ok (.iload_n 0, 1) := by decide +kernel
theorem dX5_isBelow_1 : decode cX5_isBelow 1 = .ok (.ifCond .lt 12, 3) := by decide +kernel
theorem dX5_isBelow_4 : decode cX5_isBelow 4 = .ok (.iload_n 0, 1) := by decide +kernel
theorem dX5_isBelow_5 : decode cX5_isBelow 5 = .ok (.iload_n 1, 1) := by decide +kernel
theorem dX5_isBelow_6 : decode cX5_isBelow 6 = .ok (.if_icmp .ge 7, 3) := by decide +kernel
theorem dX5_isBelow_9 : decode cX5_isBelow 9 = .ok (.iconst 1, 1) := by decide +kernel
theorem dX5_isBelow_10 : decode cX5_isBelow 10 = .ok (.goto 4, 3) := by decide +kernel
theorem dX5_isBelow_13 : decode cX5_isBelow 13 = .ok (.iconst 0, 1) := by decide +kernel
theorem dX5_isBelow_14 : decode cX5_isBelow 14 = .ok (.ireturn, 1) := by decide +kernel
theorem dX5_isBetween_0 : decode cX5_isBetween 0 = .ok (.iload_n 1, 1) := by decide +kernel
theorem dX5_isBetween_1 : decode cX5_isBetween 1 = .ok (.iload_n 0, 1) := by decide +kernel
theorem dX5_isBetween_2 : decode cX5_isBetween 2 = .ok (.if_icmp .lt 12, 3) := by decide +kernel
theorem dX5_isBetween_5 : decode cX5_isBetween 5 = .ok (.iload_n 1, 1) := by decide +kernel
theorem dX5_isBetween_6 : decode cX5_isBetween 6 = .ok (.iload_n 2, 1) := by decide +kernel
theorem dX5_isBetween_7 : decode cX5_isBetween 7 = .ok (.if_icmp .gt 7, 3) := by decide +kernel
theorem dX5_isBetween_10 : decode cX5_isBetween 10 = .ok (.iconst 1, 1) := by decide +kernel
theorem dX5_isBetween_11 : decode cX5_isBetween 11 = .ok (.goto 4, 3) := by decide +kernel
theorem dX5_isBetween_14 : decode cX5_isBetween 14 = .ok (.iconst 0, 1) := by decide +kernel
theorem dX5_isBetween_15 : decode cX5_isBetween 15 = .ok (.ireturn, 1) := by decide +kernel
