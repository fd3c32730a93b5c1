set_option maxRecDepth 20000 in
theorem ggL_letter_X5_letter : GoodIn wsL_letter wsX5_letter := goodIn_ca (goodIn_ca (goodIn_r _ [7, 8, 9, 10, 11, 12, 13, 14, 15, 16, 17, 18, 19, 20, 21, 22, 23, 24, 25, 26, 27, 28, 29, 30, 31, 32, 33, 34, 35, 36, 37, 38, 39, 40, 41, 42, 43, 44, 45, 46, 47, 48, 49, 50, 51, 52, 53, 54, 55, 56, 57, 58, 59, 60, 61, 62, 63, 64, 65, 66, 67, 68, 69, 70, 71, 72, 73, 74, 75, 76, 77, 78, 79, 80, 81, 82, 83, 84, 85, 86, 87, 88, 89, 90, 91, 92, 93, 94, 95, 96, 97, 98, 99, 100, 101, 102, 103, 104, 105, 106, 107, 108, 109, 110, 111, 112, 113, 114, 115, 116, 117, 118, 119, 120, 121, 122, 123, 124, 125, 126, 127, 128, 129, 130, 131, 132, 133, 134, 135, 136, 137, 138, 139, 140, 141, 142, 143, 144, 145, 146, 147, 148, 149, 150, 151, 152, 153, 154, 155, 156, 157, 158, 159, 160, 161, 162, 163, 164, 165, 166, 167, 168, 169, 170, 171, 172, 173, 174, 175, 176, 177, 178, 179, 180, 181, 182, 183, 184, 185, 186, 187, 188, 189, 190, 191, 192, 193, 194, 195, 196, 197, 198, 199, 200, 201, 202, 203, 204, 205, 206, 207, 208, 209, 210, 211, 212, 213, 214, 215, 216, 217, 218, 219, 220, 221, 222, 223, 224] (by decide +kernel) (by decide +kernel)) (goodIn_sub (fun _ h => List.mem_cons_of_mem _ (List.mem_append_left _ (List.mem_append_right _ h))) (by decide +kernel))) (goodIn_sub (fun _ h => List.mem_cons_of_mem _ (List.mem_append_right _ h)) (by decide +kernel))
set_option maxRecDepth 20000 in
theorem gL_letter_X5_letter : GoodIn wsL_letter (wsV RL 7 RX5 yX5_letter wsX5_letter) := goodIn_app (goodIn_of _ (by decide +kernel)) ggL_letter_X5_letter
theorem dL_letter_0 : decode cL_letter 0 = .ok (.aload_n 2, 1) := by decide +kernel
theorem dL_letter_1 : decode cL_letter 1 = .ok (.iconst 0, 1) := by decide +kernel
theorem dL_letter_2 : decode cL_letter 2 = .ok (.aload_n 0, 1) := by decide +kernel
theorem dL_letter_3 : decode cL_letter 3 = .ok (.iload_n 1, 1) := by decide +kernel
theorem dL_letter_4 : decode cL_letter 4 = .ok (.invokevirtual 7, 3) := by decide +kernel
theorem dL_letter_7 : decode cL_letter 7 = .ok (.i2l, 1) := by decide +kernel
theorem dL_letter_8 : decode cL_letter 8 = .ok (.lastore, 1) := by decide +kernel
theorem dL_letter_9 : decode cL_letter 9 = .ok (.goto 9, 3) := by decide +kernel
theorem dL_letter_12 : decode cL_letter 12 = .ok (.astore_n 3, 1) := by decide +kernel
theorem dL_letter_13 : decode cL_letter 13 = .ok (.iconst 1, 1) := by decide +kernel
theorem dL_letter_14 : decode cL_letter 14 = .ok (.ireturn, 1) := by decide +kernel
theorem dL_letter_15 : decode cL_letter 15 = .ok (.astore_n 3, 1) := by decide +kernel
theorem dL_letter_16 : decode cL_letter 16 = .ok (.iconst 2, 1) := by decide +kernel
theorem dL_letter_17 : decode cL_letter 17 = .ok (.ireturn, 1) := by decide +kernel
theorem dL_letter_18 : decode cL_letter 18 = .ok (.iconst 0, 1) := by decide +kernel
theorem dL_letter_19 : decode cL_letter 19 = .ok (.ireturn, 1) := by decide +kernel
set_option maxRecDepth 20000 in
theorem ggL_isSo_X5_isSo : GoodIn wsL_isSo wsX5_isSo := goodIn_ca (goodIn_ca (goodIn_r _ [7, 8, 9, 10, 11, 12, 13, 14, 6, 15, 16, 17, 18, 19, 20, 21, 22, 23, 24, 25, 26, 27, 28, 29, 30, 31, 32, 33, 34, 35, 36, 37, 38, 39, 40, 41, 42, 43, 44, 45, 46, 47, 48, 49, 50, 51, 52, 53, 54, 55, 56, 57, 58, 59, 60, 61, 62, 63, 64, 65, 66, 67, 68, 69, 70, 71, 72, 73, 74, 75] (by decide +kernel) (by decide +kernel)) (goodIn_sub (fun _ h => List.mem_cons_of_mem _ (List.mem_append_left _ (List.mem_append_right _ h))) (by decide +kernel))) (goodIn_sub (fun _ h => List.mem_cons_of_mem _ (List.mem_append_right _ h)) (by decide +kernel))
set_option maxRecDepth 20000 in
theorem gL_isSo_X5_isSo : GoodIn wsL_isSo (wsV RL 17 RX5 yX5_isSo wsX5_isSo) := goodIn_app (goodIn_of _ (by decide +kernel)) ggL_isSo_X5_isSo
theorem dL_isSo_0 : decode cL_isSo 0 = .ok (.aload 5, 2) := by decide +kernel
theorem dL_isSo_2 : decode cL_isSo 2 = .ok (.iconst 0, 1) := by decide +kernel
theorem dL_isSo_3 : decode cL_isSo 3 = .ok (.aload_n 0, 1) := by decide +kernel
theorem dL_isSo_4 : decode cL_isSo 4 = .ok (.iload_n 1, 1) := by decide +kernel
theorem dL_isSo_5 : decode cL_isSo 5 = .ok (.iload_n 2, 1) := by decide +kernel
theorem dL_isSo_6 : decode cL_isSo 6 = .ok (.iload_n 3, 1) := by decide +kernel
theorem dL_isSo_7 : decode cL_isSo 7 = .ok (.iload 4, 2) := by decide +kernel
theorem dL_isSo_9 : decode cL_isSo 9 = .ok (.invokevirtual 17, 3) := by decide +kernel
theorem dL_isSo_12 : decode cL_isSo 12 = .ok (.ifCond .eq 7, 3) := by decide +kernel
theorem dL_isSo_15 : decode cL_isSo 15 = .ok (.lconst 1, 1) := by decide +kernel
theorem dL_isSo_16 : decode cL_isSo 16 = .ok (.goto 4, 3) := by decide +kernel
theorem dL_isSo_19 : decode cL_isSo 19 = .ok (.lconst 0, 1) := by decide +kernel
theorem dL_isSo_20 : decode cL_isSo 20 = .ok (.lastore, 1) := by decide +kernel
theorem dL_isSo_21 : decode cL_isSo 21 = .ok (.goto 11, 3) := by decide +kernel
theorem dL_isSo_24 : decode cL_isSo 24 = .ok (.astore 6, 2) := by decide +kernel
theorem dL_isSo_26 : decode cL_isSo 26 = .ok (.iconst 1, 1) := by decide +kernel
theorem dL_isSo_27 : decode cL_isSo 27 = .ok (.ireturn, 1) := by decide +kernel
theorem dL_isSo_28 : decode cL_isSo 28 = .ok (.astore 6, 2) := by decide +kernel
theorem dL_isSo_30 : decode cL_isSo 30 = .ok (.iconst 2, 1) := by decide +kernel
theorem dL_isSo_31 : decode cL_isSo 31 = .ok (.ireturn, 1) := by decide +kernel
theorem dL_isSo_32 : decode cL_isSo 32 = .ok (.iconst 0, 1) := by decide +kernel
theorem dL_isSo_33 : decode cL_isSo 33 = .ok (.ireturn, 1) := by decide +kernel
set_option maxRecDepth 20000 in
theorem ggL_principle_X5_principle : GoodIn wsL_principle wsX5_principle := goodIn_ca (goodIn_r _ [6, 7, 8, 9, 10, 11, 12, 13, 14, 15, 16, 17, 18, 19, 20, 21, 22, 23, 24, 25, 26, 27, 28, 29, 30, 31, 32, 33, 34, 35, 36, 37, 38, 39, 40, 41, 42, 43, 44, 45, 46, 47, 48, 49, 50, 51, 52, 53, 54, 55, 56, 57, 58, 59, 60, 61, 62, 63, 64, 65, 66, 67, 68, 69, 70, 71, 72, 73, 74, 75, 76, 77, 78, 79, 80, 81, 82, 83, 84, 85, 86, 87] (by decide +kernel) (by decide +kernel)) (goodIn_sub (fun _ h => List.mem_cons_of_mem _ (List.mem_append_right _ h)) (by decide +kernel))
set_option maxRecDepth 20000 in
theorem gL_principle_X5_principle : GoodIn wsL_principle (wsV RL 21 RX5 yX5_principle wsX5_principle) := goodIn_app (goodIn_of _ (by decide +kernel)) ggL_principle_X5_principle
theorem dL_principle_0 : decode cL_principle 0 = .ok (.aload_n 1, 1) := by decide +kernel
theorem dL_principle_1 : decode cL_principle 1 = .ok (.iconst 0, 1) := by decide +kernel
theorem dL_principle_2 : decode cL_principle 2 = .ok (.aload_n 0, 1) := by decide +kernel
theorem dL_principle_3 : decode cL_principle 3 = .ok (.invokevirtual 21, 3) := by decide +kernel
theorem dL_principle_6 : decode cL_principle 6 = .ok (.i2l, 1) := by decide +kernel
theorem dL_principle_7 : decode cL_principle 7 = .ok (.lastore, 1) := by decide +kernel
theorem dL_principle_8 : decode cL_principle 8 = .ok (.goto 6, 3) := by decide +kernel
theorem dL_principle_11 : decode cL_principle 11 = .ok (.astore_n 2, 1) := by decide +kernel
theorem dL_principle_12 : decode cL_principle 12 = .ok (.iconst 1, 1) := by decide +kernel
theorem dL_principle_13 : decode cL_principle 13 = .ok (.ireturn, 1) := by decide +kernel
theorem dL_principle_14 : decode cL_principle 14 = .ok (.iconst 0, 1) := by decide +kernel
theorem dL_principle_15 : decode cL_principle 15 = .ok (.ireturn, 1) := by decide +kernel
set_option maxRecDepth 20000 in
theorem ggL_rule_X5_rule : GoodIn wsL_rule wsX5_rule := goodIn_ca (goodIn_ca (goodIn_ca (goodIn_r _ [8, 9, 10, 11, 12, 13, 14, 15, 16, 17, 18, 19, 20, 21, 22, 7, 23, 24, 25, 26, 27, 28, 29, 30, 31, 32, 33, 34, 35, 36, 37, 38, 39, 40, 41, 42, 43, 44, 45, 46, 47, 48, 49, 50, 51, 52, 53, 54, 55, 56, 57, 58, 59, 60, 61, 62, 63, 64, 65, 66] (by decide +kernel) (by decide +kernel)) (goodIn_sub (fun _ h => List.mem_cons_of_mem _ (List.mem_append_left _ (List.mem_append_left _ (List.mem_append_right _ h)))) (by decide +kernel))) (goodIn_sub (fun _ h => List.mem_cons_of_mem _ (List.mem_append_left _ (List.mem_append_right _ h))) (by decide +kernel))) (goodIn_sub (fun _ h => List.mem_cons_of_mem _ (List.mem_append_right _ h)) (by decide +kernel))
set_option maxRecDepth 20000 in
theorem gL_rule_X5_rule : GoodIn wsL_rule (wsV RL 25 RX5 yX5_rule wsX5_rule) := goodIn_app (goodIn_of _ (by decide +kernel)) ggL_rule_X5_rule
theorem dL_rule_0 : decode cL_rule 0 = .ok (.aload_n 3, 1) := by decide +kernel
theorem dL_rule_1 : decode cL_rule 1 = .ok (.iconst 0, 1) := by decide +kernel
theorem dL_rule_2 : decode cL_rule 2 = .ok (.aload_n 0, 1) := by decide +kernel
theorem dL_rule_3 : decode cL_rule 3 = .ok (.iload_n 1, 1) := by decide +kernel
theorem dL_rule_4 : decode cL_rule 4 = .ok (.iload_n 2, 1) := by decide +kernel
theorem dL_rule_5 : decode cL_rule 5 = .ok (.invokevirtual 25, 3) := by decide +kernel
theorem dL_rule_8 : decode cL_rule 8 = .ok (.i2l, 1) := by decide +kernel
theorem dL_rule_9 : decode cL_rule 9 = .ok (.lastore, 1) := by decide +kernel
theorem dL_rule_10 : decode cL_rule 10 = .ok (.goto 15, 3) := by decide +kernel
theorem dL_rule_13 : decode cL_rule 13 = .ok (.astore 4, 2) := by decide +kernel
theorem dL_rule_15 : decode cL_rule 15 = .ok (.iconst 1, 1) := by decide +kernel
theorem dL_rule_16 : decode cL_rule 16 = .ok (.ireturn, 1) := by decide +kernel
theorem dL_rule_17 : decode cL_rule 17 = .ok (.astore 4, 2) := by decide +kernel
theorem dL_rule_19 : decode cL_rule 19 = .ok (.iconst 2, 1) := by decide +kernel
theorem dL_rule_20 : decode cL_rule 20 = .ok (.ireturn, 1) := by decide +kernel
theorem dL_rule_21 : decode cL_rule 21 = .ok (.astore 4, 2) := by decide +kernel
theorem dL_rule_23 : decode cL_rule 23 = .ok (.iconst 3, 1) := by decide +kernel
theorem dL_rule_24 : decode cL_rule 24 = .ok (.ireturn, 1) := by decide +kernel
theorem dL_rule_25 : decode cL_rule 25 = .ok (.iconst 0, 1) := by decide +kernel
theorem dL_rule_26 : decode cL_rule 26 = .ok (.ireturn, 1) := by decide +kernel
set_option maxRecDepth 20000 in
theorem ggL_model_X5_model : GoodIn wsL_model wsX5_model := goodIn_ca (goodIn_ca (goodIn_r _ [7, 8, 9, 10, 11, 12, 13, 14, 15, 16, 17, 18, 19, 20, 21, 22, 23, 24, 25, 26, 27, 28, 29, 30, 31, 32, 33, 34, 35, 36, 37, 38, 39, 40, 41, 42, 43, 44, 45, 46, 47, 48, 49, 50, 51, 52, 53, 54, 55, 56, 57, 58, 59, 60] (by decide +kernel) (by decide +kernel)) (goodIn_sub (fun _ h => List.mem_cons_of_mem _ (List.mem_append_left _ (List.mem_append_right _ h))) (by decide +kernel))) (goodIn_sub (fun _ h => List.mem_cons_of_mem _ (List.mem_append_right _ h)) (by decide +kernel))
set_option maxRecDepth 20000 in
theorem gL_model_X5_model : GoodIn wsL_model (wsV RL 31 RX5 yX5_model wsX5_model) := goodIn_app (goodIn_of _ (by decide +kernel)) ggL_model_X5_model
theorem dL_model_0 : decode cL_model 0 = .ok (.aload_n 2, 1) := by decide +kernel
theorem dL_model_1 : decode cL_model 1 = .ok (.iconst 0, 1) := by decide +kernel
theorem dL_model_2 : decode cL_model 2 = .ok (.aload_n 0, 1) := by decide +kernel
theorem dL_model_3 : decode cL_model 3 = .ok (.iload_n 1, 1) := by decide +kernel
theorem dL_model_4 : decode cL_model 4 = .ok (.invokevirtual 31, 3) := by decide +kernel
theorem dL_model_7 : decode cL_model 7 = .ok (.i2l, 1) := by decide +kernel
theorem dL_model_8 : decode cL_model 8 = .ok (.lastore, 1) := by decide +kernel
theorem dL_model_9 : decode cL_model 9 = .ok (.goto 9, 3) := by decide +kernel
theorem dL_model_12 : decode cL_model 12 = .ok (.astore_n 3, 1) := by decide +kernel
theorem dL_model_13 : decode cL_model 13 = .ok (.iconst 1, 1) := by decide +kernel
theorem dL_model_14 : decode cL_model 14 = .ok (.ireturn, 1) := by decide +kernel
theorem dL_model_15 : decode cL_model 15 = .ok (.astore_n 3, 1) := by decide +kernel
theorem dL_model_16 : decode cL_model 16 = .ok (.iconst 2, 1) := by decide +kernel
theorem dL_model_17 : decode cL_model 17 = .ok (.ireturn, 1) := by decide +kernel
theorem dL_model_18 : decode cL_model 18 = .ok (.iconst 0, 1) := by decide +kernel
theorem dL_model_19 : decode cL_model 19 = .ok (.ireturn, 1) := by decide +kernel
set_option maxRecDepth 20000 in
theorem ggL_proves_X5_proves : GoodIn wsL_proves wsX5_proves := goodIn_ca (goodIn_r _ [6, 7, 8, 9, 10, 11, 12, 13, 14, 15, 16, 17, 18, 19, 20, 21, 22, 23, 24, 25, 26, 27, 28, 29, 30, 31, 32, 33, 34, 35, 36, 37, 38, 39, 40, 41, 42, 43, 44, 45, 46, 47] (by decide +kernel) (by decide +kernel)) (goodIn_sub (fun _ h => List.mem_cons_of_mem _ (List.mem_append_right _ h)) (by decide +kernel))
set_option maxRecDepth 20000 in
theorem gL_proves_X5_proves : GoodIn wsL_proves (wsV RL 35 RX5 yX5_proves wsX5_proves) := goodIn_app (goodIn_of _ (by decide +kernel)) ggL_proves_X5_proves
theorem dL_proves_0 : decode cL_proves 0 = .ok (.aload_n 2, 1) := by decide +kernel
theorem dL_proves_1 : decode cL_proves 1 = .ok (.iconst 0, 1) := by decide +kernel
theorem dL_proves_2 : decode cL_proves 2 = .ok (.aload_n 0, 1) := by decide +kernel
theorem dL_proves_3 : decode cL_proves 3 = .ok (.iload_n 1, 1) := by decide +kernel
theorem dL_proves_4 : decode cL_proves 4 = .ok (.invokevirtual 35, 3) := by decide +kernel
theorem dL_proves_7 : decode cL_proves 7 = .ok (.i2l, 1) := by decide +kernel
theorem dL_proves_8 : decode cL_proves 8 = .ok (.lastore, 1) := by decide +kernel
theorem dL_proves_9 : decode cL_proves 9 = .ok (.goto 6, 3) := by decide +kernel
theorem dL_proves_12 : decode cL_proves 12 = .ok (.astore_n 3, 1) := by decide +kernel
theorem dL_proves_13 : decode cL_proves 13 = .ok (.iconst 1, 1) := by decide +kernel
theorem dL_proves_14 : decode cL_proves 14 = .ok (.ireturn, 1) := by decide +kernel
theorem dL_proves_15 : decode cL_proves 15 = .ok (.iconst 0, 1) := by decide +kernel
theorem dL_proves_16 : decode cL_proves 16 = .ok (.ireturn, 1) := by decide +kernel
set_option maxRecDepth 20000 in
theorem ggL_proof_X5_proof : GoodIn wsL_proof wsX5_proof := goodIn_ca (goodIn_ca (goodIn_r _ [7, 8, 9, 10, 11, 12, 13, 14, 15, 16, 17, 18, 19, 6, 20, 21, 22, 23, 24, 25, 26, 27, 28, 29, 30, 31, 32, 33, 34, 35, 36, 37, 38, 39, 40, 41, 42, 43, 44, 45, 46, 47, 48, 49, 50, 51, 52, 53, 54, 55, 56, 57, 58, 59, 60, 61, 62, 63, 64, 65, 66, 67, 68, 69] (by decide +kernel) (by decide +kernel)) (goodIn_sub (fun _ h => List.mem_cons_of_mem _ (List.mem_append_left _ (List.mem_append_right _ h))) (by decide +kernel))) (goodIn_sub (fun _ h => List.mem_cons_of_mem _ (List.mem_append_right _ h)) (by decide +kernel))
set_option maxRecDepth 20000 in
theorem gL_proof_X5_proof : GoodIn wsL_proof (wsV RL 38 RX5 yX5_proof wsX5_proof) := goodIn_app (goodIn_of _ (by decide +kernel)) ggL_proof_X5_proof
theorem dL_proof_0 : decode cL_proof 0 = .ok (.aload 4, 2) := by decide +kernel
theorem dL_proof_2 : decode cL_proof 2 = .ok (.iconst 0, 1) := by decide +kernel
theorem dL_proof_3 : decode cL_proof 3 = .ok (.aload_n 0, 1) := by decide +kernel
theorem dL_proof_4 : decode cL_proof 4 = .ok (.iload_n 1, 1) := by decide +kernel
theorem dL_proof_5 : decode cL_proof 5 = .ok (.iload_n 2, 1) := by decide +kernel
theorem dL_proof_6 : decode cL_proof 6 = .ok (.iload_n 3, 1) := by decide +kernel
theorem dL_proof_7 : decode cL_proof 7 = .ok (.invokevirtual 38, 3) := by decide +kernel
theorem dL_proof_10 : decode cL_proof 10 = .ok (.i2l, 1) := by decide +kernel
theorem dL_proof_11 : decode cL_proof 11 = .ok (.lastore, 1) := by decide +kernel
theorem dL_proof_12 : decode cL_proof 12 = .ok (.goto 11, 3) := by decide +kernel
theorem dL_proof_15 : decode cL_proof 15 = .ok (.astore 5, 2) := by decide +kernel
theorem dL_proof_17 : decode cL_proof 17 = .ok (.iconst 1, 1) := by decide +kernel
theorem dL_proof_18 : decode cL_proof 18 = .ok (.ireturn, 1) := by decide +kernel
theorem dL_proof_19 : decode cL_proof 19 = .ok (.astore 5, 2) := by decide +kernel
theorem dL_proof_21 : decode cL_proof 21 = .ok (.iconst 2, 1) := by decide +kernel
theorem dL_proof_22 : decode cL_proof 22 = .ok (.ireturn, 1) := by decide +kernel
theorem dL_proof_23 : decode cL_proof 23 = .ok (.iconst 0, 1) := by decide +kernel
theorem dL_proof_24 : decode cL_proof 24 = .ok (.ireturn, 1) := by decide +kernel
set_option maxRecDepth 20000 in
theorem ggL_known_X5_known : GoodIn wsL_known wsX5_known := goodIn_ca (goodIn_ca (goodIn_r _ [7, 8, 9, 10, 11, 12, 13, 14, 15, 16, 17, 18, 19, 6, 20, 21, 22, 23, 24, 25, 26, 27, 28, 29, 30, 31, 32, 33, 34, 35, 36, 37, 38, 39, 40, 41, 42, 43, 44, 45, 46, 47, 48, 49, 50, 51, 52, 53, 54, 55, 56, 57, 58] (by decide +kernel) (by decide +kernel)) (goodIn_sub (fun _ h => List.mem_cons_of_mem _ (List.mem_append_left _ (List.mem_append_right _ h))) (by decide +kernel))) (goodIn_sub (fun _ h => List.mem_cons_of_mem _ (List.mem_append_right _ h)) (by decide +kernel))
set_option maxRecDepth 20000 in
theorem gL_known_X5_known : GoodIn wsL_known (wsV RL 42 RX5 yX5_known wsX5_known) := goodIn_app (goodIn_of _ (by decide +kernel)) ggL_known_X5_known
theorem dL_known_0 : decode cL_known 0 = .ok (.aload_n 3, 1) := by decide +kernel
theorem dL_known_1 : decode cL_known 1 = .ok (.iconst 0, 1) := by decide +kernel
theorem dL_known_2 : decode cL_known 2 = .ok (.aload_n 0, 1) := by decide +kernel
theorem dL_known_3 : decode cL_known 3 = .ok (.iload_n 1, 1) := by decide +kernel
theorem dL_known_4 : decode cL_known 4 = .ok (.iload_n 2, 1) := by decide +kernel
theorem dL_known_5 : decode cL_known 5 = .ok (.invokevirtual 42, 3) := by decide +kernel
theorem dL_known_8 : decode cL_known 8 = .ok (.i2l, 1) := by decide +kernel
theorem dL_known_9 : decode cL_known 9 = .ok (.lastore, 1) := by decide +kernel
theorem dL_known_10 : decode cL_known 10 = .ok (.goto 11, 3) := by decide +kernel
theorem dL_known_13 : decode cL_known 13 = .ok (.astore 4, 2) := by decide +kernel
theorem dL_known_15 : decode cL_known 15 = .ok (.iconst 1, 1) := by decide +kernel
theorem dL_known_16 : decode cL_known 16 = .ok (.ireturn, 1) := by decide +kernel
theorem dL_known_17 : decode cL_known 17 = .ok (.astore 4, 2) := by decide +kernel
theorem dL_known_19 : decode cL_known 19 = .ok (.iconst 2, 1) := by decide +kernel
theorem dL_known_20 : decode cL_known 20 = .ok (.ireturn, 1) := by decide +kernel
theorem dL_known_21 : decode cL_known 21 = .ok (.iconst 0, 1) := by decide +kernel
theorem dL_known_22 : decode cL_known 22 = .ok (.ireturn, 1) := by decide +kernel
set_option maxRecDepth 20000 in
theorem ggL_least_X5_least : GoodIn wsL_least wsX5_least := goodIn_ca (goodIn_ca (goodIn_r _ [7, 8, 9, 10, 11, 12, 13, 14, 15, 16, 17, 18, 19, 6, 20, 21, 22, 23, 24, 25, 26, 27, 28, 29, 30, 31, 32, 33, 34, 35, 36, 37, 38, 39, 40, 41, 42, 43, 44, 45, 46, 47, 48, 49, 50, 51, 52, 53, 54, 55, 56, 57, 58, 59, 60, 61, 62, 63, 64, 65, 66, 67] (by decide +kernel) (by decide +kernel)) (goodIn_sub (fun _ h => List.mem_cons_of_mem _ (List.mem_append_left _ (List.mem_append_right _ h))) (by decide +kernel))) (goodIn_sub (fun _ h => List.mem_cons_of_mem _ (List.mem_append_right _ h)) (by decide +kernel))
set_option maxRecDepth 20000 in
theorem gL_least_X5_least : GoodIn wsL_least (wsV RL 45 RX5 yX5_least wsX5_least) := goodIn_app (goodIn_of _ (by decide +kernel)) ggL_least_X5_least
theorem dL_least_0 : decode cL_least 0 = .ok (.aload_n 3, 1) := by decide +kernel
theorem dL_least_1 : decode cL_least 1 = .ok (.iconst 0, 1) := by decide +kernel
theorem dL_least_2 : decode cL_least 2 = .ok (.aload_n 0, 1) := by decide +kernel
theorem dL_least_3 : decode cL_least 3 = .ok (.iload_n 1, 1) := by decide +kernel
theorem dL_least_4 : decode cL_least 4 = .ok (.iload_n 2, 1) := by decide +kernel
theorem dL_least_5 : decode cL_least 5 = .ok (.invokevirtual 45, 3) := by decide +kernel
theorem dL_least_8 : decode cL_least 8 = .ok (.i2l, 1) := by decide +kernel
theorem dL_least_9 : decode cL_least 9 = .ok (.lastore, 1) := by decide +kernel
theorem dL_least_10 : decode cL_least 10 = .ok (.goto 11, 3) := by decide +kernel
theorem dL_least_13 : decode cL_least 13 = .ok (.astore 4, 2) := by decide +kernel
theorem dL_least_15 : decode cL_least 15 = .ok (.iconst 1, 1) := by decide +kernel
theorem dL_least_16 : decode cL_least 16 = .ok (.ireturn, 1) := by decide +kernel
theorem dL_least_17 : decode cL_least 17 = .ok (.astore 4, 2) := by decide +kernel
theorem dL_least_19 : decode cL_least 19 = .ok (.iconst 2, 1) := by decide +kernel
theorem dL_least_20 : decode cL_least 20 = .ok (.ireturn, 1) := by decide +kernel
theorem dL_least_21 : decode cL_least 21 = .ok (.iconst 0, 1) := by decide +kernel
theorem dL_least_22 : decode cL_least 22 = .ok (.ireturn, 1) := by decide +kernel
set_option maxRecDepth 20000 in
theorem ggL_leastAnew_X5_leastAnew : GoodIn wsL_leastAnew wsX5_leastAnew := goodIn_ca (goodIn_ca (goodIn_r _ [7, 8, 9, 10, 11, 12, 13, 14, 15, 16, 17, 18, 19, 6, 20, 21, 22, 23, 24, 25, 26, 27, 28, 29, 30, 31, 32, 33, 34, 35, 36, 37, 38, 39, 40, 41, 42, 43, 44, 45, 46, 47, 48, 49, 50, 51, 52, 53, 54, 55, 56, 57, 58, 59, 60, 61, 62, 63, 64, 65, 66, 67] (by decide +kernel) (by decide +kernel)) (goodIn_sub (fun _ h => List.mem_cons_of_mem _ (List.mem_append_left _ (List.mem_append_right _ h))) (by decide +kernel))) (goodIn_sub (fun _ h => List.mem_cons_of_mem _ (List.mem_append_right _ h)) (by decide +kernel))
set_option maxRecDepth 20000 in
theorem gL_leastAnew_X5_leastAnew : GoodIn wsL_leastAnew (wsV RL 48 RX5 yX5_leastAnew wsX5_leastAnew) := goodIn_app (goodIn_of _ (by decide +kernel)) ggL_leastAnew_X5_leastAnew
theorem dL_leastAnew_0 : decode cL_leastAnew 0 = .ok (.aload_n 3, 1) := by decide +kernel
theorem dL_leastAnew_1 : decode cL_leastAnew 1 = .ok (.iconst 0, 1) := by decide +kernel
theorem dL_leastAnew_2 : decode cL_leastAnew 2 = .ok (.aload_n 0, 1) := by decide +kernel
theorem dL_leastAnew_3 : decode cL_leastAnew 3 = .ok (.iload_n 1, 1) := by decide +kernel
theorem dL_leastAnew_4 : decode cL_leastAnew 4 = .ok (.iload_n 2, 1) := by decide +kernel
theorem dL_leastAnew_5 : decode cL_leastAnew 5 = .ok (.invokevirtual 48, 3) := by decide +kernel
theorem dL_leastAnew_8 : decode cL_leastAnew 8 = .ok (.i2l, 1) := by decide +kernel
theorem dL_leastAnew_9 : decode cL_leastAnew 9 = .ok (.lastore, 1) := by decide +kernel
theorem dL_leastAnew_10 : decode cL_leastAnew 10 = .ok (.goto 11, 3) := by decide +kernel
theorem dL_leastAnew_13 : decode cL_leastAnew 13 = .ok (.astore 4, 2) := by decide +kernel
theorem dL_leastAnew_15 : decode cL_leastAnew 15 = .ok (.iconst 1, 1) := by decide +kernel
theorem dL_leastAnew_16 : decode cL_leastAnew 16 = .ok (.ireturn, 1) := by decide +kernel
theorem dL_leastAnew_17 : decode cL_leastAnew 17 = .ok (.astore 4, 2) := by decide +kernel
theorem dL_leastAnew_19 : decode cL_leastAnew 19 = .ok (.iconst 2, 1) := by decide +kernel
theorem dL_leastAnew_20 : decode cL_leastAnew 20 = .ok (.ireturn, 1) := by decide +kernel
theorem dL_leastAnew_21 : decode cL_leastAnew 21 = .ok (.iconst 0, 1) := by decide +kernel
theorem dL_leastAnew_22 : decode cL_leastAnew 22 = .ok (.ireturn, 1) := by decide +kernel
set_option maxRecDepth 20000 in
theorem ggL_ofPrinciple_X5_ofPrinciple : GoodIn wsL_ofPrinciple wsX5_ofPrinciple := goodIn_ca (goodIn_ca (goodIn_r _ [7, 8, 9, 10, 11, 12, 13, 14, 15, 16, 17, 18, 19, 6, 20, 21, 22, 23, 24, 25, 26, 27, 28, 29, 30, 31, 32, 33, 34, 35, 36, 37, 38, 39, 40, 41, 42, 43, 44, 45, 46, 47, 48, 49, 50, 51, 52, 53, 54] (by decide +kernel) (by decide +kernel)) (goodIn_sub (fun _ h => List.mem_cons_of_mem _ (List.mem_append_left _ (List.mem_append_right _ h))) (by decide +kernel))) (goodIn_sub (fun _ h => List.mem_cons_of_mem _ (List.mem_append_right _ h)) (by decide +kernel))
set_option maxRecDepth 20000 in
theorem gL_ofPrinciple_X5_ofPrinciple : GoodIn wsL_ofPrinciple (wsV RL 51 RX5 yX5_ofPrinciple wsX5_ofPrinciple) := goodIn_app (goodIn_of _ (by decide +kernel)) ggL_ofPrinciple_X5_ofPrinciple
theorem dL_ofPrinciple_0 : decode cL_ofPrinciple 0 = .ok (.aload_n 3, 1) := by decide +kernel
theorem dL_ofPrinciple_1 : decode cL_ofPrinciple 1 = .ok (.iconst 0, 1) := by decide +kernel
theorem dL_ofPrinciple_2 : decode cL_ofPrinciple 2 = .ok (.aload_n 0, 1) := by decide +kernel
theorem dL_ofPrinciple_3 : decode cL_ofPrinciple 3 = .ok (.iload_n 1, 1) := by decide +kernel
theorem dL_ofPrinciple_4 : decode cL_ofPrinciple 4 = .ok (.iload_n 2, 1) := by decide +kernel
theorem dL_ofPrinciple_5 : decode cL_ofPrinciple 5 = .ok (.invokevirtual 51, 3) := by decide +kernel
theorem dL_ofPrinciple_8 : decode cL_ofPrinciple 8 = .ok (.i2l, 1) := by decide +kernel
theorem dL_ofPrinciple_9 : decode cL_ofPrinciple 9 = .ok (.lastore, 1) := by decide +kernel
theorem dL_ofPrinciple_10 : decode cL_ofPrinciple 10 = .ok (.goto 11, 3) := by decide +kernel
theorem dL_ofPrinciple_13 : decode cL_ofPrinciple 13 = .ok (.astore 4, 2) := by decide +kernel
theorem dL_ofPrinciple_15 : decode cL_ofPrinciple 15 = .ok (.iconst 1, 1) := by decide +kernel
theorem dL_ofPrinciple_16 : decode cL_ofPrinciple 16 = .ok (.ireturn, 1) := by decide +kernel
theorem dL_ofPrinciple_17 : decode cL_ofPrinciple 17 = .ok (.astore 4, 2) := by decide +kernel
theorem dL_ofPrinciple_19 : decode cL_ofPrinciple 19 = .ok (.iconst 2, 1) := by decide +kernel
theorem dL_ofPrinciple_20 : decode cL_ofPrinciple 20 = .ok (.ireturn, 1) := by decide +kernel
theorem dL_ofPrinciple_21 : decode cL_ofPrinciple 21 = .ok (.iconst 0, 1) := by decide +kernel
theorem dL_ofPrinciple_22 : decode cL_ofPrinciple 22 = .ok (.ireturn, 1) := by decide +kernel
set_option maxRecDepth 20000 in
theorem ggL_problem_X5_problem : GoodIn wsL_problem wsX5_problem := goodIn_ca (goodIn_ca (goodIn_r _ [7, 8, 9, 10, 11, 12, 13, 14, 15, 16, 17, 6, 18, 19, 20, 21, 22, 23, 24, 25, 26, 27, 28, 29, 30, 31, 32, 33, 34, 35, 36, 37, 38, 39, 40, 41, 42, 43] (by decide +kernel) (by decide +kernel)) (goodIn_sub (fun _ h => List.mem_cons_of_mem _ (List.mem_append_left _ (List.mem_append_right _ h))) (by decide +kernel))) (goodIn_sub (fun _ h => List.mem_cons_of_mem _ (List.mem_append_right _ h)) (by decide +kernel))
set_option maxRecDepth 20000 in
theorem gL_problem_X5_problem : GoodIn wsL_problem (wsV RL 54 RX5 yX5_problem wsX5_problem) := goodIn_app (goodIn_of _ (by decide +kernel)) ggL_problem_X5_problem
theorem dL_problem_0 : decode cL_problem 0 = .ok (.aload 4, 2) := by decide +kernel
theorem dL_problem_2 : decode cL_problem 2 = .ok (.iconst 0, 1) := by decide +kernel
theorem dL_problem_3 : decode cL_problem 3 = .ok (.aload_n 0, 1) := by decide +kernel
theorem dL_problem_4 : decode cL_problem 4 = .ok (.iload_n 1, 1) := by decide +kernel
theorem dL_problem_5 : decode cL_problem 5 = .ok (.iload_n 2, 1) := by decide +kernel
theorem dL_problem_6 : decode cL_problem 6 = .ok (.iload_n 3, 1) := by decide +kernel
theorem dL_problem_7 : decode cL_problem 7 = .ok (.invokevirtual 54, 3) := by decide +kernel
theorem dL_problem_10 : decode cL_problem 10 = .ok (.i2l, 1) := by decide +kernel
theorem dL_problem_11 : decode cL_problem 11 = .ok (.lastore, 1) := by decide +kernel
theorem dL_problem_12 : decode cL_problem 12 = .ok (.goto 11, 3) := by decide +kernel
theorem dL_problem_15 : decode cL_problem 15 = .ok (.astore 5, 2) := by decide +kernel
theorem dL_problem_17 : decode cL_problem 17 = .ok (.iconst 1, 1) := by decide +kernel
theorem dL_problem_18 : decode cL_problem 18 = .ok (.ireturn, 1) := by decide +kernel
theorem dL_problem_19 : decode cL_problem 19 = .ok (.astore 5, 2) := by decide +kernel
theorem dL_problem_21 : decode cL_problem 21 = .ok (.iconst 2, 1) := by decide +kernel
theorem dL_problem_22 : decode cL_problem 22 = .ok (.ireturn, 1) := by decide +kernel
theorem dL_problem_23 : decode cL_problem 23 = .ok (.iconst 0, 1) := by decide +kernel
theorem dL_problem_24 : decode cL_problem 24 = .ok (.ireturn, 1) := by decide +kernel
set_option maxRecDepth 20000 in
theorem ggL_product_X5_product : GoodIn wsL_product wsX5_product := goodIn_ca (goodIn_ca (goodIn_r _ [7, 8, 9, 10, 11, 12, 13, 14, 15, 16, 17, 18, 19, 20, 21, 22, 23, 6, 24, 25, 26, 27, 28, 29, 30, 31, 32, 33, 34, 35, 36, 37, 38, 39, 40, 41, 42, 43, 44, 45, 46, 47, 48, 49, 50, 51, 52, 53, 54, 55, 56, 57, 58, 59] (by decide +kernel) (by decide +kernel)) (goodIn_sub (fun _ h => List.mem_cons_of_mem _ (List.mem_append_left _ (List.mem_append_right _ h))) (by decide +kernel))) (goodIn_sub (fun _ h => List.mem_cons_of_mem _ (List.mem_append_right _ h)) (by decide +kernel))
set_option maxRecDepth 20000 in
theorem gL_product_X5_product : GoodIn wsL_product (wsV RL 57 RX5 yX5_product wsX5_product) := goodIn_app (goodIn_of _ (by decide +kernel)) ggL_product_X5_product
theorem dL_product_0 : decode cL_product 0 = .ok (.aload_n 3, 1) := by decide +kernel
theorem dL_product_1 : decode cL_product 1 = .ok (.iconst 0, 1) := by decide +kernel
theorem dL_product_2 : decode cL_product 2 = .ok (.aload_n 0, 1) := by decide +kernel
theorem dL_product_3 : decode cL_product 3 = .ok (.iload_n 1, 1) := by decide +kernel
theorem dL_product_4 : decode cL_product 4 = .ok (.iload_n 2, 1) := by decide +kernel
theorem dL_product_5 : decode cL_product 5 = .ok (.invokevirtual 57, 3) := by decide +kernel
theorem dL_product_8 : decode cL_product 8 = .ok (.i2l, 1) := by decide +kernel
theorem dL_product_9 : decode cL_product 9 = .ok (.lastore, 1) := by decide +kernel
theorem dL_product_10 : decode cL_product 10 = .ok (.goto 11, 3) := by decide +kernel
theorem dL_product_13 : decode cL_product 13 = .ok (.astore 4, 2) := by decide +kernel
theorem dL_product_15 : decode cL_product 15 = .ok (.iconst 1, 1) := by decide +kernel
theorem dL_product_16 : decode cL_product 16 = .ok (.ireturn, 1) := by decide +kernel
theorem dL_product_17 : decode cL_product 17 = .ok (.astore 4, 2) := by decide +kernel
theorem dL_product_19 : decode cL_product 19 = .ok (.iconst 2, 1) := by decide +kernel
theorem dL_product_20 : decode cL_product 20 = .ok (.ireturn, 1) := by decide +kernel
theorem dL_product_21 : decode cL_product 21 = .ok (.iconst 0, 1) := by decide +kernel
theorem dL_product_22 : decode cL_product 22 = .ok (.ireturn, 1) := by decide +kernel
set_option maxRecDepth 20000 in
theorem ggL_reduces_X5_reduces : GoodIn wsL_reduces wsX5_reduces := goodIn_ca (goodIn_r _ [6, 7, 8, 9, 10, 11, 12, 13, 14, 15, 16, 17, 18, 19, 20, 5, 21, 22, 23, 24, 25, 26, 27, 28, 29, 30, 31, 32, 33, 34, 35, 36, 37, 38, 39, 40, 41, 42, 43, 44, 45, 46, 47, 48, 49, 50, 51, 52, 53, 54, 55, 56, 57, 58, 59, 60, 61, 62, 63, 64, 65, 66, 67, 68, 69, 70, 71, 72, 73, 74, 75, 76, 77] (by decide +kernel) (by decide +kernel)) (goodIn_sub (fun _ h => List.mem_cons_of_mem _ (List.mem_append_right _ h)) (by decide +kernel))
set_option maxRecDepth 20000 in
theorem gL_reduces_X5_reduces : GoodIn wsL_reduces (wsV RL 60 RX5 yX5_reduces wsX5_reduces) := goodIn_app (goodIn_of _ (by decide +kernel)) ggL_reduces_X5_reduces
theorem dL_reduces_0 : decode cL_reduces 0 = .ok (.aload_n 3, 1) := by decide +kernel
theorem dL_reduces_1 : decode cL_reduces 1 = .ok (.iconst 0, 1) := by decide +kernel
theorem dL_reduces_2 : decode cL_reduces 2 = .ok (.aload_n 0, 1) := by decide +kernel
theorem dL_reduces_3 : decode cL_reduces 3 = .ok (.iload_n 1, 1) := by decide +kernel
theorem dL_reduces_4 : decode cL_reduces 4 = .ok (.iload_n 2, 1) := by decide +kernel
theorem dL_reduces_5 : decode cL_reduces 5 = .ok (.invokevirtual 60, 3) := by decide +kernel
theorem dL_reduces_8 : decode cL_reduces 8 = .ok (.i2l, 1) := by decide +kernel
theorem dL_reduces_9 : decode cL_reduces 9 = .ok (.lastore, 1) := by decide +kernel
theorem dL_reduces_10 : decode cL_reduces 10 = .ok (.goto 7, 3) := by decide +kernel
theorem dL_reduces_13 : decode cL_reduces 13 = .ok (.astore 4, 2) := by decide +kernel
theorem dL_reduces_15 : decode cL_reduces 15 = .ok (.iconst 1, 1) := by decide +kernel
theorem dL_reduces_16 : decode cL_reduces 16 = .ok (.ireturn, 1) := by decide +kernel
theorem dL_reduces_17 : decode cL_reduces 17 = .ok (.iconst 0, 1) := by decide +kernel
theorem dL_reduces_18 : decode cL_reduces 18 = .ok (.ireturn, 1) := by decide +kernel
set_option maxRecDepth 20000 in
theorem ggL_reducesAnew_X5_reducesAnew : GoodIn wsL_reducesAnew wsX5_reducesAnew := goodIn_ca (goodIn_r _ [6, 7, 8, 9, 10, 11, 12, 13, 14, 15, 16, 17, 18, 19, 20, 5, 21, 22, 23, 24, 25, 26, 27, 28, 29, 30, 31, 32, 33, 34, 35, 36, 37, 38, 39, 40, 41, 42, 43, 44, 45, 46, 47, 48, 49, 50, 51, 52, 53, 54, 55, 56, 57, 58, 59, 60, 61, 62, 63, 64, 65, 66, 67, 68, 69, 70, 71, 72, 73, 74, 75, 76, 77] (by decide +kernel) (by decide +kernel)) (goodIn_sub (fun _ h => List.mem_cons_of_mem _ (List.mem_append_right _ h)) (by decide +kernel))
set_option maxRecDepth 20000 in
theorem gL_reducesAnew_X5_reducesAnew : GoodIn wsL_reducesAnew (wsV RL 63 RX5 yX5_reducesAnew wsX5_reducesAnew) := goodIn_app (goodIn_of _ (by decide +kernel)) ggL_reducesAnew_X5_reducesAnew
theorem dL_reducesAnew_0 : decode cL_reducesAnew 0 = .ok (.aload_n 3, 1) := by decide +kernel
theorem dL_reducesAnew_1 : decode cL_reducesAnew 1 = .ok (.iconst 0, 1) := by decide +kernel
theorem dL_reducesAnew_2 : decode cL_reducesAnew 2 = .ok (.aload_n 0, 1) := by decide +kernel
theorem dL_reducesAnew_3 : decode cL_reducesAnew 3 = .ok (.iload_n 1, 1) := by decide +kernel
theorem dL_reducesAnew_4 : decode cL_reducesAnew 4 = .ok (.iload_n 2, 1) := by decide +kernel
theorem dL_reducesAnew_5 : decode cL_reducesAnew 5 = .ok (.invokevirtual 63, 3) := by decide +kernel
theorem dL_reducesAnew_8 : decode cL_reducesAnew 8 = .ok (.i2l, 1) := by decide +kernel
theorem dL_reducesAnew_9 : decode cL_reducesAnew 9 = .ok (.lastore, 1) := by decide +kernel
theorem dL_reducesAnew_10 : decode cL_reducesAnew 10 = .ok (.goto 7, 3) := by decide +kernel
theorem dL_reducesAnew_13 : decode cL_reducesAnew 13 = .ok (.astore 4, 2) := by decide +kernel
theorem dL_reducesAnew_15 : decode cL_reducesAnew 15 = .ok (.iconst 1, 1) := by decide +kernel
theorem dL_reducesAnew_16 : decode cL_reducesAnew 16 = .ok (.ireturn, 1) := by decide +kernel
theorem dL_reducesAnew_17 : decode cL_reducesAnew 17 = .ok (.iconst 0, 1) := by decide +kernel
theorem dL_reducesAnew_18 : decode cL_reducesAnew 18 = .ok (.ireturn, 1) := by decide +kernel
set_option maxRecDepth 20000 in
theorem ggL_forth_X5_forth : GoodIn wsL_forth wsX5_forth := goodIn_ca (goodIn_r _ [6, 7, 8, 9, 10, 11, 12, 13, 14, 15, 16, 17, 18, 19, 20, 5, 21, 22, 23, 24, 25, 26, 27, 28, 29, 30, 31, 32, 33, 34, 35, 36, 37, 38, 39, 40, 41, 42, 43, 44, 45, 46, 47, 48, 49, 50, 51, 52, 53, 54, 55, 56, 57, 58, 59, 60, 61, 62, 63, 64, 65, 66, 67, 68, 69, 70, 71, 72, 73, 74, 75, 76, 77, 78, 79, 80, 81, 82, 83, 84, 85] (by decide +kernel) (by decide +kernel)) (goodIn_sub (fun _ h => List.mem_cons_of_mem _ (List.mem_append_right _ h)) (by decide +kernel))
set_option maxRecDepth 20000 in
theorem gL_forth_X5_forth : GoodIn wsL_forth (wsV RL 66 RX5 yX5_forth wsX5_forth) := goodIn_app (goodIn_of _ (by decide +kernel)) ggL_forth_X5_forth
theorem dL_forth_0 : decode cL_forth 0 = .ok (.aload 4, 2) := by decide +kernel
theorem dL_forth_2 : decode cL_forth 2 = .ok (.iconst 0, 1) := by decide +kernel
theorem dL_forth_3 : decode cL_forth 3 = .ok (.aload_n 0, 1) := by decide +kernel
theorem dL_forth_4 : decode cL_forth 4 = .ok (.iload_n 1, 1) := by decide +kernel
theorem dL_forth_5 : decode cL_forth 5 = .ok (.iload_n 2, 1) := by decide +kernel
theorem dL_forth_6 : decode cL_forth 6 = .ok (.iload_n 3, 1) := by decide +kernel
theorem dL_forth_7 : decode cL_forth 7 = .ok (.invokevirtual 66, 3) := by decide +kernel
theorem dL_forth_10 : decode cL_forth 10 = .ok (.i2l, 1) := by decide +kernel
theorem dL_forth_11 : decode cL_forth 11 = .ok (.lastore, 1) := by decide +kernel
theorem dL_forth_12 : decode cL_forth 12 = .ok (.goto 7, 3) := by decide +kernel
theorem dL_forth_15 : decode cL_forth 15 = .ok (.astore 5, 2) := by decide +kernel
theorem dL_forth_17 : decode cL_forth 17 = .ok (.iconst 1, 1) := by decide +kernel
theorem dL_forth_18 : decode cL_forth 18 = .ok (.ireturn, 1) := by decide +kernel
theorem dL_forth_19 : decode cL_forth 19 = .ok (.iconst 0, 1) := by decide +kernel
theorem dL_forth_20 : decode cL_forth 20 = .ok (.ireturn, 1) := by decide +kernel
set_option maxRecDepth 20000 in
theorem ggL_ofProblem_X5_ofProblem : GoodIn wsL_ofProblem wsX5_ofProblem := goodIn_ca (goodIn_ca (goodIn_r _ [7, 8, 9, 10, 11, 12, 13, 14, 15, 16, 17, 18, 19, 6, 20, 21, 22, 23, 24, 25, 26, 27, 28, 29, 30, 31, 32, 33, 34, 35, 36, 37, 38] (by decide +kernel) (by decide +kernel)) (goodIn_sub (fun _ h => List.mem_cons_of_mem _ (List.mem_append_left _ (List.mem_append_right _ h))) (by decide +kernel))) (goodIn_sub (fun _ h => List.mem_cons_of_mem _ (List.mem_append_right _ h)) (by decide +kernel))
set_option maxRecDepth 20000 in
theorem gL_ofProblem_X5_ofProblem : GoodIn wsL_ofProblem (wsV RL 69 RX5 yX5_ofProblem wsX5_ofProblem) := goodIn_app (goodIn_of _ (by decide +kernel)) ggL_ofProblem_X5_ofProblem
theorem dL_ofProblem_0 : decode cL_ofProblem 0 = .ok (.aload_n 3, 1) := by decide +kernel
theorem dL_ofProblem_1 : decode cL_ofProblem 1 = .ok (.iconst 0, 1) := by decide +kernel
theorem dL_ofProblem_2 : decode cL_ofProblem 2 = .ok (.aload_n 0, 1) := by decide +kernel
theorem dL_ofProblem_3 : decode cL_ofProblem 3 = .ok (.iload_n 1, 1) := by decide +kernel
theorem dL_ofProblem_4 : decode cL_ofProblem 4 = .ok (.iload_n 2, 1) := by decide +kernel
theorem dL_ofProblem_5 : decode cL_ofProblem 5 = .ok (.invokevirtual 69, 3) := by decide +kernel
theorem dL_ofProblem_8 : decode cL_ofProblem 8 = .ok (.i2l, 1) := by decide +kernel
theorem dL_ofProblem_9 : decode cL_ofProblem 9 = .ok (.lastore, 1) := by decide +kernel
theorem dL_ofProblem_10 : decode cL_ofProblem 10 = .ok (.goto 11, 3) := by decide +kernel
theorem dL_ofProblem_13 : decode cL_ofProblem 13 = .ok (.astore 4, 2) := by decide +kernel
theorem dL_ofProblem_15 : decode cL_ofProblem 15 = .ok (.iconst 1, 1) := by decide +kernel
theorem dL_ofProblem_16 : decode cL_ofProblem 16 = .ok (.ireturn, 1) := by decide +kernel
theorem dL_ofProblem_17 : decode cL_ofProblem 17 = .ok (.astore 4, 2) := by decide +kernel
theorem dL_ofProblem_19 : decode cL_ofProblem 19 = .ok (.iconst 2, 1) := by decide +kernel
theorem dL_ofProblem_20 : decode cL_ofProblem 20 = .ok (.ireturn, 1) := by decide +kernel
theorem dL_ofProblem_21 : decode cL_ofProblem 21 = .ok (.iconst 0, 1) := by decide +kernel
theorem dL_ofProblem_22 : decode cL_ofProblem 22 = .ok (.ireturn, 1) := by decide +kernel
set_option maxRecDepth 20000 in
theorem ggL_has_X5_has : GoodIn wsL_has wsX5_has := goodIn_ca (goodIn_r _ [6, 7, 8, 9, 10, 11, 12, 13, 5, 14, 15, 16, 17, 18, 19, 20, 21, 22, 23] (by decide +kernel) (by decide +kernel)) (goodIn_sub (fun _ h => List.mem_cons_of_mem _ (List.mem_append_right _ h)) (by decide +kernel))
set_option maxRecDepth 20000 in
theorem gL_has_X5_has : GoodIn wsL_has (wsV RL 72 RX5 yX5_has wsX5_has) := goodIn_app (goodIn_of _ (by decide +kernel)) ggL_has_X5_has
theorem dL_has_0 : decode cL_has 0 = .ok (.aload_n 3, 1) := by decide +kernel
theorem dL_has_1 : decode cL_has 1 = .ok (.iconst 0, 1) := by decide +kernel
theorem dL_has_2 : decode cL_has 2 = .ok (.aload_n 0, 1) := by decide +kernel
theorem dL_has_3 : decode cL_has 3 = .ok (.iload_n 1, 1) := by decide +kernel
theorem dL_has_4 : decode cL_has 4 = .ok (.iload_n 2, 1) := by decide +kernel
theorem dL_has_5 : decode cL_has 5 = .ok (.invokevirtual 72, 3) := by decide +kernel
theorem dL_has_8 : decode cL_has 8 = .ok (.ifCond .eq 7, 3) := by decide +kernel
theorem dL_has_11 : decode cL_has 11 = .ok (.lconst 1, 1) := by decide +kernel
theorem dL_has_12 : decode cL_has 12 = .ok (.goto 4, 3) := by decide +kernel
theorem dL_has_15 : decode cL_has 15 = .ok (.lconst 0, 1) := by decide +kernel
theorem dL_has_16 : decode cL_has 16 = .ok (.lastore, 1) := by decide +kernel
theorem dL_has_17 : decode cL_has 17 = .ok (.goto 7, 3) := by decide +kernel
theorem dL_has_20 : decode cL_has 20 = .ok (.astore 4, 2) := by decide +kernel
theorem dL_has_22 : decode cL_has 22 = .ok (.iconst 1, 1) := by decide +kernel
theorem dL_has_23 : decode cL_has 23 = .ok (.ireturn, 1) := by decide +kernel
theorem dL_has_24 : decode cL_has 24 = .ok (.iconst 0, 1) := by decide +kernel
theorem dL_has_25 : decode cL_has 25 = .ok (.ireturn, 1) := by decide +kernel
set_option maxRecDepth 20000 in
theorem ggL_hasAnew_X5_hasAnew : GoodIn wsL_hasAnew wsX5_hasAnew := goodIn_ca (goodIn_r _ [6, 7, 8, 9, 10, 11, 12, 13, 5, 14, 15, 16, 17, 18, 19, 20, 21, 22, 23, 24, 25, 26] (by decide +kernel) (by decide +kernel)) (goodIn_sub (fun _ h => List.mem_cons_of_mem _ (List.mem_append_right _ h)) (by decide +kernel))
set_option maxRecDepth 20000 in
theorem gL_hasAnew_X5_hasAnew : GoodIn wsL_hasAnew (wsV RL 76 RX5 yX5_hasAnew wsX5_hasAnew) := goodIn_app (goodIn_of _ (by decide +kernel)) ggL_hasAnew_X5_hasAnew
theorem dL_hasAnew_0 : decode cL_hasAnew 0 = .ok (.aload_n 3, 1) := by decide +kernel
theorem dL_hasAnew_1 : decode cL_hasAnew 1 = .ok (.iconst 0, 1) := by decide +kernel
theorem dL_hasAnew_2 : decode cL_hasAnew 2 = .ok (.aload_n 0, 1) := by decide +kernel
theorem dL_hasAnew_3 : decode cL_hasAnew 3 = .ok (.iload_n 1, 1) := by decide +kernel
theorem dL_hasAnew_4 : decode cL_hasAnew 4 = .ok (.iload_n 2, 1) := by decide +kernel
theorem dL_hasAnew_5 : decode cL_hasAnew 5 = .ok (.invokevirtual 76, 3) := by decide +kernel
theorem dL_hasAnew_8 : decode cL_hasAnew 8 = .ok (.ifCond .eq 7, 3) := by decide +kernel
theorem dL_hasAnew_11 : decode cL_hasAnew 11 = .ok (.lconst 1, 1) := by decide +kernel
theorem dL_hasAnew_12 : decode cL_hasAnew 12 = .ok (.goto 4, 3) := by decide +kernel
theorem dL_hasAnew_15 : decode cL_hasAnew 15 = .ok (.lconst 0, 1) := by decide +kernel
theorem dL_hasAnew_16 : decode cL_hasAnew 16 = .ok (.lastore, 1) := by decide +kernel
theorem dL_hasAnew_17 : decode cL_hasAnew 17 = .ok (.goto 7, 3) := by decide +kernel
theorem dL_hasAnew_20 : decode cL_hasAnew 20 = .ok (.astore 4, 2) := by decide +kernel
theorem dL_hasAnew_22 : decode cL_hasAnew 22 = .ok (.iconst 1, 1) := by decide +kernel
theorem dL_hasAnew_23 : decode cL_hasAnew 23 = .ok (.ireturn, 1) := by decide +kernel
theorem dL_hasAnew_24 : decode cL_hasAnew 24 = .ok (.iconst 0, 1) := by decide +kernel
theorem dL_hasAnew_25 : decode cL_hasAnew 25 = .ok (.ireturn, 1) := by decide +kernel
