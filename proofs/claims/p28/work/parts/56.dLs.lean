set_option maxRecDepth 100000
theorem ggL_isSo_X5_sigma : GoodIn wsL_isSo wsX5_sigma := goodIn_r _ [6, 7, 8, 9, 10, 11, 12, 13, 14, 15, 16, 17, 18, 19, 20, 260, 261, 262, 263, 264, 265, 266, 267, 268, 269, 270, 271, 272, 273, 274, 275, 276, 277, 278, 279] (by decide +kernel) (by decide +kernel)
theorem gL_isSo_X5_sigma : GoodIn wsL_isSo (wsV RL 106 RX5 yX5_sigma wsX5_sigma) := goodIn_app (goodIn_of _ (by decide +kernel)) ggL_isSo_X5_sigma
theorem ggL_isSo_X5_pi : GoodIn wsL_isSo wsX5_pi := goodIn_r _ [24, 7, 8, 9, 10, 11, 12, 13, 14, 25, 26, 27, 18, 28, 29, 260, 261, 262, 263, 264, 265, 266, 267, 268, 269, 270, 271, 272, 273, 274, 275, 276, 277, 278, 279] (by decide +kernel) (by decide +kernel)
theorem gL_isSo_X5_pi : GoodIn wsL_isSo (wsV RL 109 RX5 yX5_pi wsX5_pi) := goodIn_app (goodIn_of _ (by decide +kernel)) ggL_isSo_X5_pi
theorem ggL_isSo_X5_free : GoodIn wsL_isSo wsX5_free := goodIn_r _ [33, 7, 8, 9, 10, 11, 12, 13, 14, 34, 35, 36, 18, 37, 38, 260, 261, 262, 263, 264, 265, 266, 267, 268, 269, 270, 271, 272, 273, 274, 275, 276, 277, 278, 279] (by decide +kernel) (by decide +kernel)
theorem gL_isSo_X5_free : GoodIn wsL_isSo (wsV RL 112 RX5 yX5_free wsX5_free) := goodIn_app (goodIn_of _ (by decide +kernel)) ggL_isSo_X5_free
theorem ggL_isSo_L_ofPrinciple : GoodIn wsL_isSo wsL_ofPrinciple := goodIn_ca (goodIn_ca (goodIn_r _ [42, 43, 44, 1, 45, 46, 47, 5, 48, 49, 50, 51, 52, 53, 54, 55, 56, 57, 58, 59, 60, 61, 62, 63, 64, 65, 66, 67, 68, 69, 70, 71, 72, 73, 74, 75, 76, 77, 78, 79, 80, 81, 82, 83, 260, 261, 262, 280, 281, 282, 283, 284, 285, 286, 287, 288] (by decide +kernel) (by decide +kernel)) (goodIn_sub (fun _ h => List.mem_cons_of_mem _ (List.mem_append_left _ (List.mem_append_right _ h))) (by decide +kernel))) (goodIn_sub (fun _ h => List.mem_cons_of_mem _ (List.mem_append_right _ h)) (by decide +kernel))
theorem gL_isSo_L_ofPrinciple : GoodIn wsL_isSo (va_wsS RL 139 yL_ofPrinciple wsL_ofPrinciple) := goodIn_app (goodIn_of _ (by decide +kernel)) ggL_isSo_L_ofPrinciple
theorem ggL_isSo_L_ofProblem : GoodIn wsL_isSo wsL_ofProblem := goodIn_ca (goodIn_ca (goodIn_r _ [133, 43, 44, 1, 134, 135, 136, 5, 137, 49, 50, 51, 52, 138, 139, 140, 141, 142, 143, 144, 60, 61, 62, 145, 146, 147, 148, 149, 150, 151, 260, 261, 262, 289, 290, 291, 292, 293, 294, 295] (by decide +kernel) (by decide +kernel)) (goodIn_sub (fun _ h => List.mem_cons_of_mem _ (List.mem_append_left _ (List.mem_append_right _ h))) (by decide +kernel))) (goodIn_sub (fun _ h => List.mem_cons_of_mem _ (List.mem_append_right _ h)) (by decide +kernel))
theorem gL_isSo_L_ofProblem : GoodIn wsL_isSo (va_wsS RL 149 yL_ofProblem wsL_ofProblem) := goodIn_app (goodIn_of _ (by decide +kernel)) ggL_isSo_L_ofProblem
theorem ggL_isSo_L_low : GoodIn wsL_isSo wsL_low := goodIn_r _ [223, 224] (by decide +kernel) (by decide +kernel)
theorem gL_isSo_L_low : GoodIn wsL_isSo (va_wsS RL 81 yL_low wsL_low) := goodIn_app (goodIn_of _ (by decide +kernel)) ggL_isSo_L_low
theorem ggL_isSo_X5_has : GoodIn wsL_isSo wsX5_has := goodIn_ca (goodIn_r _ [228, 51, 52, 229, 230, 231, 232, 233, 5, 234, 235, 236, 237, 238, 239, 240, 241, 242, 243] (by decide +kernel) (by decide +kernel)) (goodIn_sub (fun _ h => List.mem_cons_of_mem _ (List.mem_append_right _ h)) (by decide +kernel))
theorem gL_isSo_X5_has : GoodIn wsL_isSo (wsV RL 74 RX5 yX5_has wsX5_has) := goodIn_app (goodIn_of _ (by decide +kernel)) ggL_isSo_X5_has
theorem ggL_isSo_X5_hasAnew : GoodIn wsL_isSo wsX5_hasAnew := goodIn_ca (goodIn_r _ [247, 51, 52, 229, 230, 231, 232, 233, 5, 234, 248, 249, 250, 251, 252, 253, 254, 255, 256, 257, 258, 259] (by decide +kernel) (by decide +kernel)) (goodIn_sub (fun _ h => List.mem_cons_of_mem _ (List.mem_append_right _ h)) (by decide +kernel))
theorem gL_isSo_X5_hasAnew : GoodIn wsL_isSo (wsV RL 78 RX5 yX5_hasAnew wsX5_hasAnew) := goodIn_app (goodIn_of _ (by decide +kernel)) ggL_isSo_X5_hasAnew
theorem dL_isSo_0 : decode cL_isSo 0 = .ok (.aload_n 0, 1) := by decide +kernel
theorem dL_isSo_1 : decode cL_isSo 1 = .ok (.invokevirtual 106, 3) := by decide +kernel
theorem dL_isSo_4 : decode cL_isSo 4 = .ok (.istore_n 2, 1) := by decide +kernel
theorem dL_isSo_5 : decode cL_isSo 5 = .ok (.aload_n 0, 1) := by decide +kernel
theorem dL_isSo_6 : decode cL_isSo 6 = .ok (.invokevirtual 109, 3) := by decide +kernel
theorem dL_isSo_9 : decode cL_isSo 9 = .ok (.istore_n 3, 1) := by decide +kernel
theorem dL_isSo_10 : decode cL_isSo 10 = .ok (.iload_n 2, 1) := by decide +kernel
theorem dL_isSo_11 : decode cL_isSo 11 = .ok (.ifCond .ge 7, 3) := by decide +kernel
theorem dL_isSo_14 : decode cL_isSo 14 = .ok (.iconst 1, 1) := by decide +kernel
theorem dL_isSo_15 : decode cL_isSo 15 = .ok (.goto 4, 3) := by decide +kernel
theorem dL_isSo_18 : decode cL_isSo 18 = .ok (.iconst 0, 1) := by decide +kernel
theorem dL_isSo_19 : decode cL_isSo 19 = .ok (.iload_n 3, 1) := by decide +kernel
theorem dL_isSo_20 : decode cL_isSo 20 = .ok (.ifCond .ge 7, 3) := by decide +kernel
theorem dL_isSo_23 : decode cL_isSo 23 = .ok (.iconst 1, 1) := by decide +kernel
theorem dL_isSo_24 : decode cL_isSo 24 = .ok (.goto 4, 3) := by decide +kernel
theorem dL_isSo_27 : decode cL_isSo 27 = .ok (.iconst 0, 1) := by decide +kernel
theorem dL_isSo_28 : decode cL_isSo 28 = .ok (.if_icmp .ne 45, 3) := by decide +kernel
theorem dL_isSo_31 : decode cL_isSo 31 = .ok (.iload_n 2, 1) := by decide +kernel
theorem dL_isSo_32 : decode cL_isSo 32 = .ok (.iload_n 3, 1) := by decide +kernel
theorem dL_isSo_33 : decode cL_isSo 33 = .ok (.isub, 1) := by decide +kernel
theorem dL_isSo_34 : decode cL_isSo 34 = .ok (.iconst 2, 1) := by decide +kernel
theorem dL_isSo_35 : decode cL_isSo 35 = .ok (.if_icmp .ge 38, 3) := by decide +kernel
theorem dL_isSo_38 : decode cL_isSo 38 = .ok (.iload_n 3, 1) := by decide +kernel
theorem dL_isSo_39 : decode cL_isSo 39 = .ok (.iload_n 2, 1) := by decide +kernel
theorem dL_isSo_40 : decode cL_isSo 40 = .ok (.isub, 1) := by decide +kernel
theorem dL_isSo_41 : decode cL_isSo 41 = .ok (.iconst 2, 1) := by decide +kernel
theorem dL_isSo_42 : decode cL_isSo 42 = .ok (.if_icmp .ge 31, 3) := by decide +kernel
theorem dL_isSo_45 : decode cL_isSo 45 = .ok (.iload_n 2, 1) := by decide +kernel
theorem dL_isSo_46 : decode cL_isSo 46 = .ok (.ifCond .ge 7, 3) := by decide +kernel
theorem dL_isSo_49 : decode cL_isSo 49 = .ok (.iconst 1, 1) := by decide +kernel
theorem dL_isSo_50 : decode cL_isSo 50 = .ok (.goto 4, 3) := by decide +kernel
theorem dL_isSo_53 : decode cL_isSo 53 = .ok (.iconst 0, 1) := by decide +kernel
theorem dL_isSo_54 : decode cL_isSo 54 = .ok (.aload_n 0, 1) := by decide +kernel
theorem dL_isSo_55 : decode cL_isSo 55 = .ok (.invokevirtual 112, 3) := by decide +kernel
theorem dL_isSo_58 : decode cL_isSo 58 = .ok (.ifCond .ge 7, 3) := by decide +kernel
theorem dL_isSo_61 : decode cL_isSo 61 = .ok (.iconst 1, 1) := by decide +kernel
theorem dL_isSo_62 : decode cL_isSo 62 = .ok (.goto 4, 3) := by decide +kernel
theorem dL_isSo_65 : decode cL_isSo 65 = .ok (.iconst 0, 1) := by decide +kernel
theorem dL_isSo_66 : decode cL_isSo 66 = .ok (.if_icmp .ne 7, 3) := by decide +kernel
theorem dL_isSo_69 : decode cL_isSo 69 = .ok (.iconst 1, 1) := by decide +kernel
theorem dL_isSo_70 : decode cL_isSo 70 = .ok (.goto 4, 3) := by decide +kernel
theorem dL_isSo_73 : decode cL_isSo 73 = .ok (.iconst 0, 1) := by decide +kernel
theorem dL_isSo_74 : decode cL_isSo 74 = .ok (.istore 4, 2) := by decide +kernel
theorem dL_isSo_76 : decode cL_isSo 76 = .ok (.iconst 0, 1) := by decide +kernel
theorem dL_isSo_77 : decode cL_isSo 77 = .ok (.istore 5, 2) := by decide +kernel
theorem dL_isSo_79 : decode cL_isSo 79 = .ok (.iconst 0, 1) := by decide +kernel
theorem dL_isSo_80 : decode cL_isSo 80 = .ok (.istore 6, 2) := by decide +kernel
theorem dL_isSo_82 : decode cL_isSo 82 = .ok (.iload 6, 2) := by decide +kernel
theorem dL_isSo_84 : decode cL_isSo 84 = .ok (.bipush 10, 2) := by decide +kernel
theorem dL_isSo_86 : decode cL_isSo 86 = .ok (.if_icmp .ge 29, 3) := by decide +kernel
theorem dL_isSo_89 : decode cL_isSo 89 = .ok (.iload 5, 2) := by decide +kernel
theorem dL_isSo_91 : decode cL_isSo 91 = .ok (.aload_n 0, 1) := by decide +kernel
theorem dL_isSo_92 : decode cL_isSo 92 = .ok (.iload 6, 2) := by decide +kernel
theorem dL_isSo_94 : decode cL_isSo 94 = .ok (.iconst 0, 1) := by decide +kernel
theorem dL_isSo_95 : decode cL_isSo 95 = .ok (.invokestatic 139, 3) := by decide +kernel
theorem dL_isSo_98 : decode cL_isSo 98 = .ok (.ifCond .lt 7, 3) := by decide +kernel
theorem dL_isSo_101 : decode cL_isSo 101 = .ok (.iconst 1, 1) := by decide +kernel
theorem dL_isSo_102 : decode cL_isSo 102 = .ok (.goto 4, 3) := by decide +kernel
theorem dL_isSo_105 : decode cL_isSo 105 = .ok (.iconst 0, 1) := by decide +kernel
theorem dL_isSo_106 : decode cL_isSo 106 = .ok (.iadd, 1) := by decide +kernel
theorem dL_isSo_107 : decode cL_isSo 107 = .ok (.istore 5, 2) := by decide +kernel
theorem dL_isSo_109 : decode cL_isSo 109 = .ok (.iinc 6 1, 3) := by decide +kernel
theorem dL_isSo_112 : decode cL_isSo 112 = .ok (.goto (-30), 3) := by decide +kernel
theorem dL_isSo_115 : decode cL_isSo 115 = .ok (.iconst 1, 1) := by decide +kernel
theorem dL_isSo_116 : decode cL_isSo 116 = .ok (.iload 5, 2) := by decide +kernel
theorem dL_isSo_118 : decode cL_isSo 118 = .ok (.ishl, 1) := by decide +kernel
theorem dL_isSo_119 : decode cL_isSo 119 = .ok (.iconst 1, 1) := by decide +kernel
theorem dL_isSo_120 : decode cL_isSo 120 = .ok (.isub, 1) := by decide +kernel
theorem dL_isSo_121 : decode cL_isSo 121 = .ok (.istore 6, 2) := by decide +kernel
theorem dL_isSo_123 : decode cL_isSo 123 = .ok (.iconst 0, 1) := by decide +kernel
theorem dL_isSo_124 : decode cL_isSo 124 = .ok (.istore 7, 2) := by decide +kernel
theorem dL_isSo_126 : decode cL_isSo 126 = .ok (.iload 7, 2) := by decide +kernel
theorem dL_isSo_128 : decode cL_isSo 128 = .ok (.iload 5, 2) := by decide +kernel
theorem dL_isSo_130 : decode cL_isSo 130 = .ok (.if_icmp .ge 193, 3) := by decide +kernel
theorem dL_isSo_133 : decode cL_isSo 133 = .ok (.iload 7, 2) := by decide +kernel
theorem dL_isSo_135 : decode cL_isSo 135 = .ok (.iconst 4, 1) := by decide +kernel
theorem dL_isSo_136 : decode cL_isSo 136 = .ok (.if_icmp .ge 187, 3) := by decide +kernel
theorem dL_isSo_139 : decode cL_isSo 139 = .ok (.iload 4, 2) := by decide +kernel
theorem dL_isSo_141 : decode cL_isSo 141 = .ok (.ifCond .eq 182, 3) := by decide +kernel
theorem dL_isSo_144 : decode cL_isSo 144 = .ok (.iload 6, 2) := by decide +kernel
theorem dL_isSo_146 : decode cL_isSo 146 = .ok (.iconst 1, 1) := by decide +kernel
theorem dL_isSo_147 : decode cL_isSo 147 = .ok (.iload 7, 2) := by decide +kernel
theorem dL_isSo_149 : decode cL_isSo 149 = .ok (.ishl, 1) := by decide +kernel
theorem dL_isSo_150 : decode cL_isSo 150 = .ok (.iconst (-1), 1) := by decide +kernel
theorem dL_isSo_151 : decode cL_isSo 151 = .ok (.ixor, 1) := by decide +kernel
theorem dL_isSo_152 : decode cL_isSo 152 = .ok (.iand, 1) := by decide +kernel
theorem dL_isSo_153 : decode cL_isSo 153 = .ok (.iload_n 1, 1) := by decide +kernel
theorem dL_isSo_154 : decode cL_isSo 154 = .ok (.iload 7, 2) := by decide +kernel
theorem dL_isSo_156 : decode cL_isSo 156 = .ok (.ishr, 1) := by decide +kernel
theorem dL_isSo_157 : decode cL_isSo 157 = .ok (.iand, 1) := by decide +kernel
theorem dL_isSo_158 : decode cL_isSo 158 = .ok (.istore 8, 2) := by decide +kernel
theorem dL_isSo_160 : decode cL_isSo 160 = .ok (.aload_n 0, 1) := by decide +kernel
theorem dL_isSo_161 : decode cL_isSo 161 = .ok (.iload 7, 2) := by decide +kernel
theorem dL_isSo_163 : decode cL_isSo 163 = .ok (.iload 8, 2) := by decide +kernel
theorem dL_isSo_165 : decode cL_isSo 165 = .ok (.invokevirtual 47, 3) := by decide +kernel
theorem dL_isSo_168 : decode cL_isSo 168 = .ok (.istore 9, 2) := by decide +kernel
theorem dL_isSo_170 : decode cL_isSo 170 = .ok (.aload_n 0, 1) := by decide +kernel
theorem dL_isSo_171 : decode cL_isSo 171 = .ok (.iload 7, 2) := by decide +kernel
theorem dL_isSo_173 : decode cL_isSo 173 = .ok (.iload 8, 2) := by decide +kernel
theorem dL_isSo_175 : decode cL_isSo 175 = .ok (.invokevirtual 50, 3) := by decide +kernel
theorem dL_isSo_178 : decode cL_isSo 178 = .ok (.iload 9, 2) := by decide +kernel
theorem dL_isSo_180 : decode cL_isSo 180 = .ok (.if_icmp .ne 70, 3) := by decide +kernel
theorem dL_isSo_183 : decode cL_isSo 183 = .ok (.iload 9, 2) := by decide +kernel
theorem dL_isSo_185 : decode cL_isSo 185 = .ok (.iconst (-1), 1) := by decide +kernel
theorem dL_isSo_186 : decode cL_isSo 186 = .ok (.if_icmp .ne 7, 3) := by decide +kernel
theorem dL_isSo_189 : decode cL_isSo 189 = .ok (.iconst 1, 1) := by decide +kernel
theorem dL_isSo_190 : decode cL_isSo 190 = .ok (.goto 4, 3) := by decide +kernel
theorem dL_isSo_193 : decode cL_isSo 193 = .ok (.iconst 0, 1) := by decide +kernel
theorem dL_isSo_194 : decode cL_isSo 194 = .ok (.aload_n 0, 1) := by decide +kernel
theorem dL_isSo_195 : decode cL_isSo 195 = .ok (.iload 8, 2) := by decide +kernel
theorem dL_isSo_197 : decode cL_isSo 197 = .ok (.invokevirtual 37, 3) := by decide +kernel
theorem dL_isSo_200 : decode cL_isSo 200 = .ok (.iload 7, 2) := by decide +kernel
theorem dL_isSo_202 : decode cL_isSo 202 = .ok (.ishr, 1) := by decide +kernel
theorem dL_isSo_203 : decode cL_isSo 203 = .ok (.iconst 1, 1) := by decide +kernel
theorem dL_isSo_204 : decode cL_isSo 204 = .ok (.iand, 1) := by decide +kernel
theorem dL_isSo_205 : decode cL_isSo 205 = .ok (.ifCond .ne 7, 3) := by decide +kernel
theorem dL_isSo_208 : decode cL_isSo 208 = .ok (.iconst 1, 1) := by decide +kernel
theorem dL_isSo_209 : decode cL_isSo 209 = .ok (.goto 4, 3) := by decide +kernel
theorem dL_isSo_212 : decode cL_isSo 212 = .ok (.iconst 0, 1) := by decide +kernel
theorem dL_isSo_213 : decode cL_isSo 213 = .ok (.if_icmp .ne 37, 3) := by decide +kernel
theorem dL_isSo_216 : decode cL_isSo 216 = .ok (.iload 9, 2) := by decide +kernel
theorem dL_isSo_218 : decode cL_isSo 218 = .ok (.ifCond .lt 28, 3) := by decide +kernel
theorem dL_isSo_221 : decode cL_isSo 221 = .ok (.iload 9, 2) := by decide +kernel
theorem dL_isSo_223 : decode cL_isSo 223 = .ok (.iload 8, 2) := by decide +kernel
theorem dL_isSo_225 : decode cL_isSo 225 = .ok (.iconst (-1), 1) := by decide +kernel
theorem dL_isSo_226 : decode cL_isSo 226 = .ok (.ixor, 1) := by decide +kernel
theorem dL_isSo_227 : decode cL_isSo 227 = .ok (.iand, 1) := by decide +kernel
theorem dL_isSo_228 : decode cL_isSo 228 = .ok (.ifCond .ne 22, 3) := by decide +kernel
theorem dL_isSo_231 : decode cL_isSo 231 = .ok (.aload_n 0, 1) := by decide +kernel
theorem dL_isSo_232 : decode cL_isSo 232 = .ok (.iload 9, 2) := by decide +kernel
theorem dL_isSo_234 : decode cL_isSo 234 = .ok (.invokevirtual 37, 3) := by decide +kernel
theorem dL_isSo_237 : decode cL_isSo 237 = .ok (.iload 7, 2) := by decide +kernel
theorem dL_isSo_239 : decode cL_isSo 239 = .ok (.ishr, 1) := by decide +kernel
theorem dL_isSo_240 : decode cL_isSo 240 = .ok (.iconst 1, 1) := by decide +kernel
theorem dL_isSo_241 : decode cL_isSo 241 = .ok (.iand, 1) := by decide +kernel
theorem dL_isSo_242 : decode cL_isSo 242 = .ok (.iconst 1, 1) := by decide +kernel
theorem dL_isSo_243 : decode cL_isSo 243 = .ok (.if_icmp .ne 7, 3) := by decide +kernel
theorem dL_isSo_246 : decode cL_isSo 246 = .ok (.iconst 1, 1) := by decide +kernel
theorem dL_isSo_247 : decode cL_isSo 247 = .ok (.goto 4, 3) := by decide +kernel
theorem dL_isSo_250 : decode cL_isSo 250 = .ok (.iconst 0, 1) := by decide +kernel
theorem dL_isSo_251 : decode cL_isSo 251 = .ok (.istore 4, 2) := by decide +kernel
theorem dL_isSo_253 : decode cL_isSo 253 = .ok (.iconst 0, 1) := by decide +kernel
theorem dL_isSo_254 : decode cL_isSo 254 = .ok (.istore 10, 2) := by decide +kernel
theorem dL_isSo_256 : decode cL_isSo 256 = .ok (.iload 10, 2) := by decide +kernel
theorem dL_isSo_258 : decode cL_isSo 258 = .ok (.iload 5, 2) := by decide +kernel
theorem dL_isSo_260 : decode cL_isSo 260 = .ok (.if_icmp .ge 57, 3) := by decide +kernel
theorem dL_isSo_263 : decode cL_isSo 263 = .ok (.iload 4, 2) := by decide +kernel
theorem dL_isSo_265 : decode cL_isSo 265 = .ok (.ifCond .eq 52, 3) := by decide +kernel
theorem dL_isSo_268 : decode cL_isSo 268 = .ok (.iload 9, 2) := by decide +kernel
theorem dL_isSo_270 : decode cL_isSo 270 = .ok (.ifCond .le 47, 3) := by decide +kernel
theorem dL_isSo_273 : decode cL_isSo 273 = .ok (.iload 9, 2) := by decide +kernel
theorem dL_isSo_275 : decode cL_isSo 275 = .ok (.iload 10, 2) := by decide +kernel
theorem dL_isSo_277 : decode cL_isSo 277 = .ok (.ishr, 1) := by decide +kernel
theorem dL_isSo_278 : decode cL_isSo 278 = .ok (.iconst 1, 1) := by decide +kernel
theorem dL_isSo_279 : decode cL_isSo 279 = .ok (.iand, 1) := by decide +kernel
theorem dL_isSo_280 : decode cL_isSo 280 = .ok (.ifCond .eq 24, 3) := by decide +kernel
theorem dL_isSo_283 : decode cL_isSo 283 = .ok (.aload_n 0, 1) := by decide +kernel
theorem dL_isSo_284 : decode cL_isSo 284 = .ok (.iload 9, 2) := by decide +kernel
theorem dL_isSo_286 : decode cL_isSo 286 = .ok (.iconst 1, 1) := by decide +kernel
theorem dL_isSo_287 : decode cL_isSo 287 = .ok (.iload 10, 2) := by decide +kernel
theorem dL_isSo_289 : decode cL_isSo 289 = .ok (.ishl, 1) := by decide +kernel
theorem dL_isSo_290 : decode cL_isSo 290 = .ok (.iconst (-1), 1) := by decide +kernel
theorem dL_isSo_291 : decode cL_isSo 291 = .ok (.ixor, 1) := by decide +kernel
theorem dL_isSo_292 : decode cL_isSo 292 = .ok (.iand, 1) := by decide +kernel
theorem dL_isSo_293 : decode cL_isSo 293 = .ok (.invokevirtual 37, 3) := by decide +kernel
theorem dL_isSo_296 : decode cL_isSo 296 = .ok (.iload 7, 2) := by decide +kernel
theorem dL_isSo_298 : decode cL_isSo 298 = .ok (.ishr, 1) := by decide +kernel
theorem dL_isSo_299 : decode cL_isSo 299 = .ok (.iconst 1, 1) := by decide +kernel
theorem dL_isSo_300 : decode cL_isSo 300 = .ok (.iand, 1) := by decide +kernel
theorem dL_isSo_301 : decode cL_isSo 301 = .ok (.ifCond .ne 7, 3) := by decide +kernel
theorem dL_isSo_304 : decode cL_isSo 304 = .ok (.iconst 1, 1) := by decide +kernel
theorem dL_isSo_305 : decode cL_isSo 305 = .ok (.goto 4, 3) := by decide +kernel
theorem dL_isSo_308 : decode cL_isSo 308 = .ok (.iconst 0, 1) := by decide +kernel
theorem dL_isSo_309 : decode cL_isSo 309 = .ok (.istore 4, 2) := by decide +kernel
theorem dL_isSo_311 : decode cL_isSo 311 = .ok (.iinc 10 1, 3) := by decide +kernel
theorem dL_isSo_314 : decode cL_isSo 314 = .ok (.goto (-58), 3) := by decide +kernel
theorem dL_isSo_317 : decode cL_isSo 317 = .ok (.iinc 7 1, 3) := by decide +kernel
theorem dL_isSo_320 : decode cL_isSo 320 = .ok (.goto (-194), 3) := by decide +kernel
theorem dL_isSo_323 : decode cL_isSo 323 = .ok (.iconst 0, 1) := by decide +kernel
theorem dL_isSo_324 : decode cL_isSo 324 = .ok (.istore 7, 2) := by decide +kernel
theorem dL_isSo_326 : decode cL_isSo 326 = .ok (.iload 7, 2) := by decide +kernel
theorem dL_isSo_328 : decode cL_isSo 328 = .ok (.bipush 6, 2) := by decide +kernel
theorem dL_isSo_330 : decode cL_isSo 330 = .ok (.if_icmp .ge 73, 3) := by decide +kernel
theorem dL_isSo_333 : decode cL_isSo 333 = .ok (.iload 4, 2) := by decide +kernel
theorem dL_isSo_335 : decode cL_isSo 335 = .ok (.ifCond .eq 68, 3) := by decide +kernel
theorem dL_isSo_338 : decode cL_isSo 338 = .ok (.aload_n 0, 1) := by decide +kernel
theorem dL_isSo_339 : decode cL_isSo 339 = .ok (.iload 7, 2) := by decide +kernel
theorem dL_isSo_341 : decode cL_isSo 341 = .ok (.iconst 0, 1) := by decide +kernel
theorem dL_isSo_342 : decode cL_isSo 342 = .ok (.invokestatic 149, 3) := by decide +kernel
theorem dL_isSo_345 : decode cL_isSo 345 = .ok (.ifCond .lt 45, 3) := by decide +kernel
theorem dL_isSo_348 : decode cL_isSo 348 = .ok (.aload_n 0, 1) := by decide +kernel
theorem dL_isSo_349 : decode cL_isSo 349 = .ok (.iload 7, 2) := by decide +kernel
theorem dL_isSo_351 : decode cL_isSo 351 = .ok (.iload 7, 2) := by decide +kernel
theorem dL_isSo_353 : decode cL_isSo 353 = .ok (.invokevirtual 62, 3) := by decide +kernel
theorem dL_isSo_356 : decode cL_isSo 356 = .ok (.ifCond .lt 38, 3) := by decide +kernel
theorem dL_isSo_359 : decode cL_isSo 359 = .ok (.aload_n 0, 1) := by decide +kernel
theorem dL_isSo_360 : decode cL_isSo 360 = .ok (.iload 7, 2) := by decide +kernel
theorem dL_isSo_362 : decode cL_isSo 362 = .ok (.iload 7, 2) := by decide +kernel
theorem dL_isSo_364 : decode cL_isSo 364 = .ok (.invokevirtual 65, 3) := by decide +kernel
theorem dL_isSo_367 : decode cL_isSo 367 = .ok (.aload_n 0, 1) := by decide +kernel
theorem dL_isSo_368 : decode cL_isSo 368 = .ok (.iload 7, 2) := by decide +kernel
theorem dL_isSo_370 : decode cL_isSo 370 = .ok (.iload 7, 2) := by decide +kernel
theorem dL_isSo_372 : decode cL_isSo 372 = .ok (.invokevirtual 62, 3) := by decide +kernel
theorem dL_isSo_375 : decode cL_isSo 375 = .ok (.if_icmp .ne 19, 3) := by decide +kernel
theorem dL_isSo_378 : decode cL_isSo 378 = .ok (.aload_n 0, 1) := by decide +kernel
theorem dL_isSo_379 : decode cL_isSo 379 = .ok (.iload 7, 2) := by decide +kernel
theorem dL_isSo_381 : decode cL_isSo 381 = .ok (.iload 7, 2) := by decide +kernel
theorem dL_isSo_383 : decode cL_isSo 383 = .ok (.iconst 0, 1) := by decide +kernel
theorem dL_isSo_384 : decode cL_isSo 384 = .ok (.invokevirtual 68, 3) := by decide +kernel
theorem dL_isSo_387 : decode cL_isSo 387 = .ok (.ifCond .lt 7, 3) := by decide +kernel
theorem dL_isSo_390 : decode cL_isSo 390 = .ok (.iconst 1, 1) := by decide +kernel
theorem dL_isSo_391 : decode cL_isSo 391 = .ok (.goto 4, 3) := by decide +kernel
theorem dL_isSo_394 : decode cL_isSo 394 = .ok (.iconst 0, 1) := by decide +kernel
theorem dL_isSo_395 : decode cL_isSo 395 = .ok (.istore 4, 2) := by decide +kernel
theorem dL_isSo_397 : decode cL_isSo 397 = .ok (.iinc 7 1, 3) := by decide +kernel
theorem dL_isSo_400 : decode cL_isSo 400 = .ok (.goto (-74), 3) := by decide +kernel
theorem dL_isSo_403 : decode cL_isSo 403 = .ok (.iconst 0, 1) := by decide +kernel
theorem dL_isSo_404 : decode cL_isSo 404 = .ok (.istore 7, 2) := by decide +kernel
theorem dL_isSo_406 : decode cL_isSo 406 = .ok (.iload 7, 2) := by decide +kernel
theorem dL_isSo_408 : decode cL_isSo 408 = .ok (.bipush 6, 2) := by decide +kernel
theorem dL_isSo_410 : decode cL_isSo 410 = .ok (.if_icmp .ge 82, 3) := by decide +kernel
theorem dL_isSo_413 : decode cL_isSo 413 = .ok (.iload 4, 2) := by decide +kernel
theorem dL_isSo_415 : decode cL_isSo 415 = .ok (.ifCond .eq 77, 3) := by decide +kernel
theorem dL_isSo_418 : decode cL_isSo 418 = .ok (.iload_n 1, 1) := by decide +kernel
theorem dL_isSo_419 : decode cL_isSo 419 = .ok (.bipush 37, 2) := by decide +kernel
theorem dL_isSo_421 : decode cL_isSo 421 = .ok (.iload 7, 2) := by decide +kernel
theorem dL_isSo_423 : decode cL_isSo 423 = .ok (.imul, 1) := by decide +kernel
theorem dL_isSo_424 : decode cL_isSo 424 = .ok (.iadd, 1) := by decide +kernel
theorem dL_isSo_425 : decode cL_isSo 425 = .ok (.sipush 256, 3) := by decide +kernel
theorem dL_isSo_428 : decode cL_isSo 428 = .ok (.invokestatic 81, 3) := by decide +kernel
theorem dL_isSo_431 : decode cL_isSo 431 = .ok (.istore 8, 2) := by decide +kernel
theorem dL_isSo_433 : decode cL_isSo 433 = .ok (.aload_n 0, 1) := by decide +kernel
theorem dL_isSo_434 : decode cL_isSo 434 = .ok (.iconst 3, 1) := by decide +kernel
theorem dL_isSo_435 : decode cL_isSo 435 = .ok (.iload 8, 2) := by decide +kernel
theorem dL_isSo_437 : decode cL_isSo 437 = .ok (.invokevirtual 74, 3) := by decide +kernel
theorem dL_isSo_440 : decode cL_isSo 440 = .ok (.aload_n 0, 1) := by decide +kernel
theorem dL_isSo_441 : decode cL_isSo 441 = .ok (.iconst 3, 1) := by decide +kernel
theorem dL_isSo_442 : decode cL_isSo 442 = .ok (.iload 8, 2) := by decide +kernel
theorem dL_isSo_444 : decode cL_isSo 444 = .ok (.invokevirtual 78, 3) := by decide +kernel
theorem dL_isSo_447 : decode cL_isSo 447 = .ok (.if_icmp .ne 36, 3) := by decide +kernel
theorem dL_isSo_450 : decode cL_isSo 450 = .ok (.aload_n 0, 1) := by decide +kernel
theorem dL_isSo_451 : decode cL_isSo 451 = .ok (.iconst 3, 1) := by decide +kernel
theorem dL_isSo_452 : decode cL_isSo 452 = .ok (.iload 8, 2) := by decide +kernel
theorem dL_isSo_454 : decode cL_isSo 454 = .ok (.invokevirtual 74, 3) := by decide +kernel
theorem dL_isSo_457 : decode cL_isSo 457 = .ok (.ifCond .eq 22, 3) := by decide +kernel
theorem dL_isSo_460 : decode cL_isSo 460 = .ok (.aload_n 0, 1) := by decide +kernel
theorem dL_isSo_461 : decode cL_isSo 461 = .ok (.iconst 3, 1) := by decide +kernel
theorem dL_isSo_462 : decode cL_isSo 462 = .ok (.iload 8, 2) := by decide +kernel
theorem dL_isSo_464 : decode cL_isSo 464 = .ok (.iconst 1, 1) := by decide +kernel
theorem dL_isSo_465 : decode cL_isSo 465 = .ok (.iload_n 1, 1) := by decide +kernel
theorem dL_isSo_466 : decode cL_isSo 466 = .ok (.bipush 8, 2) := by decide +kernel
theorem dL_isSo_468 : decode cL_isSo 468 = .ok (.invokestatic 81, 3) := by decide +kernel
theorem dL_isSo_471 : decode cL_isSo 471 = .ok (.ishl, 1) := by decide +kernel
theorem dL_isSo_472 : decode cL_isSo 472 = .ok (.ior, 1) := by decide +kernel
theorem dL_isSo_473 : decode cL_isSo 473 = .ok (.invokevirtual 74, 3) := by decide +kernel
theorem dL_isSo_476 : decode cL_isSo 476 = .ok (.ifCond .eq 7, 3) := by decide +kernel
theorem dL_isSo_479 : decode cL_isSo 479 = .ok (.iconst 1, 1) := by decide +kernel
theorem dL_isSo_480 : decode cL_isSo 480 = .ok (.goto 4, 3) := by decide +kernel
theorem dL_isSo_483 : decode cL_isSo 483 = .ok (.iconst 0, 1) := by decide +kernel
theorem dL_isSo_484 : decode cL_isSo 484 = .ok (.istore 4, 2) := by decide +kernel
theorem dL_isSo_486 : decode cL_isSo 486 = .ok (.iinc 7 1, 3) := by decide +kernel
theorem dL_isSo_489 : decode cL_isSo 489 = .ok (.goto (-83), 3) := by decide +kernel
theorem dL_isSo_492 : decode cL_isSo 492 = .ok (.iload 4, 2) := by decide +kernel
theorem dL_isSo_494 : decode cL_isSo 494 = .ok (.ifCond .eq 31, 3) := by decide +kernel
theorem dL_isSo_497 : decode cL_isSo 497 = .ok (.aload_n 0, 1) := by decide +kernel
theorem dL_isSo_498 : decode cL_isSo 498 = .ok (.bipush 10, 2) := by decide +kernel
theorem dL_isSo_500 : decode cL_isSo 500 = .ok (.iconst 0, 1) := by decide +kernel
theorem dL_isSo_501 : decode cL_isSo 501 = .ok (.invokestatic 139, 3) := by decide +kernel
theorem dL_isSo_504 : decode cL_isSo 504 = .ok (.ldc 16, 2) := by decide +kernel
theorem dL_isSo_506 : decode cL_isSo 506 = .ok (.if_icmp .ne 19, 3) := by decide +kernel
theorem dL_isSo_509 : decode cL_isSo 509 = .ok (.aload_n 0, 1) := by decide +kernel
theorem dL_isSo_510 : decode cL_isSo 510 = .ok (.bipush 6, 2) := by decide +kernel
theorem dL_isSo_512 : decode cL_isSo 512 = .ok (.iconst 0, 1) := by decide +kernel
theorem dL_isSo_513 : decode cL_isSo 513 = .ok (.invokestatic 149, 3) := by decide +kernel
theorem dL_isSo_516 : decode cL_isSo 516 = .ok (.ldc 16, 2) := by decide +kernel
theorem dL_isSo_518 : decode cL_isSo 518 = .ok (.if_icmp .ne 7, 3) := by decide +kernel
theorem dL_isSo_521 : decode cL_isSo 521 = .ok (.iconst 1, 1) := by decide +kernel
theorem dL_isSo_522 : decode cL_isSo 522 = .ok (.goto 4, 3) := by decide +kernel
theorem dL_isSo_525 : decode cL_isSo 525 = .ok (.iconst 0, 1) := by decide +kernel
theorem dL_isSo_526 : decode cL_isSo 526 = .ok (.ireturn, 1) := by decide +kernel
theorem ciisSo_0 : GoodIn wsL_law [Cond.code yL_isSo cL_isSo 11 (some .boolean)] := goodIn_p [Cond.code yL_isSo cL_isSo 11 (some .boolean)] [697] rfl (by decide +kernel)
theorem ciisSo_1 : GoodIn wsL_law wsL_isSo_r1 := goodIn_p wsL_isSo_r1 [80, 84, 88, 315] rfl (by decide +kernel)
theorem ciisSo_2 : GoodIn wsL_law wsL_isSo_r2 := goodIn_p wsL_isSo_r2 [319, 323, 327, 520] rfl (by decide +kernel)
theorem ciisSo_3 : GoodIn wsL_law wsL_isSo_r3 := goodIn_p wsL_isSo_r3 [391, 340, 524, 528] rfl (by decide +kernel)
theorem ciisSo_4 : GoodIn wsL_law wsL_isSo_r4 := goodIn_p wsL_isSo_r4 [532, 398, 502, 395, 506] rfl (by decide +kernel)
theorem ciisSo_5 : GoodIn wsL_law wsL_isSo_r5 := goodIn_p wsL_isSo_r5 [451, 436, 409, 412, 510] rfl (by decide +kernel)
theorem ciisSo_6 : GoodIn wsL_law wsL_isSo_r6 := goodIn_p wsL_isSo_r6 [701, 705, 447, 647, 568] rfl (by decide +kernel)
theorem ciisSo_7 : GoodIn wsL_law wsL_isSo_r7 := goodIn_p wsL_isSo_r7 [652, 587, 564, 591, 594] rfl (by decide +kernel)
theorem ciisSo_8 : GoodIn wsL_law wsL_isSo_r8 := goodIn_p wsL_isSo_r8 [597, 601, 545, 605, 609, 613] rfl (by decide +kernel)
theorem ciisSo_9 : GoodIn wsL_law wsL_isSo_r9 := goodIn_p wsL_isSo_r9 [616, 620, 624, 709, 631, 635] rfl (by decide +kernel)
theorem ciisSo_10 : GoodIn wsL_law wsL_isSo_r10 := goodIn_p wsL_isSo_r10 [639, 114, 659, 663, 337, 666, 669] rfl (by decide +kernel)
theorem ciisSo_11 : GoodIn wsL_law wsL_isSo_r11 := goodIn_p wsL_isSo_r11 [672, 679, 682, 685, 688, 691] rfl (by decide +kernel)
theorem ggL_law_L_isSo : GoodIn wsL_law wsL_isSo := goodIn_app (a := [Cond.code yL_isSo cL_isSo 11 (some .boolean)]) ciisSo_0 (goodIn_app (goodIn_app (goodIn_app (goodIn_app (goodIn_app (goodIn_app (goodIn_app (goodIn_app ciisSo_1 (goodIn_app ciisSo_2 (goodIn_app ciisSo_3 (goodIn_app ciisSo_4 (goodIn_app ciisSo_5 (goodIn_app ciisSo_6 (goodIn_app ciisSo_7 (goodIn_app ciisSo_8 (goodIn_app ciisSo_9 (goodIn_app ciisSo_10 (ciisSo_11))))))))))) (goodIn_sub inlX5 (by decide +kernel))) (goodIn_sub inlX2 (by decide +kernel))) (goodIn_sub inlX0 (by decide +kernel))) (goodIn_sub inlX4 (by decide +kernel))) (goodIn_sub inlX3 (by decide +kernel))) (goodIn_sub (fun _ h => List.mem_append_right _ h) (by decide +kernel))) (goodIn_sub (fun _ h => List.mem_append_left _ (List.mem_append_left _ (List.mem_append_right _ h))) (by decide +kernel)))
theorem gL_law_L_isSo : GoodIn wsL_law (va_wsS RL 167 yL_isSo wsL_isSo) := goodIn_app (goodIn_of _ (by decide +kernel)) ggL_law_L_isSo
