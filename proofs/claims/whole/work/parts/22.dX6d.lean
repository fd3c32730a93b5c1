theorem dX6_isPartSo_20 : decode cX6_isPartSo 20 = .ok (.iload_n 1, 1) := by decide +kernel
theorem dX6_isPartSo_21 : decode cX6_isPartSo 21 = .ok (.iaload, 1) := by decide +kernel
theorem dX6_isPartSo_22 : decode cX6_isPartSo 22 = .ok (.imul, 1) := by decide +kernel
theorem dX6_isPartSo_23 : decode cX6_isPartSo 23 = .ok (.iload_n 2, 1) := by decide +kernel
theorem dX6_isPartSo_24 : decode cX6_isPartSo 24 = .ok (.iadd, 1) := by decide +kernel
theorem dX6_isPartSo_25 : decode cX6_isPartSo 25 = .ok (.baload, 1) := by decide +kernel
theorem dX6_isPartSo_26 : decode cX6_isPartSo 26 = .ok (.ifCond .eq 7, 3) := by decide +kernel
theorem dX6_isPartSo_29 : decode cX6_isPartSo 29 = .ok (.iconst 1, 1) := by decide +kernel
theorem dX6_isPartSo_30 : decode cX6_isPartSo 30 = .ok (.goto 4, 3) := by decide +kernel
theorem dX6_isPartSo_33 : decode cX6_isPartSo 33 = .ok (.iconst 0, 1) := by decide +kernel
theorem dX6_isPartSo_34 : decode cX6_isPartSo 34 = .ok (.istore 4, 2) := by decide +kernel
theorem dX6_isPartSo_36 : decode cX6_isPartSo 36 = .ok (.aload_n 0, 1) := by decide +kernel
theorem dX6_isPartSo_37 : decode cX6_isPartSo 37 = .ok (.getfield 20, 3) := by decide +kernel
theorem dX6_isPartSo_40 : decode cX6_isPartSo 40 = .ok (.iload_n 1, 1) := by decide +kernel
theorem dX6_isPartSo_41 : decode cX6_isPartSo 41 = .ok (.iaload, 1) := by decide +kernel
theorem dX6_isPartSo_42 : decode cX6_isPartSo 42 = .ok (.iconst (-1), 1) := by decide +kernel
theorem dX6_isPartSo_43 : decode cX6_isPartSo 43 = .ok (.if_icmp .eq 26, 3) := by decide +kernel
theorem dX6_isPartSo_46 : decode cX6_isPartSo 46 = .ok (.aload_n 0, 1) := by decide +kernel
theorem dX6_isPartSo_47 : decode cX6_isPartSo 47 = .ok (.getfield 47, 3) := by decide +kernel
theorem dX6_isPartSo_50 : decode cX6_isPartSo 50 = .ok (.bipush 125, 2) := by decide +kernel
theorem dX6_isPartSo_52 : decode cX6_isPartSo 52 = .ok (.aload_n 0, 1) := by decide +kernel
theorem dX6_isPartSo_53 : decode cX6_isPartSo 53 = .ok (.getfield 20, 3) := by decide +kernel
theorem dX6_isPartSo_56 : decode cX6_isPartSo 56 = .ok (.iload_n 1, 1) := by decide +kernel
theorem dX6_isPartSo_57 : decode cX6_isPartSo 57 = .ok (.iaload, 1) := by decide +kernel
theorem dX6_isPartSo_58 : decode cX6_isPartSo 58 = .ok (.imul, 1) := by decide +kernel
theorem dX6_isPartSo_59 : decode cX6_isPartSo 59 = .ok (.iload_n 2, 1) := by decide +kernel
theorem dX6_isPartSo_60 : decode cX6_isPartSo 60 = .ok (.iadd, 1) := by decide +kernel
theorem dX6_isPartSo_61 : decode cX6_isPartSo 61 = .ok (.baload, 1) := by decide +kernel
theorem dX6_isPartSo_62 : decode cX6_isPartSo 62 = .ok (.ifCond .eq 7, 3) := by decide +kernel
theorem dX6_isPartSo_65 : decode cX6_isPartSo 65 = .ok (.iconst 1, 1) := by decide +kernel
theorem dX6_isPartSo_66 : decode cX6_isPartSo 66 = .ok (.goto 4, 3) := by decide +kernel
theorem dX6_isPartSo_69 : decode cX6_isPartSo 69 = .ok (.iconst 0, 1) := by decide +kernel
theorem dX6_isPartSo_70 : decode cX6_isPartSo 70 = .ok (.istore 5, 2) := by decide +kernel
theorem dX6_isPartSo_72 : decode cX6_isPartSo 72 = .ok (.aload_n 0, 1) := by decide +kernel
theorem dX6_isPartSo_73 : decode cX6_isPartSo 73 = .ok (.getfield 13, 3) := by decide +kernel
theorem dX6_isPartSo_76 : decode cX6_isPartSo 76 = .ok (.iload_n 1, 1) := by decide +kernel
theorem dX6_isPartSo_77 : decode cX6_isPartSo 77 = .ok (.iaload, 1) := by decide +kernel
theorem dX6_isPartSo_78 : decode cX6_isPartSo 78 = .ok (.tableswitch 155 0 5 #[38, 67, 96, 107, 123, 139], 38) := by decide +kernel
theorem dX6_isPartSo_116 : decode cX6_isPartSo 116 = .ok (.iload_n 2, 1) := by decide +kernel
theorem dX6_isPartSo_117 : decode cX6_isPartSo 117 = .ok (.aload_n 0, 1) := by decide +kernel
theorem dX6_isPartSo_118 : decode cX6_isPartSo 118 = .ok (.getfield 23, 3) := by decide +kernel
theorem dX6_isPartSo_121 : decode cX6_isPartSo 121 = .ok (.iload_n 1, 1) := by decide +kernel
theorem dX6_isPartSo_122 : decode cX6_isPartSo 122 = .ok (.iaload, 1) := by decide +kernel
theorem dX6_isPartSo_123 : decode cX6_isPartSo 123 = .ok (.invokestatic 153, 3) := by decide +kernel
theorem dX6_isPartSo_126 : decode cX6_isPartSo 126 = .ok (.iload_n 2, 1) := by decide +kernel
theorem dX6_isPartSo_127 : decode cX6_isPartSo 127 = .ok (.aload_n 0, 1) := by decide +kernel
theorem dX6_isPartSo_128 : decode cX6_isPartSo 128 = .ok (.getfield 26, 3) := by decide +kernel
theorem dX6_isPartSo_131 : decode cX6_isPartSo 131 = .ok (.iload_n 1, 1) := by decide +kernel
theorem dX6_isPartSo_132 : decode cX6_isPartSo 132 = .ok (.iaload, 1) := by decide +kernel
theorem dX6_isPartSo_133 : decode cX6_isPartSo 133 = .ok (.invokestatic 153, 3) := by decide +kernel
theorem dX6_isPartSo_136 : decode cX6_isPartSo 136 = .ok (.if_icmp .ge 7, 3) := by decide +kernel
theorem dX6_isPartSo_139 : decode cX6_isPartSo 139 = .ok (.iconst 1, 1) := by decide +kernel
theorem dX6_isPartSo_140 : decode cX6_isPartSo 140 = .ok (.goto 4, 3) := by decide +kernel
theorem dX6_isPartSo_143 : decode cX6_isPartSo 143 = .ok (.iconst 0, 1) := by decide +kernel
theorem dX6_isPartSo_144 : decode cX6_isPartSo 144 = .ok (.ireturn, 1) := by decide +kernel
theorem dX6_isPartSo_145 : decode cX6_isPartSo 145 = .ok (.iload_n 2, 1) := by decide +kernel
theorem dX6_isPartSo_146 : decode cX6_isPartSo 146 = .ok (.aload_n 0, 1) := by decide +kernel
theorem dX6_isPartSo_147 : decode cX6_isPartSo 147 = .ok (.getfield 23, 3) := by decide +kernel
theorem dX6_isPartSo_150 : decode cX6_isPartSo 150 = .ok (.iload_n 1, 1) := by decide +kernel
theorem dX6_isPartSo_151 : decode cX6_isPartSo 151 = .ok (.iaload, 1) := by decide +kernel
theorem dX6_isPartSo_152 : decode cX6_isPartSo 152 = .ok (.invokestatic 153, 3) := by decide +kernel
theorem dX6_isPartSo_155 : decode cX6_isPartSo 155 = .ok (.iload_n 2, 1) := by decide +kernel
theorem dX6_isPartSo_156 : decode cX6_isPartSo 156 = .ok (.aload_n 0, 1) := by decide +kernel
theorem dX6_isPartSo_157 : decode cX6_isPartSo 157 = .ok (.getfield 26, 3) := by decide +kernel
theorem dX6_isPartSo_160 : decode cX6_isPartSo 160 = .ok (.iload_n 1, 1) := by decide +kernel
theorem dX6_isPartSo_161 : decode cX6_isPartSo 161 = .ok (.iaload, 1) := by decide +kernel
theorem dX6_isPartSo_162 : decode cX6_isPartSo 162 = .ok (.invokestatic 153, 3) := by decide +kernel
theorem dX6_isPartSo_165 : decode cX6_isPartSo 165 = .ok (.if_icmp .ne 7, 3) := by decide +kernel
theorem dX6_isPartSo_168 : decode cX6_isPartSo 168 = .ok (.iconst 1, 1) := by decide +kernel
theorem dX6_isPartSo_169 : decode cX6_isPartSo 169 = .ok (.goto 4, 3) := by decide +kernel
theorem dX6_isPartSo_172 : decode cX6_isPartSo 172 = .ok (.iconst 0, 1) := by decide +kernel
theorem dX6_isPartSo_173 : decode cX6_isPartSo 173 = .ok (.ireturn, 1) := by decide +kernel
theorem dX6_isPartSo_174 : decode cX6_isPartSo 174 = .ok (.iload 4, 2) := by decide +kernel
theorem dX6_isPartSo_176 : decode cX6_isPartSo 176 = .ok (.ifCond .ne 7, 3) := by decide +kernel
theorem dX6_isPartSo_179 : decode cX6_isPartSo 179 = .ok (.iconst 1, 1) := by decide +kernel
theorem dX6_isPartSo_180 : decode cX6_isPartSo 180 = .ok (.goto 4, 3) := by decide +kernel
theorem dX6_isPartSo_183 : decode cX6_isPartSo 183 = .ok (.iconst 0, 1) := by decide +kernel
theorem dX6_isPartSo_184 : decode cX6_isPartSo 184 = .ok (.ireturn, 1) := by decide +kernel
theorem dX6_isPartSo_185 : decode cX6_isPartSo 185 = .ok (.iload 4, 2) := by decide +kernel
theorem dX6_isPartSo_187 : decode cX6_isPartSo 187 = .ok (.ifCond .eq 12, 3) := by decide +kernel
theorem dX6_isPartSo_190 : decode cX6_isPartSo 190 = .ok (.iload 5, 2) := by decide +kernel
theorem dX6_isPartSo_192 : decode cX6_isPartSo 192 = .ok (.ifCond .eq 7, 3) := by decide +kernel
theorem dX6_isPartSo_195 : decode cX6_isPartSo 195 = .ok (.iconst 1, 1) := by decide +kernel
theorem dX6_isPartSo_196 : decode cX6_isPartSo 196 = .ok (.goto 4, 3) := by decide +kernel
theorem dX6_isPartSo_199 : decode cX6_isPartSo 199 = .ok (.iconst 0, 1) := by decide +kernel
theorem dX6_isPartSo_200 : decode cX6_isPartSo 200 = .ok (.ireturn, 1) := by decide +kernel
theorem dX6_isPartSo_201 : decode cX6_isPartSo 201 = .ok (.iload 4, 2) := by decide +kernel
theorem dX6_isPartSo_203 : decode cX6_isPartSo 203 = .ok (.ifCond .ne 8, 3) := by decide +kernel
theorem dX6_isPartSo_206 : decode cX6_isPartSo 206 = .ok (.iload 5, 2) := by decide +kernel
theorem dX6_isPartSo_208 : decode cX6_isPartSo 208 = .ok (.ifCond .eq 7, 3) := by decide +kernel
theorem dX6_isPartSo_211 : decode cX6_isPartSo 211 = .ok (.iconst 1, 1) := by decide +kernel
theorem dX6_isPartSo_212 : decode cX6_isPartSo 212 = .ok (.goto 4, 3) := by decide +kernel
theorem dX6_isPartSo_215 : decode cX6_isPartSo 215 = .ok (.iconst 0, 1) := by decide +kernel
theorem dX6_isPartSo_216 : decode cX6_isPartSo 216 = .ok (.ireturn, 1) := by decide +kernel
theorem dX6_isPartSo_217 : decode cX6_isPartSo 217 = .ok (.iload 4, 2) := by decide +kernel
theorem dX6_isPartSo_219 : decode cX6_isPartSo 219 = .ok (.ifCond .eq 8, 3) := by decide +kernel
theorem dX6_isPartSo_222 : decode cX6_isPartSo 222 = .ok (.iload 5, 2) := by decide +kernel
theorem dX6_isPartSo_224 : decode cX6_isPartSo 224 = .ok (.ifCond .eq 7, 3) := by decide +kernel
theorem dX6_isPartSo_227 : decode cX6_isPartSo 227 = .ok (.iconst 1, 1) := by decide +kernel
theorem dX6_isPartSo_228 : decode cX6_isPartSo 228 = .ok (.goto 4, 3) := by decide +kernel
theorem dX6_isPartSo_231 : decode cX6_isPartSo 231 = .ok (.iconst 0, 1) := by decide +kernel
theorem dX6_isPartSo_232 : decode cX6_isPartSo 232 = .ok (.ireturn, 1) := by decide +kernel
theorem dX6_isPartSo_233 : decode cX6_isPartSo 233 = .ok (.aload_n 0, 1) := by decide +kernel
theorem dX6_isPartSo_234 : decode cX6_isPartSo 234 = .ok (.iload_n 1, 1) := by decide +kernel
theorem dX6_isPartSo_235 : decode cX6_isPartSo 235 = .ok (.iload_n 2, 1) := by decide +kernel
theorem dX6_isPartSo_236 : decode cX6_isPartSo 236 = .ok (.iload_n 3, 1) := by decide +kernel
theorem dX6_isPartSo_237 : decode cX6_isPartSo 237 = .ok (.invokevirtual 156, 3) := by decide +kernel
theorem dX6_isPartSo_240 : decode cX6_isPartSo 240 = .ok (.ireturn, 1) := by decide +kernel
set_option maxRecDepth 20000 in
theorem ggX6_isSoFor_X6_numberAt : GoodIn wsX6_isSoFor wsX6_numberAt := goodIn_r _ [9, 10, 11, 8, 12] rfl (by decide +kernel)
set_option maxRecDepth 20000 in
theorem gX6_isSoFor_X6_numberAt : GoodIn wsX6_isSoFor (va_wsS RX6 153 yX6_numberAt wsX6_numberAt) := goodIn_app (goodIn_of _ (by decide +kernel)) ggX6_isSoFor_X6_numberAt
set_option maxRecDepth 20000 in
theorem ggX6_isSoFor_X6_power : GoodIn wsX6_isSoFor wsX6_power := goodIn_r _ [12] rfl (by decide +kernel)
set_option maxRecDepth 20000 in
theorem gX6_isSoFor_X6_power : GoodIn wsX6_isSoFor (va_wsS RX6 149 yX6_power wsX6_power) := goodIn_app (goodIn_of _ (by decide +kernel)) ggX6_isSoFor_X6_power
theorem dX6_isSoFor_0 : decode cX6_isSoFor 0 = .ok (.aload_n 0, 1) := by decide +kernel
theorem dX6_isSoFor_1 : decode cX6_isSoFor 1 = .ok (.getfield 13, 3) := by decide +kernel
theorem dX6_isSoFor_4 : decode cX6_isSoFor 4 = .ok (.iload_n 1, 1) := by decide +kernel
theorem dX6_isSoFor_5 : decode cX6_isSoFor 5 = .ok (.iaload, 1) := by decide +kernel
theorem dX6_isSoFor_6 : decode cX6_isSoFor 6 = .ok (.bipush 6, 2) := by decide +kernel
theorem dX6_isSoFor_8 : decode cX6_isSoFor 8 = .ok (.if_icmp .eq 14, 3) := by decide +kernel
theorem dX6_isSoFor_11 : decode cX6_isSoFor 11 = .ok (.aload_n 0, 1) := by decide +kernel
theorem dX6_isSoFor_12 : decode cX6_isSoFor 12 = .ok (.getfield 13, 3) := by decide +kernel
theorem dX6_isSoFor_15 : decode cX6_isSoFor 15 = .ok (.iload_n 1, 1) := by decide +kernel
theorem dX6_isSoFor_16 : decode cX6_isSoFor 16 = .ok (.iaload, 1) := by decide +kernel
theorem dX6_isSoFor_17 : decode cX6_isSoFor 17 = .ok (.bipush 8, 2) := by decide +kernel
theorem dX6_isSoFor_19 : decode cX6_isSoFor 19 = .ok (.if_icmp .ne 7, 3) := by decide +kernel
theorem dX6_isSoFor_22 : decode cX6_isSoFor 22 = .ok (.iconst 1, 1) := by decide +kernel
theorem dX6_isSoFor_23 : decode cX6_isSoFor 23 = .ok (.goto 4, 3) := by decide +kernel
theorem dX6_isSoFor_26 : decode cX6_isSoFor 26 = .ok (.iconst 0, 1) := by decide +kernel
theorem dX6_isSoFor_27 : decode cX6_isSoFor 27 = .ok (.istore 4, 2) := by decide +kernel
theorem dX6_isSoFor_29 : decode cX6_isSoFor 29 = .ok (.aload_n 0, 1) := by decide +kernel
theorem dX6_isSoFor_30 : decode cX6_isSoFor 30 = .ok (.getfield 13, 3) := by decide +kernel
theorem dX6_isSoFor_33 : decode cX6_isSoFor 33 = .ok (.iload_n 1, 1) := by decide +kernel
theorem dX6_isSoFor_34 : decode cX6_isSoFor 34 = .ok (.iaload, 1) := by decide +kernel
theorem dX6_isSoFor_35 : decode cX6_isSoFor 35 = .ok (.bipush 8, 2) := by decide +kernel
theorem dX6_isSoFor_37 : decode cX6_isSoFor 37 = .ok (.if_icmp .ge 7, 3) := by decide +kernel
theorem dX6_isSoFor_40 : decode cX6_isSoFor 40 = .ok (.iload_n 3, 1) := by decide +kernel
theorem dX6_isSoFor_41 : decode cX6_isSoFor 41 = .ok (.goto 13, 3) := by decide +kernel
theorem dX6_isSoFor_44 : decode cX6_isSoFor 44 = .ok (.iload_n 2, 1) := by decide +kernel
theorem dX6_isSoFor_45 : decode cX6_isSoFor 45 = .ok (.aload_n 0, 1) := by decide +kernel
theorem dX6_isSoFor_46 : decode cX6_isSoFor 46 = .ok (.getfield 26, 3) := by decide +kernel
theorem dX6_isSoFor_49 : decode cX6_isSoFor 49 = .ok (.iload_n 1, 1) := by decide +kernel
theorem dX6_isSoFor_50 : decode cX6_isSoFor 50 = .ok (.iaload, 1) := by decide +kernel
theorem dX6_isSoFor_51 : decode cX6_isSoFor 51 = .ok (.invokestatic 153, 3) := by decide +kernel
theorem dX6_isSoFor_54 : decode cX6_isSoFor 54 = .ok (.istore 5, 2) := by decide +kernel
theorem dX6_isSoFor_56 : decode cX6_isSoFor 56 = .ok (.iload_n 2, 1) := by decide +kernel
theorem dX6_isSoFor_57 : decode cX6_isSoFor 57 = .ok (.iload_n 2, 1) := by decide +kernel
theorem dX6_isSoFor_58 : decode cX6_isSoFor 58 = .ok (.aload_n 0, 1) := by decide +kernel
theorem dX6_isSoFor_59 : decode cX6_isSoFor 59 = .ok (.getfield 23, 3) := by decide +kernel
theorem dX6_isSoFor_62 : decode cX6_isSoFor 62 = .ok (.iload_n 1, 1) := by decide +kernel
theorem dX6_isSoFor_63 : decode cX6_isSoFor 63 = .ok (.iaload, 1) := by decide +kernel
theorem dX6_isSoFor_64 : decode cX6_isSoFor 64 = .ok (.invokestatic 153, 3) := by decide +kernel
theorem dX6_isSoFor_67 : decode cX6_isSoFor 67 = .ok (.aload_n 0, 1) := by decide +kernel
theorem dX6_isSoFor_68 : decode cX6_isSoFor 68 = .ok (.getfield 23, 3) := by decide +kernel
theorem dX6_isSoFor_71 : decode cX6_isSoFor 71 = .ok (.iload_n 1, 1) := by decide +kernel
theorem dX6_isSoFor_72 : decode cX6_isSoFor 72 = .ok (.iaload, 1) := by decide +kernel
theorem dX6_isSoFor_73 : decode cX6_isSoFor 73 = .ok (.invokestatic 149, 3) := by decide +kernel
theorem dX6_isSoFor_76 : decode cX6_isSoFor 76 = .ok (.imul, 1) := by decide +kernel
theorem dX6_isSoFor_77 : decode cX6_isSoFor 77 = .ok (.isub, 1) := by decide +kernel
theorem dX6_isSoFor_78 : decode cX6_isSoFor 78 = .ok (.istore 6, 2) := by decide +kernel
theorem dX6_isSoFor_80 : decode cX6_isSoFor 80 = .ok (.iload 4, 2) := by decide +kernel
theorem dX6_isSoFor_82 : decode cX6_isSoFor 82 = .ok (.istore 7, 2) := by decide +kernel
theorem dX6_isSoFor_84 : decode cX6_isSoFor 84 = .ok (.iconst 0, 1) := by decide +kernel
theorem dX6_isSoFor_85 : decode cX6_isSoFor 85 = .ok (.istore 8, 2) := by decide +kernel
theorem dX6_isSoFor_87 : decode cX6_isSoFor 87 = .ok (.iload 8, 2) := by decide +kernel
theorem dX6_isSoFor_89 : decode cX6_isSoFor 89 = .ok (.iload 5, 2) := by decide +kernel
theorem dX6_isSoFor_91 : decode cX6_isSoFor 91 = .ok (.if_icmp .ge 81, 3) := by decide +kernel
theorem dX6_isSoFor_94 : decode cX6_isSoFor 94 = .ok (.aload_n 0, 1) := by decide +kernel
theorem dX6_isSoFor_95 : decode cX6_isSoFor 95 = .ok (.getfield 47, 3) := by decide +kernel
theorem dX6_isSoFor_98 : decode cX6_isSoFor 98 = .ok (.bipush 125, 2) := by decide +kernel
theorem dX6_isSoFor_100 : decode cX6_isSoFor 100 = .ok (.aload_n 0, 1) := by decide +kernel
theorem dX6_isSoFor_101 : decode cX6_isSoFor 101 = .ok (.getfield 17, 3) := by decide +kernel
theorem dX6_isSoFor_104 : decode cX6_isSoFor 104 = .ok (.iload_n 1, 1) := by decide +kernel
theorem dX6_isSoFor_105 : decode cX6_isSoFor 105 = .ok (.iaload, 1) := by decide +kernel
theorem dX6_isSoFor_106 : decode cX6_isSoFor 106 = .ok (.imul, 1) := by decide +kernel
theorem dX6_isSoFor_107 : decode cX6_isSoFor 107 = .ok (.iload 6, 2) := by decide +kernel
theorem dX6_isSoFor_109 : decode cX6_isSoFor 109 = .ok (.iadd, 1) := by decide +kernel
theorem dX6_isSoFor_110 : decode cX6_isSoFor 110 = .ok (.iload 8, 2) := by decide +kernel
theorem dX6_isSoFor_112 : decode cX6_isSoFor 112 = .ok (.aload_n 0, 1) := by decide +kernel
theorem dX6_isSoFor_113 : decode cX6_isSoFor 113 = .ok (.getfield 23, 3) := by decide +kernel
theorem dX6_isSoFor_116 : decode cX6_isSoFor 116 = .ok (.iload_n 1, 1) := by decide +kernel
theorem dX6_isSoFor_117 : decode cX6_isSoFor 117 = .ok (.iaload, 1) := by decide +kernel
theorem dX6_isSoFor_118 : decode cX6_isSoFor 118 = .ok (.invokestatic 149, 3) := by decide +kernel
theorem dX6_isSoFor_121 : decode cX6_isSoFor 121 = .ok (.imul, 1) := by decide +kernel
theorem dX6_isSoFor_122 : decode cX6_isSoFor 122 = .ok (.iadd, 1) := by decide +kernel
theorem dX6_isSoFor_123 : decode cX6_isSoFor 123 = .ok (.baload, 1) := by decide +kernel
theorem dX6_isSoFor_124 : decode cX6_isSoFor 124 = .ok (.istore 9, 2) := by decide +kernel
theorem dX6_isSoFor_126 : decode cX6_isSoFor 126 = .ok (.iload 4, 2) := by decide +kernel
theorem dX6_isSoFor_128 : decode cX6_isSoFor 128 = .ok (.ifCond .eq 21, 3) := by decide +kernel
theorem dX6_isSoFor_131 : decode cX6_isSoFor 131 = .ok (.iload 7, 2) := by decide +kernel
theorem dX6_isSoFor_133 : decode cX6_isSoFor 133 = .ok (.ifCond .eq 12, 3) := by decide +kernel
theorem dX6_isSoFor_136 : decode cX6_isSoFor 136 = .ok (.iload 9, 2) := by decide +kernel
theorem dX6_isSoFor_138 : decode cX6_isSoFor 138 = .ok (.ifCond .eq 7, 3) := by decide +kernel
theorem dX6_isSoFor_141 : decode cX6_isSoFor 141 = .ok (.iconst 1, 1) := by decide +kernel
theorem dX6_isSoFor_142 : decode cX6_isSoFor 142 = .ok (.goto 22, 3) := by decide +kernel
theorem dX6_isSoFor_145 : decode cX6_isSoFor 145 = .ok (.iconst 0, 1) := by decide +kernel
theorem dX6_isSoFor_146 : decode cX6_isSoFor 146 = .ok (.goto 18, 3) := by decide +kernel
theorem dX6_isSoFor_149 : decode cX6_isSoFor 149 = .ok (.iload 7, 2) := by decide +kernel
theorem dX6_isSoFor_151 : decode cX6_isSoFor 151 = .ok (.ifCond .ne 8, 3) := by decide +kernel
theorem dX6_isSoFor_154 : decode cX6_isSoFor 154 = .ok (.iload 9, 2) := by decide +kernel
theorem dX6_isSoFor_156 : decode cX6_isSoFor 156 = .ok (.ifCond .eq 7, 3) := by decide +kernel
theorem dX6_isSoFor_159 : decode cX6_isSoFor 159 = .ok (.iconst 1, 1) := by decide +kernel
theorem dX6_isSoFor_160 : decode cX6_isSoFor 160 = .ok (.goto 4, 3) := by decide +kernel
theorem dX6_isSoFor_163 : decode cX6_isSoFor 163 = .ok (.iconst 0, 1) := by decide +kernel
theorem dX6_isSoFor_164 : decode cX6_isSoFor 164 = .ok (.istore 7, 2) := by decide +kernel
theorem dX6_isSoFor_166 : decode cX6_isSoFor 166 = .ok (.iinc 8 1, 3) := by decide +kernel
theorem dX6_isSoFor_169 : decode cX6_isSoFor 169 = .ok (.goto (-82), 3) := by decide +kernel
theorem dX6_isSoFor_172 : decode cX6_isSoFor 172 = .ok (.iload 7, 2) := by decide +kernel
theorem dX6_isSoFor_174 : decode cX6_isSoFor 174 = .ok (.ireturn, 1) := by decide +kernel
set_option maxRecDepth 20000 in
theorem ggX6_fill_X6_numberAt : GoodIn wsX6_fill wsX6_numberAt := goodIn_r _ [6, 7, 8, 5, 9] rfl (by decide +kernel)
set_option maxRecDepth 20000 in
theorem gX6_fill_X6_numberAt : GoodIn wsX6_fill (va_wsS RX6 153 yX6_numberAt wsX6_numberAt) := goodIn_app (goodIn_of _ (by decide +kernel)) ggX6_fill_X6_numberAt
set_option maxRecDepth 20000 in
theorem ggX6_fill_X6_isPartSo : GoodIn wsX6_fill wsX6_isPartSo := goodIn_r _ [13, 14, 2, 15, 16, 17, 18, 3, 4, 5, 6, 7, 8, 9, 19, 20, 21, 22, 23, 24, 25, 26, 27, 28, 29, 30, 31, 32, 33, 34, 35, 36, 37, 38, 39, 40, 41, 42, 43, 44, 45, 46, 47, 48, 49, 50, 51, 52, 53, 54] rfl (by decide +kernel)
set_option maxRecDepth 20000 in
theorem gX6_fill_X6_isPartSo : GoodIn wsX6_fill (wsV RX6 159 RX6 yX6_isPartSo wsX6_isPartSo) := goodIn_app (goodIn_of _ (by decide +kernel)) ggX6_fill_X6_isPartSo
theorem dX6_fill_0 : decode cX6_fill 0 = .ok (.iconst 0, 1) := by decide +kernel
theorem dX6_fill_1 : decode cX6_fill 1 = .ok (.istore_n 2, 1) := by decide +kernel
theorem dX6_fill_2 : decode cX6_fill 2 = .ok (.iload_n 2, 1) := by decide +kernel
theorem dX6_fill_3 : decode cX6_fill 3 = .ok (.aload_n 0, 1) := by decide +kernel
theorem dX6_fill_4 : decode cX6_fill 4 = .ok (.getfield 103, 3) := by decide +kernel
theorem dX6_fill_7 : decode cX6_fill 7 = .ok (.if_icmp .ge 88, 3) := by decide +kernel
theorem dX6_fill_10 : decode cX6_fill 10 = .ok (.iconst 0, 1) := by decide +kernel
theorem dX6_fill_11 : decode cX6_fill 11 = .ok (.istore_n 3, 1) := by decide +kernel
theorem dX6_fill_12 : decode cX6_fill 12 = .ok (.iload_n 3, 1) := by decide +kernel
theorem dX6_fill_13 : decode cX6_fill 13 = .ok (.bipush 125, 2) := by decide +kernel
theorem dX6_fill_15 : decode cX6_fill 15 = .ok (.if_icmp .ge 74, 3) := by decide +kernel
theorem dX6_fill_18 : decode cX6_fill 18 = .ok (.iload_n 3, 1) := by decide +kernel
theorem dX6_fill_19 : decode cX6_fill 19 = .ok (.iconst 0, 1) := by decide +kernel
theorem dX6_fill_20 : decode cX6_fill 20 = .ok (.invokestatic 153, 3) := by decide +kernel
theorem dX6_fill_23 : decode cX6_fill 23 = .ok (.iload_n 1, 1) := by decide +kernel
theorem dX6_fill_24 : decode cX6_fill 24 = .ok (.if_icmp .ge 25, 3) := by decide +kernel
theorem dX6_fill_27 : decode cX6_fill 27 = .ok (.iload_n 3, 1) := by decide +kernel
theorem dX6_fill_28 : decode cX6_fill 28 = .ok (.iconst 1, 1) := by decide +kernel
theorem dX6_fill_29 : decode cX6_fill 29 = .ok (.invokestatic 153, 3) := by decide +kernel
theorem dX6_fill_32 : decode cX6_fill 32 = .ok (.iload_n 1, 1) := by decide +kernel
theorem dX6_fill_33 : decode cX6_fill 33 = .ok (.if_icmp .ge 16, 3) := by decide +kernel
theorem dX6_fill_36 : decode cX6_fill 36 = .ok (.iload_n 3, 1) := by decide +kernel
theorem dX6_fill_37 : decode cX6_fill 37 = .ok (.iconst 2, 1) := by decide +kernel
theorem dX6_fill_38 : decode cX6_fill 38 = .ok (.invokestatic 153, 3) := by decide +kernel
theorem dX6_fill_41 : decode cX6_fill 41 = .ok (.iload_n 1, 1) := by decide +kernel
theorem dX6_fill_42 : decode cX6_fill 42 = .ok (.if_icmp .ge 7, 3) := by decide +kernel
theorem dX6_fill_45 : decode cX6_fill 45 = .ok (.iconst 1, 1) := by decide +kernel
theorem dX6_fill_46 : decode cX6_fill 46 = .ok (.goto 4, 3) := by decide +kernel
theorem dX6_fill_49 : decode cX6_fill 49 = .ok (.iconst 0, 1) := by decide +kernel
theorem dX6_fill_50 : decode cX6_fill 50 = .ok (.istore 4, 2) := by decide +kernel
theorem dX6_fill_52 : decode cX6_fill 52 = .ok (.aload_n 0, 1) := by decide +kernel
theorem dX6_fill_53 : decode cX6_fill 53 = .ok (.getfield 47, 3) := by decide +kernel
theorem dX6_fill_56 : decode cX6_fill 56 = .ok (.bipush 125, 2) := by decide +kernel
theorem dX6_fill_58 : decode cX6_fill 58 = .ok (.iload_n 2, 1) := by decide +kernel
theorem dX6_fill_59 : decode cX6_fill 59 = .ok (.imul, 1) := by decide +kernel
theorem dX6_fill_60 : decode cX6_fill 60 = .ok (.iload_n 3, 1) := by decide +kernel
theorem dX6_fill_61 : decode cX6_fill 61 = .ok (.iadd, 1) := by decide +kernel
theorem dX6_fill_62 : decode cX6_fill 62 = .ok (.iload 4, 2) := by decide +kernel
theorem dX6_fill_64 : decode cX6_fill 64 = .ok (.ifCond .eq 17, 3) := by decide +kernel
theorem dX6_fill_67 : decode cX6_fill 67 = .ok (.aload_n 0, 1) := by decide +kernel
theorem dX6_fill_68 : decode cX6_fill 68 = .ok (.iload_n 2, 1) := by decide +kernel
theorem dX6_fill_69 : decode cX6_fill 69 = .ok (.iload_n 3, 1) := by decide +kernel
theorem dX6_fill_70 : decode cX6_fill 70 = .ok (.iload_n 1, 1) := by decide +kernel
theorem dX6_fill_71 : decode cX6_fill 71 = .ok (.invokevirtual 159, 3) := by decide +kernel
theorem dX6_fill_74 : decode cX6_fill 74 = .ok (.ifCond .eq 7, 3) := by decide +kernel
theorem dX6_fill_77 : decode cX6_fill 77 = .ok (.iconst 1, 1) := by decide +kernel
theorem dX6_fill_78 : decode cX6_fill 78 = .ok (.goto 4, 3) := by decide +kernel
theorem dX6_fill_81 : decode cX6_fill 81 = .ok (.iconst 0, 1) := by decide +kernel
theorem dX6_fill_82 : decode cX6_fill 82 = .ok (.bastore, 1) := by decide +kernel
theorem dX6_fill_83 : decode cX6_fill 83 = .ok (.iinc 3 1, 3) := by decide +kernel
theorem dX6_fill_86 : decode cX6_fill 86 = .ok (.goto (-74), 3) := by decide +kernel
theorem dX6_fill_89 : decode cX6_fill 89 = .ok (.iinc 2 1, 3) := by decide +kernel
theorem dX6_fill_92 : decode cX6_fill 92 = .ok (.goto (-90), 3) := by decide +kernel
theorem dX6_fill_95 : decode cX6_fill 95 = .ok (.return_, 1) := by decide +kernel
set_option maxRecDepth 20000 in
theorem ggX6_quantifiers_X6_kindOf : GoodIn wsX6_quantifiers wsX6_kindOf := goodIn_r _ [6] rfl (by decide +kernel)
set_option maxRecDepth 20000 in
theorem gX6_quantifiers_X6_kindOf : GoodIn wsX6_quantifiers (va_wsS RX6 93 yX6_kindOf wsX6_kindOf) := goodIn_app (goodIn_of _ (by decide +kernel)) ggX6_quantifiers_X6_kindOf
set_option maxRecDepth 20000 in
theorem ggX6_quantifiers_X6_in : GoodIn wsX6_quantifiers wsX6_in := goodIn_r _ [9] rfl (by decide +kernel)
set_option maxRecDepth 20000 in
theorem gX6_quantifiers_X6_in : GoodIn wsX6_quantifiers (va_wsS RX6 85 yX6_in wsX6_in) := goodIn_app (goodIn_of _ (by decide +kernel)) ggX6_quantifiers_X6_in
theorem dX6_quantifiers_0 : decode cX6_quantifiers 0 = .ok (.iconst 0, 1) := by decide +kernel
theorem dX6_quantifiers_1 : decode cX6_quantifiers 1 = .ok (.istore_n 1, 1) := by decide +kernel
theorem dX6_quantifiers_2 : decode cX6_quantifiers 2 = .ok (.iconst 0, 1) := by decide +kernel
theorem dX6_quantifiers_3 : decode cX6_quantifiers 3 = .ok (.istore_n 2, 1) := by decide +kernel
theorem dX6_quantifiers_4 : decode cX6_quantifiers 4 = .ok (.iload_n 2, 1) := by decide +kernel
theorem dX6_quantifiers_5 : decode cX6_quantifiers 5 = .ok (.aload_n 0, 1) := by decide +kernel
theorem dX6_quantifiers_6 : decode cX6_quantifiers 6 = .ok (.getfield 96, 3) := by decide +kernel
theorem dX6_quantifiers_9 : decode cX6_quantifiers 9 = .ok (.if_icmp .ge 36, 3) := by decide +kernel
theorem dX6_quantifiers_12 : decode cX6_quantifiers 12 = .ok (.iload_n 1, 1) := by decide +kernel
theorem dX6_quantifiers_13 : decode cX6_quantifiers 13 = .ok (.aload_n 0, 1) := by decide +kernel
theorem dX6_quantifiers_14 : decode cX6_quantifiers 14 = .ok (.getfield 7, 3) := by decide +kernel
theorem dX6_quantifiers_17 : decode cX6_quantifiers 17 = .ok (.iload_n 2, 1) := by decide +kernel
theorem dX6_quantifiers_18 : decode cX6_quantifiers 18 = .ok (.caload, 1) := by decide +kernel
theorem dX6_quantifiers_19 : decode cX6_quantifiers 19 = .ok (.invokestatic 93, 3) := by decide +kernel
theorem dX6_quantifiers_22 : decode cX6_quantifiers 22 = .ok (.bipush 6, 2) := by decide +kernel
theorem dX6_quantifiers_24 : decode cX6_quantifiers 24 = .ok (.bipush 9, 2) := by decide +kernel
theorem dX6_quantifiers_26 : decode cX6_quantifiers 26 = .ok (.invokestatic 85, 3) := by decide +kernel
theorem dX6_quantifiers_29 : decode cX6_quantifiers 29 = .ok (.ifCond .eq 7, 3) := by decide +kernel
theorem dX6_quantifiers_32 : decode cX6_quantifiers 32 = .ok (.iconst 1, 1) := by decide +kernel
theorem dX6_quantifiers_33 : decode cX6_quantifiers 33 = .ok (.goto 4, 3) := by decide +kernel
theorem dX6_quantifiers_36 : decode cX6_quantifiers 36 = .ok (.iconst 0, 1) := by decide +kernel
theorem dX6_quantifiers_37 : decode cX6_quantifiers 37 = .ok (.iadd, 1) := by decide +kernel
theorem dX6_quantifiers_38 : decode cX6_quantifiers 38 = .ok (.istore_n 1, 1) := by decide +kernel
theorem dX6_quantifiers_39 : decode cX6_quantifiers 39 = .ok (.iinc 2 1, 3) := by decide +kernel
theorem dX6_quantifiers_42 : decode cX6_quantifiers 42 = .ok (.goto (-38), 3) := by decide +kernel
theorem dX6_quantifiers_45 : decode cX6_quantifiers 45 = .ok (.iload_n 1, 1) := by decide +kernel
theorem dX6_quantifiers_46 : decode cX6_quantifiers 46 = .ok (.ireturn, 1) := by decide +kernel
set_option maxRecDepth 20000 in
theorem ggX6_isSo_X6_in : GoodIn wsX6_isSo wsX6_in := goodIn_r _ [6] rfl (by decide +kernel)
set_option maxRecDepth 20000 in
theorem gX6_isSo_X6_in : GoodIn wsX6_isSo (va_wsS RX6 85 yX6_in wsX6_in) := goodIn_app (goodIn_of _ (by decide +kernel)) ggX6_isSo_X6_in
set_option maxRecDepth 20000 in
theorem ggX6_isSo_X6_isFormula : GoodIn wsX6_isSo wsX6_isFormula := goodIn_r _ [10, 11, 12, 13, 14, 15, 5, 16, 2, 17, 18, 19, 20, 21, 22, 23, 24, 25, 26, 27, 28, 29, 30, 31, 32, 33, 34, 35, 3, 4, 6, 36, 37, 38, 39, 40, 41, 42, 43, 44, 45, 46, 47, 48, 49, 50, 51, 52, 53, 54, 55, 56, 57, 58, 59, 60, 61, 62, 63, 64, 65, 66, 94, 95, 96, 97, 98, 99, 100, 101, 102, 103, 104, 105, 106, 107, 108, 109, 110, 111, 112, 113, 114, 115, 116, 117, 118, 119, 120, 121, 122, 123, 124, 125] rfl (by decide +kernel)
set_option maxRecDepth 20000 in
theorem gX6_isSo_X6_isFormula : GoodIn wsX6_isSo (wsV RX6 145 RX6 yX6_isFormula wsX6_isFormula) := goodIn_app (goodIn_of _ (by decide +kernel)) ggX6_isSo_X6_isFormula
set_option maxRecDepth 20000 in
theorem ggX6_isSo_X6_quantifiers : GoodIn wsX6_isSo wsX6_quantifiers := goodIn_r _ [70, 11, 18, 26, 27, 5, 28, 3, 4, 6, 94, 95, 96, 97, 98, 99, 100, 101, 102, 103, 104, 105, 106, 107, 108, 109, 110, 111, 112, 113, 114, 115, 116, 117, 118, 119, 120, 121, 122, 123, 124, 125] rfl (by decide +kernel)
set_option maxRecDepth 20000 in
theorem gX6_isSo_X6_quantifiers : GoodIn wsX6_isSo (wsV RX6 162 RX6 yX6_quantifiers wsX6_quantifiers) := goodIn_app (goodIn_of _ (by decide +kernel)) ggX6_isSo_X6_quantifiers
set_option maxRecDepth 20000 in
theorem ggX6_isSo_X6_goesWell : GoodIn wsX6_isSo wsX6_goesWell := goodIn_r _ [74, 75, 94, 95, 96, 97, 98, 99, 100, 101, 102, 103, 104, 105, 106, 107, 108, 109, 110, 111, 112, 113, 114, 115, 116, 117, 118, 119, 120, 121, 122, 123, 124, 125] rfl (by decide +kernel)
set_option maxRecDepth 20000 in
theorem gX6_isSo_X6_goesWell : GoodIn wsX6_isSo (wsV RX6 99 RX6 yX6_goesWell wsX6_goesWell) := goodIn_app (goodIn_of _ (by decide +kernel)) ggX6_isSo_X6_goesWell
set_option maxRecDepth 20000 in
theorem ggX6_isSo_X6_fill : GoodIn wsX6_isSo wsX6_fill := goodIn_r _ [79, 2, 1, 80, 81, 5, 82, 83, 84, 85, 86, 87, 88, 89, 45, 46, 44, 47, 48, 90, 91, 92, 93, 94, 95, 96, 97, 98, 99, 100, 101, 102, 103, 104, 105, 106, 107, 108, 109, 110, 111, 112, 113, 114, 115, 116, 117, 118, 119, 120, 121, 122, 123, 124, 125] rfl (by decide +kernel)
set_option maxRecDepth 20000 in
theorem gX6_isSo_X6_fill : GoodIn wsX6_isSo (wsV RX6 165 RX6 yX6_fill wsX6_fill) := goodIn_app (goodIn_of _ (by decide +kernel)) ggX6_isSo_X6_fill
theorem dX6_isSo_0 : decode cX6_isSo 0 = .ok (.iload_n 1, 1) := by decide +kernel
theorem dX6_isSo_1 : decode cX6_isSo 1 = .ok (.iconst 1, 1) := by decide +kernel
theorem dX6_isSo_2 : decode cX6_isSo 2 = .ok (.iconst 5, 1) := by decide +kernel
theorem dX6_isSo_3 : decode cX6_isSo 3 = .ok (.invokestatic 85, 3) := by decide +kernel
theorem dX6_isSo_6 : decode cX6_isSo 6 = .ok (.ifCond .eq 41, 3) := by decide +kernel
theorem dX6_isSo_9 : decode cX6_isSo 9 = .ok (.iload_n 2, 1) := by decide +kernel
theorem dX6_isSo_10 : decode cX6_isSo 10 = .ok (.iconst 0, 1) := by decide +kernel
theorem dX6_isSo_11 : decode cX6_isSo 11 = .ok (.iload_n 1, 1) := by decide +kernel
theorem dX6_isSo_12 : decode cX6_isSo 12 = .ok (.iconst 1, 1) := by decide +kernel
theorem dX6_isSo_13 : decode cX6_isSo 13 = .ok (.isub, 1) := by decide +kernel
theorem dX6_isSo_14 : decode cX6_isSo 14 = .ok (.invokestatic 85, 3) := by decide +kernel
theorem dX6_isSo_17 : decode cX6_isSo 17 = .ok (.ifCond .eq 30, 3) := by decide +kernel
theorem dX6_isSo_20 : decode cX6_isSo 20 = .ok (.iload_n 3, 1) := by decide +kernel
theorem dX6_isSo_21 : decode cX6_isSo 21 = .ok (.iconst 0, 1) := by decide +kernel
theorem dX6_isSo_22 : decode cX6_isSo 22 = .ok (.iload_n 1, 1) := by decide +kernel
theorem dX6_isSo_23 : decode cX6_isSo 23 = .ok (.iconst 1, 1) := by decide +kernel
theorem dX6_isSo_24 : decode cX6_isSo 24 = .ok (.isub, 1) := by decide +kernel
theorem dX6_isSo_25 : decode cX6_isSo 25 = .ok (.invokestatic 85, 3) := by decide +kernel
theorem dX6_isSo_28 : decode cX6_isSo 28 = .ok (.ifCond .eq 19, 3) := by decide +kernel
theorem dX6_isSo_31 : decode cX6_isSo 31 = .ok (.iload 4, 2) := by decide +kernel
theorem dX6_isSo_33 : decode cX6_isSo 33 = .ok (.iconst 0, 1) := by decide +kernel
theorem dX6_isSo_34 : decode cX6_isSo 34 = .ok (.iload_n 1, 1) := by decide +kernel
theorem dX6_isSo_35 : decode cX6_isSo 35 = .ok (.iconst 1, 1) := by decide +kernel
theorem dX6_isSo_36 : decode cX6_isSo 36 = .ok (.isub, 1) := by decide +kernel
