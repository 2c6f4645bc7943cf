set_option maxRecDepth 20000 in
theorem ggL_areStates_L_standing : GoodIn wsL_areStates wsL_standing := goodIn_ca (goodIn_r _ [4, 5, 6, 7, 8, 9, 10, 11, 12, 13, 14, 15, 16, 17, 18, 19, 20, 21, 22, 23, 24, 25, 26, 27, 28, 29, 30, 31, 32, 33, 34, 35, 36, 115, 116, 117, 118, 119, 120, 121, 122, 123] (by decide +kernel) (by decide +kernel)) (goodIn_sub (fun _ h => List.mem_cons_of_mem _ (List.mem_append_right _ h)) (by decide +kernel))
set_option maxRecDepth 20000 in
theorem gL_areStates_L_standing : GoodIn wsL_areStates (va_wsS RL 91 yL_standing wsL_standing) := goodIn_app (goodIn_of _ (by decide +kernel)) ggL_areStates_L_standing
set_option maxRecDepth 20000 in
theorem ggL_areStates_L_having : GoodIn wsL_areStates wsL_having := goodIn_ca (goodIn_r _ [39, 40, 41, 42, 8, 43, 44, 45, 46, 47, 48, 49, 50, 51, 52, 53, 54, 55, 10, 56, 57, 58, 59, 25, 26, 27, 28, 29, 14, 30, 16, 31, 32, 33, 34, 35, 60, 61, 62, 63, 64, 65, 66, 67, 68, 69, 70, 71, 72, 73, 74, 75, 76, 77, 78, 79, 80, 81, 82, 83, 84, 85, 86, 87, 88, 89, 90, 91, 92, 93, 94, 95, 96, 97, 98, 99, 100, 101, 102, 103, 104, 105, 106, 115, 116, 117, 118, 119, 124, 125, 126, 127, 128, 129, 130, 120, 121, 122, 123, 131, 132, 133, 134, 135, 136] (by decide +kernel) (by decide +kernel)) (goodIn_sub (fun _ h => List.mem_cons_of_mem _ (List.mem_append_right _ h)) (by decide +kernel))
set_option maxRecDepth 20000 in
theorem gL_areStates_L_having : GoodIn wsL_areStates (va_wsS RL 97 yL_having wsL_having) := goodIn_app (goodIn_of _ (by decide +kernel)) ggL_areStates_L_having
set_option maxRecDepth 20000 in
theorem ggL_areStates_X3_claims : GoodIn wsL_areStates wsX3_claims := goodIn_r _ [43, 44, 45, 46, 47, 48, 49, 50, 115, 116, 117, 118, 119, 124, 125, 126, 127, 128, 129, 130] (by decide +kernel) (by decide +kernel)
set_option maxRecDepth 20000 in
theorem gL_areStates_X3_claims : GoodIn wsL_areStates (wsV RL 72 RX3 yX3_claims wsX3_claims) := goodIn_app (goodIn_of _ (by decide +kernel)) ggL_areStates_X3_claims
set_option maxRecDepth 20000 in
theorem ggL_areStates_X3_stateOf : GoodIn wsL_areStates wsX3_stateOf := goodIn_ca (goodIn_r _ [54, 55, 10, 56, 57, 58, 8, 59, 25, 26, 44, 45, 46, 47, 48, 49, 50, 27, 28, 29, 14, 30, 16, 31, 32, 33, 34, 35, 60, 61, 62, 63, 64, 65, 66, 67, 68, 69, 70, 71, 72, 73, 74, 75, 76, 77, 78, 79, 80, 81, 82, 83, 84, 85, 86, 87, 88, 89, 90, 91, 92, 93, 94, 95, 96, 97, 98, 99, 100, 101, 102, 103, 104, 105, 106, 115, 116, 117, 118, 119, 124, 125, 126, 127, 128, 129, 130, 120, 121, 122, 123, 131, 132, 133, 134, 135, 136] (by decide +kernel) (by decide +kernel)) (goodIn_sub (fun _ h => List.mem_cons_of_mem _ (List.mem_append_right _ h)) (by decide +kernel))
set_option maxRecDepth 20000 in
theorem gL_areStates_X3_stateOf : GoodIn wsL_areStates (wsV RL 48 RX3 yX3_stateOf wsX3_stateOf) := goodIn_app (goodIn_of _ (by decide +kernel)) ggL_areStates_X3_stateOf
set_option maxRecDepth 20000 in
theorem ggL_areStates_X3_stateByRounds : GoodIn wsL_areStates wsX3_stateByRounds := goodIn_ca (goodIn_r _ [110, 55, 10, 56, 57, 58, 8, 59, 25, 26, 44, 45, 46, 47, 48, 49, 50, 27, 28, 29, 14, 30, 16, 31, 32, 33, 34, 35, 111, 112, 113, 63, 114, 65, 68, 69, 70, 71, 66, 72, 73, 74, 75, 80, 81, 82, 83, 84, 85, 86, 87, 88, 89, 90, 91, 92, 93, 94, 103, 104, 105, 106, 115, 116, 117, 118, 119, 124, 125, 126, 127, 128, 129, 130, 120, 121, 122, 123, 131, 132, 133, 134, 135, 136] (by decide +kernel) (by decide +kernel)) (goodIn_sub (fun _ h => List.mem_cons_of_mem _ (List.mem_append_right _ h)) (by decide +kernel))
set_option maxRecDepth 20000 in
theorem gL_areStates_X3_stateByRounds : GoodIn wsL_areStates (wsV RL 51 RX3 yX3_stateByRounds wsX3_stateByRounds) := goodIn_app (goodIn_of _ (by decide +kernel)) ggL_areStates_X3_stateByRounds
theorem dL_areStates_0 : decode cL_areStates 0 = .ok (.aload_n 0, 1) := by decide +kernel
theorem dL_areStates_1 : decode cL_areStates 1 = .ok (.invokestatic 91, 3) := by decide +kernel
theorem dL_areStates_4 : decode cL_areStates 4 = .ok (.istore_n 2, 1) := by decide +kernel
theorem dL_areStates_5 : decode cL_areStates 5 = .ok (.aload_n 0, 1) := by decide +kernel
theorem dL_areStates_6 : decode cL_areStates 6 = .ok (.iconst 1, 1) := by decide +kernel
theorem dL_areStates_7 : decode cL_areStates 7 = .ok (.invokestatic 97, 3) := by decide +kernel
theorem dL_areStates_10 : decode cL_areStates 10 = .ok (.istore_n 3, 1) := by decide +kernel
theorem dL_areStates_11 : decode cL_areStates 11 = .ok (.aload_n 0, 1) := by decide +kernel
theorem dL_areStates_12 : decode cL_areStates 12 = .ok (.iconst 2, 1) := by decide +kernel
theorem dL_areStates_13 : decode cL_areStates 13 = .ok (.invokestatic 97, 3) := by decide +kernel
theorem dL_areStates_16 : decode cL_areStates 16 = .ok (.istore 4, 2) := by decide +kernel
theorem dL_areStates_18 : decode cL_areStates 18 = .ok (.iconst 1, 1) := by decide +kernel
theorem dL_areStates_19 : decode cL_areStates 19 = .ok (.istore 5, 2) := by decide +kernel
theorem dL_areStates_21 : decode cL_areStates 21 = .ok (.iconst 0, 1) := by decide +kernel
theorem dL_areStates_22 : decode cL_areStates 22 = .ok (.istore 6, 2) := by decide +kernel
theorem dL_areStates_24 : decode cL_areStates 24 = .ok (.iload 6, 2) := by decide +kernel
theorem dL_areStates_26 : decode cL_areStates 26 = .ok (.aload_n 0, 1) := by decide +kernel
theorem dL_areStates_27 : decode cL_areStates 27 = .ok (.invokevirtual 72, 3) := by decide +kernel
theorem dL_areStates_30 : decode cL_areStates 30 = .ok (.if_icmp .ge 160, 3) := by decide +kernel
theorem dL_areStates_33 : decode cL_areStates 33 = .ok (.iload 5, 2) := by decide +kernel
theorem dL_areStates_35 : decode cL_areStates 35 = .ok (.ifCond .eq 155, 3) := by decide +kernel
theorem dL_areStates_38 : decode cL_areStates 38 = .ok (.aload_n 1, 1) := by decide +kernel
theorem dL_areStates_39 : decode cL_areStates 39 = .ok (.iload 6, 2) := by decide +kernel
theorem dL_areStates_41 : decode cL_areStates 41 = .ok (.iaload, 1) := by decide +kernel
theorem dL_areStates_42 : decode cL_areStates 42 = .ok (.iload_n 2, 1) := by decide +kernel
theorem dL_areStates_43 : decode cL_areStates 43 = .ok (.iconst (-1), 1) := by decide +kernel
theorem dL_areStates_44 : decode cL_areStates 44 = .ok (.ixor, 1) := by decide +kernel
theorem dL_areStates_45 : decode cL_areStates 45 = .ok (.iand, 1) := by decide +kernel
theorem dL_areStates_46 : decode cL_areStates 46 = .ok (.ifCond .ne 7, 3) := by decide +kernel
theorem dL_areStates_49 : decode cL_areStates 49 = .ok (.iconst 1, 1) := by decide +kernel
theorem dL_areStates_50 : decode cL_areStates 50 = .ok (.goto 4, 3) := by decide +kernel
theorem dL_areStates_53 : decode cL_areStates 53 = .ok (.iconst 0, 1) := by decide +kernel
theorem dL_areStates_54 : decode cL_areStates 54 = .ok (.istore 7, 2) := by decide +kernel
theorem dL_areStates_56 : decode cL_areStates 56 = .ok (.iload 7, 2) := by decide +kernel
theorem dL_areStates_58 : decode cL_areStates 58 = .ok (.ifCond .eq 36, 3) := by decide +kernel
theorem dL_areStates_61 : decode cL_areStates 61 = .ok (.aload_n 1, 1) := by decide +kernel
theorem dL_areStates_62 : decode cL_areStates 62 = .ok (.bipush 16, 2) := by decide +kernel
theorem dL_areStates_64 : decode cL_areStates 64 = .ok (.iload 6, 2) := by decide +kernel
theorem dL_areStates_66 : decode cL_areStates 66 = .ok (.iadd, 1) := by decide +kernel
theorem dL_areStates_67 : decode cL_areStates 67 = .ok (.iaload, 1) := by decide +kernel
theorem dL_areStates_68 : decode cL_areStates 68 = .ok (.iload_n 3, 1) := by decide +kernel
theorem dL_areStates_69 : decode cL_areStates 69 = .ok (.iconst (-1), 1) := by decide +kernel
theorem dL_areStates_70 : decode cL_areStates 70 = .ok (.ixor, 1) := by decide +kernel
theorem dL_areStates_71 : decode cL_areStates 71 = .ok (.iand, 1) := by decide +kernel
theorem dL_areStates_72 : decode cL_areStates 72 = .ok (.ifCond .ne 22, 3) := by decide +kernel
theorem dL_areStates_75 : decode cL_areStates 75 = .ok (.aload_n 1, 1) := by decide +kernel
theorem dL_areStates_76 : decode cL_areStates 76 = .ok (.bipush 32, 2) := by decide +kernel
theorem dL_areStates_78 : decode cL_areStates 78 = .ok (.iload 6, 2) := by decide +kernel
theorem dL_areStates_80 : decode cL_areStates 80 = .ok (.iadd, 1) := by decide +kernel
theorem dL_areStates_81 : decode cL_areStates 81 = .ok (.iaload, 1) := by decide +kernel
theorem dL_areStates_82 : decode cL_areStates 82 = .ok (.iload 4, 2) := by decide +kernel
theorem dL_areStates_84 : decode cL_areStates 84 = .ok (.iconst (-1), 1) := by decide +kernel
theorem dL_areStates_85 : decode cL_areStates 85 = .ok (.ixor, 1) := by decide +kernel
theorem dL_areStates_86 : decode cL_areStates 86 = .ok (.iand, 1) := by decide +kernel
theorem dL_areStates_87 : decode cL_areStates 87 = .ok (.ifCond .ne 7, 3) := by decide +kernel
theorem dL_areStates_90 : decode cL_areStates 90 = .ok (.iconst 1, 1) := by decide +kernel
theorem dL_areStates_91 : decode cL_areStates 91 = .ok (.goto 4, 3) := by decide +kernel
theorem dL_areStates_94 : decode cL_areStates 94 = .ok (.iconst 0, 1) := by decide +kernel
theorem dL_areStates_95 : decode cL_areStates 95 = .ok (.istore 8, 2) := by decide +kernel
theorem dL_areStates_97 : decode cL_areStates 97 = .ok (.iload 7, 2) := by decide +kernel
theorem dL_areStates_99 : decode cL_areStates 99 = .ok (.ifCond .eq 28, 3) := by decide +kernel
theorem dL_areStates_102 : decode cL_areStates 102 = .ok (.aload_n 1, 1) := by decide +kernel
theorem dL_areStates_103 : decode cL_areStates 103 = .ok (.bipush 16, 2) := by decide +kernel
theorem dL_areStates_105 : decode cL_areStates 105 = .ok (.iload 6, 2) := by decide +kernel
theorem dL_areStates_107 : decode cL_areStates 107 = .ok (.iadd, 1) := by decide +kernel
theorem dL_areStates_108 : decode cL_areStates 108 = .ok (.iaload, 1) := by decide +kernel
theorem dL_areStates_109 : decode cL_areStates 109 = .ok (.iload 4, 2) := by decide +kernel
theorem dL_areStates_111 : decode cL_areStates 111 = .ok (.iand, 1) := by decide +kernel
theorem dL_areStates_112 : decode cL_areStates 112 = .ok (.ifCond .ne 15, 3) := by decide +kernel
theorem dL_areStates_115 : decode cL_areStates 115 = .ok (.aload_n 1, 1) := by decide +kernel
theorem dL_areStates_116 : decode cL_areStates 116 = .ok (.bipush 32, 2) := by decide +kernel
theorem dL_areStates_118 : decode cL_areStates 118 = .ok (.iload 6, 2) := by decide +kernel
theorem dL_areStates_120 : decode cL_areStates 120 = .ok (.iadd, 1) := by decide +kernel
theorem dL_areStates_121 : decode cL_areStates 121 = .ok (.iaload, 1) := by decide +kernel
theorem dL_areStates_122 : decode cL_areStates 122 = .ok (.iload_n 3, 1) := by decide +kernel
theorem dL_areStates_123 : decode cL_areStates 123 = .ok (.iand, 1) := by decide +kernel
theorem dL_areStates_124 : decode cL_areStates 124 = .ok (.ifCond .eq 7, 3) := by decide +kernel
theorem dL_areStates_127 : decode cL_areStates 127 = .ok (.iconst 1, 1) := by decide +kernel
theorem dL_areStates_128 : decode cL_areStates 128 = .ok (.goto 4, 3) := by decide +kernel
theorem dL_areStates_131 : decode cL_areStates 131 = .ok (.iconst 0, 1) := by decide +kernel
theorem dL_areStates_132 : decode cL_areStates 132 = .ok (.istore 9, 2) := by decide +kernel
theorem dL_areStates_134 : decode cL_areStates 134 = .ok (.aload_n 0, 1) := by decide +kernel
theorem dL_areStates_135 : decode cL_areStates 135 = .ok (.iload 6, 2) := by decide +kernel
theorem dL_areStates_137 : decode cL_areStates 137 = .ok (.invokevirtual 48, 3) := by decide +kernel
theorem dL_areStates_140 : decode cL_areStates 140 = .ok (.iload 8, 2) := by decide +kernel
theorem dL_areStates_142 : decode cL_areStates 142 = .ok (.ifCond .eq 7, 3) := by decide +kernel
theorem dL_areStates_145 : decode cL_areStates 145 = .ok (.iconst 1, 1) := by decide +kernel
theorem dL_areStates_146 : decode cL_areStates 146 = .ok (.goto 13, 3) := by decide +kernel
theorem dL_areStates_149 : decode cL_areStates 149 = .ok (.iload 9, 2) := by decide +kernel
theorem dL_areStates_151 : decode cL_areStates 151 = .ok (.ifCond .eq 7, 3) := by decide +kernel
theorem dL_areStates_154 : decode cL_areStates 154 = .ok (.iconst 2, 1) := by decide +kernel
theorem dL_areStates_155 : decode cL_areStates 155 = .ok (.goto 4, 3) := by decide +kernel
theorem dL_areStates_158 : decode cL_areStates 158 = .ok (.iconst 0, 1) := by decide +kernel
theorem dL_areStates_159 : decode cL_areStates 159 = .ok (.if_icmp .ne 22, 3) := by decide +kernel
theorem dL_areStates_162 : decode cL_areStates 162 = .ok (.aload_n 0, 1) := by decide +kernel
theorem dL_areStates_163 : decode cL_areStates 163 = .ok (.iload 6, 2) := by decide +kernel
theorem dL_areStates_165 : decode cL_areStates 165 = .ok (.invokevirtual 51, 3) := by decide +kernel
theorem dL_areStates_168 : decode cL_areStates 168 = .ok (.aload_n 0, 1) := by decide +kernel
theorem dL_areStates_169 : decode cL_areStates 169 = .ok (.iload 6, 2) := by decide +kernel
theorem dL_areStates_171 : decode cL_areStates 171 = .ok (.invokevirtual 48, 3) := by decide +kernel
theorem dL_areStates_174 : decode cL_areStates 174 = .ok (.if_icmp .ne 7, 3) := by decide +kernel
theorem dL_areStates_177 : decode cL_areStates 177 = .ok (.iconst 1, 1) := by decide +kernel
theorem dL_areStates_178 : decode cL_areStates 178 = .ok (.goto 4, 3) := by decide +kernel
theorem dL_areStates_181 : decode cL_areStates 181 = .ok (.iconst 0, 1) := by decide +kernel
theorem dL_areStates_182 : decode cL_areStates 182 = .ok (.istore 5, 2) := by decide +kernel
theorem dL_areStates_184 : decode cL_areStates 184 = .ok (.iinc 6 1, 3) := by decide +kernel
theorem dL_areStates_187 : decode cL_areStates 187 = .ok (.goto (-163), 3) := by decide +kernel
theorem dL_areStates_190 : decode cL_areStates 190 = .ok (.iconst 0, 1) := by decide +kernel
theorem dL_areStates_191 : decode cL_areStates 191 = .ok (.istore 6, 2) := by decide +kernel
theorem dL_areStates_193 : decode cL_areStates 193 = .ok (.iconst 0, 1) := by decide +kernel
theorem dL_areStates_194 : decode cL_areStates 194 = .ok (.istore 7, 2) := by decide +kernel
theorem dL_areStates_196 : decode cL_areStates 196 = .ok (.iconst 0, 1) := by decide +kernel
theorem dL_areStates_197 : decode cL_areStates 197 = .ok (.istore 8, 2) := by decide +kernel
theorem dL_areStates_199 : decode cL_areStates 199 = .ok (.iload 8, 2) := by decide +kernel
theorem dL_areStates_201 : decode cL_areStates 201 = .ok (.aload_n 0, 1) := by decide +kernel
theorem dL_areStates_202 : decode cL_areStates 202 = .ok (.invokevirtual 72, 3) := by decide +kernel
theorem dL_areStates_205 : decode cL_areStates 205 = .ok (.if_icmp .ge 137, 3) := by decide +kernel
theorem dL_areStates_208 : decode cL_areStates 208 = .ok (.iconst 0, 1) := by decide +kernel
theorem dL_areStates_209 : decode cL_areStates 209 = .ok (.istore 9, 2) := by decide +kernel
theorem dL_areStates_211 : decode cL_areStates 211 = .ok (.iload 9, 2) := by decide +kernel
theorem dL_areStates_213 : decode cL_areStates 213 = .ok (.aload_n 0, 1) := by decide +kernel
theorem dL_areStates_214 : decode cL_areStates 214 = .ok (.invokevirtual 72, 3) := by decide +kernel
theorem dL_areStates_217 : decode cL_areStates 217 = .ok (.if_icmp .ge 119, 3) := by decide +kernel
theorem dL_areStates_220 : decode cL_areStates 220 = .ok (.aload_n 1, 1) := by decide +kernel
theorem dL_areStates_221 : decode cL_areStates 221 = .ok (.iload 9, 2) := by decide +kernel
theorem dL_areStates_223 : decode cL_areStates 223 = .ok (.iaload, 1) := by decide +kernel
theorem dL_areStates_224 : decode cL_areStates 224 = .ok (.iload_n 2, 1) := by decide +kernel
theorem dL_areStates_225 : decode cL_areStates 225 = .ok (.iconst (-1), 1) := by decide +kernel
theorem dL_areStates_226 : decode cL_areStates 226 = .ok (.ixor, 1) := by decide +kernel
theorem dL_areStates_227 : decode cL_areStates 227 = .ok (.iand, 1) := by decide +kernel
theorem dL_areStates_228 : decode cL_areStates 228 = .ok (.ifCond .ne 7, 3) := by decide +kernel
theorem dL_areStates_231 : decode cL_areStates 231 = .ok (.iconst 1, 1) := by decide +kernel
theorem dL_areStates_232 : decode cL_areStates 232 = .ok (.goto 4, 3) := by decide +kernel
theorem dL_areStates_235 : decode cL_areStates 235 = .ok (.iconst 0, 1) := by decide +kernel
theorem dL_areStates_236 : decode cL_areStates 236 = .ok (.istore 10, 2) := by decide +kernel
theorem dL_areStates_238 : decode cL_areStates 238 = .ok (.iload 6, 2) := by decide +kernel
theorem dL_areStates_240 : decode cL_areStates 240 = .ok (.iload 10, 2) := by decide +kernel
theorem dL_areStates_242 : decode cL_areStates 242 = .ok (.ifCond .eq 40, 3) := by decide +kernel
theorem dL_areStates_245 : decode cL_areStates 245 = .ok (.aload_n 1, 1) := by decide +kernel
theorem dL_areStates_246 : decode cL_areStates 246 = .ok (.bipush 16, 2) := by decide +kernel
theorem dL_areStates_248 : decode cL_areStates 248 = .ok (.iload 9, 2) := by decide +kernel
theorem dL_areStates_250 : decode cL_areStates 250 = .ok (.iadd, 1) := by decide +kernel
theorem dL_areStates_251 : decode cL_areStates 251 = .ok (.iaload, 1) := by decide +kernel
theorem dL_areStates_252 : decode cL_areStates 252 = .ok (.iload 6, 2) := by decide +kernel
theorem dL_areStates_254 : decode cL_areStates 254 = .ok (.iconst (-1), 1) := by decide +kernel
theorem dL_areStates_255 : decode cL_areStates 255 = .ok (.ixor, 1) := by decide +kernel
theorem dL_areStates_256 : decode cL_areStates 256 = .ok (.iand, 1) := by decide +kernel
theorem dL_areStates_257 : decode cL_areStates 257 = .ok (.ifCond .ne 25, 3) := by decide +kernel
theorem dL_areStates_260 : decode cL_areStates 260 = .ok (.aload_n 1, 1) := by decide +kernel
theorem dL_areStates_261 : decode cL_areStates 261 = .ok (.bipush 32, 2) := by decide +kernel
theorem dL_areStates_263 : decode cL_areStates 263 = .ok (.iload 9, 2) := by decide +kernel
theorem dL_areStates_265 : decode cL_areStates 265 = .ok (.iadd, 1) := by decide +kernel
theorem dL_areStates_266 : decode cL_areStates 266 = .ok (.iaload, 1) := by decide +kernel
theorem dL_areStates_267 : decode cL_areStates 267 = .ok (.iload 7, 2) := by decide +kernel
theorem dL_areStates_269 : decode cL_areStates 269 = .ok (.iconst (-1), 1) := by decide +kernel
theorem dL_areStates_270 : decode cL_areStates 270 = .ok (.ixor, 1) := by decide +kernel
theorem dL_areStates_271 : decode cL_areStates 271 = .ok (.iand, 1) := by decide +kernel
theorem dL_areStates_272 : decode cL_areStates 272 = .ok (.ifCond .ne 10, 3) := by decide +kernel
theorem dL_areStates_275 : decode cL_areStates 275 = .ok (.iconst 1, 1) := by decide +kernel
theorem dL_areStates_276 : decode cL_areStates 276 = .ok (.iload 9, 2) := by decide +kernel
theorem dL_areStates_278 : decode cL_areStates 278 = .ok (.ishl, 1) := by decide +kernel
theorem dL_areStates_279 : decode cL_areStates 279 = .ok (.goto 4, 3) := by decide +kernel
theorem dL_areStates_282 : decode cL_areStates 282 = .ok (.iconst 0, 1) := by decide +kernel
theorem dL_areStates_283 : decode cL_areStates 283 = .ok (.ior, 1) := by decide +kernel
theorem dL_areStates_284 : decode cL_areStates 284 = .ok (.istore 6, 2) := by decide +kernel
theorem dL_areStates_286 : decode cL_areStates 286 = .ok (.iload 7, 2) := by decide +kernel
theorem dL_areStates_288 : decode cL_areStates 288 = .ok (.iload 10, 2) := by decide +kernel
theorem dL_areStates_290 : decode cL_areStates 290 = .ok (.ifCond .eq 33, 3) := by decide +kernel
theorem dL_areStates_293 : decode cL_areStates 293 = .ok (.aload_n 1, 1) := by decide +kernel
theorem dL_areStates_294 : decode cL_areStates 294 = .ok (.bipush 16, 2) := by decide +kernel
theorem dL_areStates_296 : decode cL_areStates 296 = .ok (.iload 9, 2) := by decide +kernel
theorem dL_areStates_298 : decode cL_areStates 298 = .ok (.iadd, 1) := by decide +kernel
theorem dL_areStates_299 : decode cL_areStates 299 = .ok (.iaload, 1) := by decide +kernel
theorem dL_areStates_300 : decode cL_areStates 300 = .ok (.iload 7, 2) := by decide +kernel
theorem dL_areStates_302 : decode cL_areStates 302 = .ok (.iand, 1) := by decide +kernel
theorem dL_areStates_303 : decode cL_areStates 303 = .ok (.ifCond .ne 20, 3) := by decide +kernel
theorem dL_areStates_306 : decode cL_areStates 306 = .ok (.aload_n 1, 1) := by decide +kernel
theorem dL_areStates_307 : decode cL_areStates 307 = .ok (.bipush 32, 2) := by decide +kernel
theorem dL_areStates_309 : decode cL_areStates 309 = .ok (.iload 9, 2) := by decide +kernel
theorem dL_areStates_311 : decode cL_areStates 311 = .ok (.iadd, 1) := by decide +kernel
theorem dL_areStates_312 : decode cL_areStates 312 = .ok (.iaload, 1) := by decide +kernel
theorem dL_areStates_313 : decode cL_areStates 313 = .ok (.iload 6, 2) := by decide +kernel
theorem dL_areStates_315 : decode cL_areStates 315 = .ok (.iand, 1) := by decide +kernel
theorem dL_areStates_316 : decode cL_areStates 316 = .ok (.ifCond .ne 7, 3) := by decide +kernel
theorem dL_areStates_319 : decode cL_areStates 319 = .ok (.iconst 0, 1) := by decide +kernel
theorem dL_areStates_320 : decode cL_areStates 320 = .ok (.goto 7, 3) := by decide +kernel
theorem dL_areStates_323 : decode cL_areStates 323 = .ok (.iconst 1, 1) := by decide +kernel
theorem dL_areStates_324 : decode cL_areStates 324 = .ok (.iload 9, 2) := by decide +kernel
theorem dL_areStates_326 : decode cL_areStates 326 = .ok (.ishl, 1) := by decide +kernel
theorem dL_areStates_327 : decode cL_areStates 327 = .ok (.ior, 1) := by decide +kernel
theorem dL_areStates_328 : decode cL_areStates 328 = .ok (.istore 7, 2) := by decide +kernel
theorem dL_areStates_330 : decode cL_areStates 330 = .ok (.iinc 9 1, 3) := by decide +kernel
theorem dL_areStates_333 : decode cL_areStates 333 = .ok (.goto (-122), 3) := by decide +kernel
theorem dL_areStates_336 : decode cL_areStates 336 = .ok (.iinc 8 1, 3) := by decide +kernel
theorem dL_areStates_339 : decode cL_areStates 339 = .ok (.goto (-140), 3) := by decide +kernel
theorem dL_areStates_342 : decode cL_areStates 342 = .ok (.iload 5, 2) := by decide +kernel
theorem dL_areStates_344 : decode cL_areStates 344 = .ok (.ifCond .eq 20, 3) := by decide +kernel
theorem dL_areStates_347 : decode cL_areStates 347 = .ok (.iload 6, 2) := by decide +kernel
theorem dL_areStates_349 : decode cL_areStates 349 = .ok (.iload_n 3, 1) := by decide +kernel
theorem dL_areStates_350 : decode cL_areStates 350 = .ok (.if_icmp .ne 14, 3) := by decide +kernel
theorem dL_areStates_353 : decode cL_areStates 353 = .ok (.iload 7, 2) := by decide +kernel
theorem dL_areStates_355 : decode cL_areStates 355 = .ok (.iload 4, 2) := by decide +kernel
theorem dL_areStates_357 : decode cL_areStates 357 = .ok (.if_icmp .ne 7, 3) := by decide +kernel
theorem dL_areStates_360 : decode cL_areStates 360 = .ok (.iconst 1, 1) := by decide +kernel
theorem dL_areStates_361 : decode cL_areStates 361 = .ok (.goto 4, 3) := by decide +kernel
theorem dL_areStates_364 : decode cL_areStates 364 = .ok (.iconst 0, 1) := by decide +kernel
theorem dL_areStates_365 : decode cL_areStates 365 = .ok (.ireturn, 1) := by decide +kernel
