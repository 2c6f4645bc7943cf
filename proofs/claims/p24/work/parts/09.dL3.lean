set_option maxRecDepth 20000 in
theorem ggL_areScores_L_having : GoodIn wsL_areScores wsL_having := goodIn_ca (goodIn_r _ [4, 5, 6, 7, 8, 9, 10, 11, 12, 13, 14, 15, 16, 17, 18, 19, 20, 21, 22, 23, 24, 25, 26, 27, 28, 29, 30, 31, 32, 33, 34, 35, 36, 37, 38, 39, 40, 41, 42, 43, 44, 45, 46, 47, 48, 49, 50, 51, 52, 53, 54, 55, 56, 57, 58, 59, 60, 61, 62, 63, 64, 65, 66, 67, 68, 69, 70, 71, 72, 73, 74, 75, 76, 77, 78, 79, 80, 81, 82, 83, 84, 85, 86, 120, 121, 122, 123, 124, 125, 126, 127, 128, 129, 130, 131, 132, 133, 134, 135, 136, 137, 138, 139, 140, 141] (by decide +kernel) (by decide +kernel)) (goodIn_sub (fun _ h => List.mem_cons_of_mem _ (List.mem_append_right _ h)) (by decide +kernel))
set_option maxRecDepth 20000 in
theorem gL_areScores_L_having : GoodIn wsL_areScores (va_wsS RL 97 yL_having wsL_having) := goodIn_app (goodIn_of _ (by decide +kernel)) ggL_areScores_L_having
set_option maxRecDepth 20000 in
theorem ggL_areScores_X3_claims : GoodIn wsL_areScores wsX3_claims := goodIn_r _ [9, 10, 11, 12, 13, 14, 15, 16, 120, 121, 122, 123, 124, 125, 126, 127, 128, 129, 130, 131] (by decide +kernel) (by decide +kernel)
set_option maxRecDepth 20000 in
theorem gL_areScores_X3_claims : GoodIn wsL_areScores (wsV RL 72 RX3 yX3_claims wsX3_claims) := goodIn_app (goodIn_of _ (by decide +kernel)) ggL_areScores_X3_claims
set_option maxRecDepth 20000 in
theorem ggL_areScores_X3_playerOf : GoodIn wsL_areScores wsX3_playerOf := goodIn_ca (goodIn_r _ [90, 10, 23, 24, 25, 8, 26, 27, 28, 11, 12, 13, 14, 15, 16, 91, 92, 93, 94, 95, 120, 121, 122, 123, 124, 125, 126, 127, 128, 129, 130, 131] (by decide +kernel) (by decide +kernel)) (goodIn_sub (fun _ h => List.mem_cons_of_mem _ (List.mem_append_right _ h)) (by decide +kernel))
set_option maxRecDepth 20000 in
theorem gL_areScores_X3_playerOf : GoodIn wsL_areScores (wsV RL 42 RX3 yX3_playerOf wsX3_playerOf) := goodIn_app (goodIn_of _ (by decide +kernel)) ggL_areScores_X3_playerOf
set_option maxRecDepth 20000 in
theorem ggL_areScores_X3_score : GoodIn wsL_areScores wsX3_score := goodIn_ca (goodIn_r _ [99, 22, 100, 101, 102, 8, 103, 27, 28, 29, 30, 31, 32, 33, 34, 35, 36, 37, 38, 39, 104, 105, 106, 107, 21, 10, 40, 41, 42, 43, 44, 45, 46, 47, 48, 49, 50, 51, 52, 53, 54, 55, 12, 13, 14, 15, 16, 56, 57, 58, 59, 60, 61, 62, 63, 64, 65, 66, 67, 68, 69, 70, 71, 72, 73, 74, 75, 76, 77, 78, 79, 80, 81, 82, 108, 109, 110, 111, 112, 113, 114, 115, 95, 120, 121, 122, 123, 124, 132, 133, 134, 135, 136, 137, 138, 139, 140, 141, 125, 126, 127, 128, 129, 130, 131] (by decide +kernel) (by decide +kernel)) (goodIn_sub (fun _ h => List.mem_cons_of_mem _ (List.mem_append_right _ h)) (by decide +kernel))
set_option maxRecDepth 20000 in
theorem gL_areScores_X3_score : GoodIn wsL_areScores (wsV RL 54 RX3 yX3_score wsX3_score) := goodIn_app (goodIn_of _ (by decide +kernel)) ggL_areScores_X3_score
set_option maxRecDepth 20000 in
theorem ggL_areScores_X3_verdict : GoodIn wsL_areScores wsX3_verdict := goodIn_r _ [119, 21, 22, 10, 29, 30, 31, 32, 33, 34, 35, 36, 37, 38, 8, 39, 40, 41, 42, 43, 44, 45, 46, 47, 48, 49, 50, 51, 52, 53, 54, 55, 12, 13, 14, 15, 16, 56, 57, 58, 59, 60, 61, 62, 63, 64, 65, 66, 67, 68, 69, 70, 71, 72, 73, 74, 75, 76, 77, 78, 79, 80, 81, 82, 108, 109, 110, 111, 112, 113, 114, 115, 95, 120, 121, 122, 123, 124, 132, 133, 134, 135, 136, 137, 138, 139, 140, 141, 125, 126, 127, 128, 129, 130, 131] (by decide +kernel) (by decide +kernel)
set_option maxRecDepth 20000 in
theorem gL_areScores_X3_verdict : GoodIn wsL_areScores (wsV RL 82 RX3 yX3_verdict wsX3_verdict) := goodIn_app (goodIn_of _ (by decide +kernel)) ggL_areScores_X3_verdict
theorem dL_areScores_0 : decode cL_areScores 0 = .ok (.aload_n 0, 1) := by decide +kernel
theorem dL_areScores_1 : decode cL_areScores 1 = .ok (.iconst 1, 1) := by decide +kernel
theorem dL_areScores_2 : decode cL_areScores 2 = .ok (.invokestatic 97, 3) := by decide +kernel
theorem dL_areScores_5 : decode cL_areScores 5 = .ok (.istore_n 1, 1) := by decide +kernel
theorem dL_areScores_6 : decode cL_areScores 6 = .ok (.iconst 0, 1) := by decide +kernel
theorem dL_areScores_7 : decode cL_areScores 7 = .ok (.istore_n 2, 1) := by decide +kernel
theorem dL_areScores_8 : decode cL_areScores 8 = .ok (.iconst 0, 1) := by decide +kernel
theorem dL_areScores_9 : decode cL_areScores 9 = .ok (.istore_n 3, 1) := by decide +kernel
theorem dL_areScores_10 : decode cL_areScores 10 = .ok (.iconst 0, 1) := by decide +kernel
theorem dL_areScores_11 : decode cL_areScores 11 = .ok (.istore 4, 2) := by decide +kernel
theorem dL_areScores_13 : decode cL_areScores 13 = .ok (.iconst 1, 1) := by decide +kernel
theorem dL_areScores_14 : decode cL_areScores 14 = .ok (.istore 5, 2) := by decide +kernel
theorem dL_areScores_16 : decode cL_areScores 16 = .ok (.iconst 0, 1) := by decide +kernel
theorem dL_areScores_17 : decode cL_areScores 17 = .ok (.istore 6, 2) := by decide +kernel
theorem dL_areScores_19 : decode cL_areScores 19 = .ok (.iload 6, 2) := by decide +kernel
theorem dL_areScores_21 : decode cL_areScores 21 = .ok (.iconst 3, 1) := by decide +kernel
theorem dL_areScores_22 : decode cL_areScores 22 = .ok (.if_icmp .ge 123, 3) := by decide +kernel
theorem dL_areScores_25 : decode cL_areScores 25 = .ok (.iload 5, 2) := by decide +kernel
theorem dL_areScores_27 : decode cL_areScores 27 = .ok (.ifCond .eq 118, 3) := by decide +kernel
theorem dL_areScores_30 : decode cL_areScores 30 = .ok (.iconst 0, 1) := by decide +kernel
theorem dL_areScores_31 : decode cL_areScores 31 = .ok (.istore 7, 2) := by decide +kernel
theorem dL_areScores_33 : decode cL_areScores 33 = .ok (.iconst 0, 1) := by decide +kernel
theorem dL_areScores_34 : decode cL_areScores 34 = .ok (.istore 8, 2) := by decide +kernel
theorem dL_areScores_36 : decode cL_areScores 36 = .ok (.iload 8, 2) := by decide +kernel
theorem dL_areScores_38 : decode cL_areScores 38 = .ok (.aload_n 0, 1) := by decide +kernel
theorem dL_areScores_39 : decode cL_areScores 39 = .ok (.invokevirtual 72, 3) := by decide +kernel
theorem dL_areScores_42 : decode cL_areScores 42 = .ok (.if_icmp .ge 35, 3) := by decide +kernel
theorem dL_areScores_45 : decode cL_areScores 45 = .ok (.iload 7, 2) := by decide +kernel
theorem dL_areScores_47 : decode cL_areScores 47 = .ok (.aload_n 0, 1) := by decide +kernel
theorem dL_areScores_48 : decode cL_areScores 48 = .ok (.iload 8, 2) := by decide +kernel
theorem dL_areScores_50 : decode cL_areScores 50 = .ok (.invokevirtual 42, 3) := by decide +kernel
theorem dL_areScores_53 : decode cL_areScores 53 = .ok (.iload 6, 2) := by decide +kernel
theorem dL_areScores_55 : decode cL_areScores 55 = .ok (.if_icmp .ne 12, 3) := by decide +kernel
theorem dL_areScores_58 : decode cL_areScores 58 = .ok (.iload_n 1, 1) := by decide +kernel
theorem dL_areScores_59 : decode cL_areScores 59 = .ok (.iload 8, 2) := by decide +kernel
theorem dL_areScores_61 : decode cL_areScores 61 = .ok (.ishr, 1) := by decide +kernel
theorem dL_areScores_62 : decode cL_areScores 62 = .ok (.iconst 1, 1) := by decide +kernel
theorem dL_areScores_63 : decode cL_areScores 63 = .ok (.iand, 1) := by decide +kernel
theorem dL_areScores_64 : decode cL_areScores 64 = .ok (.goto 4, 3) := by decide +kernel
theorem dL_areScores_67 : decode cL_areScores 67 = .ok (.iconst 0, 1) := by decide +kernel
theorem dL_areScores_68 : decode cL_areScores 68 = .ok (.iadd, 1) := by decide +kernel
theorem dL_areScores_69 : decode cL_areScores 69 = .ok (.istore 7, 2) := by decide +kernel
theorem dL_areScores_71 : decode cL_areScores 71 = .ok (.iinc 8 1, 3) := by decide +kernel
theorem dL_areScores_74 : decode cL_areScores 74 = .ok (.goto (-38), 3) := by decide +kernel
theorem dL_areScores_77 : decode cL_areScores 77 = .ok (.iload 4, 2) := by decide +kernel
theorem dL_areScores_79 : decode cL_areScores 79 = .ok (.iload 7, 2) := by decide +kernel
theorem dL_areScores_81 : decode cL_areScores 81 = .ok (.iadd, 1) := by decide +kernel
theorem dL_areScores_82 : decode cL_areScores 82 = .ok (.istore 4, 2) := by decide +kernel
theorem dL_areScores_84 : decode cL_areScores 84 = .ok (.iload 7, 2) := by decide +kernel
theorem dL_areScores_86 : decode cL_areScores 86 = .ok (.iload_n 2, 1) := by decide +kernel
theorem dL_areScores_87 : decode cL_areScores 87 = .ok (.if_icmp .le 7, 3) := by decide +kernel
theorem dL_areScores_90 : decode cL_areScores 90 = .ok (.iconst 1, 1) := by decide +kernel
theorem dL_areScores_91 : decode cL_areScores 91 = .ok (.goto 16, 3) := by decide +kernel
theorem dL_areScores_94 : decode cL_areScores 94 = .ok (.iload 7, 2) := by decide +kernel
theorem dL_areScores_96 : decode cL_areScores 96 = .ok (.iload_n 2, 1) := by decide +kernel
theorem dL_areScores_97 : decode cL_areScores 97 = .ok (.if_icmp .ne 9, 3) := by decide +kernel
theorem dL_areScores_100 : decode cL_areScores 100 = .ok (.iload_n 3, 1) := by decide +kernel
theorem dL_areScores_101 : decode cL_areScores 101 = .ok (.iconst 1, 1) := by decide +kernel
theorem dL_areScores_102 : decode cL_areScores 102 = .ok (.iadd, 1) := by decide +kernel
theorem dL_areScores_103 : decode cL_areScores 103 = .ok (.goto 4, 3) := by decide +kernel
theorem dL_areScores_106 : decode cL_areScores 106 = .ok (.iload_n 3, 1) := by decide +kernel
theorem dL_areScores_107 : decode cL_areScores 107 = .ok (.istore_n 3, 1) := by decide +kernel
theorem dL_areScores_108 : decode cL_areScores 108 = .ok (.iload 7, 2) := by decide +kernel
theorem dL_areScores_110 : decode cL_areScores 110 = .ok (.iload_n 2, 1) := by decide +kernel
theorem dL_areScores_111 : decode cL_areScores 111 = .ok (.if_icmp .le 8, 3) := by decide +kernel
theorem dL_areScores_114 : decode cL_areScores 114 = .ok (.iload 7, 2) := by decide +kernel
theorem dL_areScores_116 : decode cL_areScores 116 = .ok (.goto 4, 3) := by decide +kernel
theorem dL_areScores_119 : decode cL_areScores 119 = .ok (.iload_n 2, 1) := by decide +kernel
theorem dL_areScores_120 : decode cL_areScores 120 = .ok (.istore_n 2, 1) := by decide +kernel
theorem dL_areScores_121 : decode cL_areScores 121 = .ok (.aload_n 0, 1) := by decide +kernel
theorem dL_areScores_122 : decode cL_areScores 122 = .ok (.iload 6, 2) := by decide +kernel
theorem dL_areScores_124 : decode cL_areScores 124 = .ok (.invokevirtual 54, 3) := by decide +kernel
theorem dL_areScores_127 : decode cL_areScores 127 = .ok (.iload 7, 2) := by decide +kernel
theorem dL_areScores_129 : decode cL_areScores 129 = .ok (.if_icmp .ne 7, 3) := by decide +kernel
theorem dL_areScores_132 : decode cL_areScores 132 = .ok (.iconst 1, 1) := by decide +kernel
theorem dL_areScores_133 : decode cL_areScores 133 = .ok (.goto 4, 3) := by decide +kernel
theorem dL_areScores_136 : decode cL_areScores 136 = .ok (.iconst 0, 1) := by decide +kernel
theorem dL_areScores_137 : decode cL_areScores 137 = .ok (.istore 5, 2) := by decide +kernel
theorem dL_areScores_139 : decode cL_areScores 139 = .ok (.iinc 6 1, 3) := by decide +kernel
theorem dL_areScores_142 : decode cL_areScores 142 = .ok (.goto (-123), 3) := by decide +kernel
theorem dL_areScores_145 : decode cL_areScores 145 = .ok (.aload_n 0, 1) := by decide +kernel
theorem dL_areScores_146 : decode cL_areScores 146 = .ok (.invokevirtual 82, 3) := by decide +kernel
theorem dL_areScores_149 : decode cL_areScores 149 = .ok (.istore 6, 2) := by decide +kernel
theorem dL_areScores_151 : decode cL_areScores 151 = .ok (.iload 5, 2) := by decide +kernel
theorem dL_areScores_153 : decode cL_areScores 153 = .ok (.ifCond .eq 44, 3) := by decide +kernel
theorem dL_areScores_156 : decode cL_areScores 156 = .ok (.iload 4, 2) := by decide +kernel
theorem dL_areScores_158 : decode cL_areScores 158 = .ok (.aload_n 0, 1) := by decide +kernel
theorem dL_areScores_159 : decode cL_areScores 159 = .ok (.invokevirtual 72, 3) := by decide +kernel
theorem dL_areScores_162 : decode cL_areScores 162 = .ok (.if_icmp .gt 35, 3) := by decide +kernel
theorem dL_areScores_165 : decode cL_areScores 165 = .ok (.iload 6, 2) := by decide +kernel
theorem dL_areScores_167 : decode cL_areScores 167 = .ok (.ifCond .ge 11, 3) := by decide +kernel
theorem dL_areScores_170 : decode cL_areScores 170 = .ok (.iload_n 3, 1) := by decide +kernel
theorem dL_areScores_171 : decode cL_areScores 171 = .ok (.iconst 1, 1) := by decide +kernel
theorem dL_areScores_172 : decode cL_areScores 172 = .ok (.if_icmp .le 25, 3) := by decide +kernel
theorem dL_areScores_175 : decode cL_areScores 175 = .ok (.goto 18, 3) := by decide +kernel
theorem dL_areScores_178 : decode cL_areScores 178 = .ok (.iload_n 3, 1) := by decide +kernel
theorem dL_areScores_179 : decode cL_areScores 179 = .ok (.iconst 1, 1) := by decide +kernel
theorem dL_areScores_180 : decode cL_areScores 180 = .ok (.if_icmp .ne 17, 3) := by decide +kernel
theorem dL_areScores_183 : decode cL_areScores 183 = .ok (.aload_n 0, 1) := by decide +kernel
theorem dL_areScores_184 : decode cL_areScores 184 = .ok (.iload 6, 2) := by decide +kernel
theorem dL_areScores_186 : decode cL_areScores 186 = .ok (.invokevirtual 54, 3) := by decide +kernel
theorem dL_areScores_189 : decode cL_areScores 189 = .ok (.iload_n 2, 1) := by decide +kernel
theorem dL_areScores_190 : decode cL_areScores 190 = .ok (.if_icmp .ne 7, 3) := by decide +kernel
theorem dL_areScores_193 : decode cL_areScores 193 = .ok (.iconst 1, 1) := by decide +kernel
theorem dL_areScores_194 : decode cL_areScores 194 = .ok (.goto 4, 3) := by decide +kernel
theorem dL_areScores_197 : decode cL_areScores 197 = .ok (.iconst 0, 1) := by decide +kernel
theorem dL_areScores_198 : decode cL_areScores 198 = .ok (.ireturn, 1) := by decide +kernel
set_option maxRecDepth 20000 in
theorem ggL_areKeys_X3_keyFact : GoodIn wsL_areKeys wsX3_keyFact := goodIn_ca (goodIn_r _ [5, 6, 7, 8, 9, 4, 10, 11, 12, 13, 14, 15, 16, 17, 18, 19, 20, 21, 22, 23, 24, 25, 26, 27, 28, 29, 30, 31, 32, 33, 34, 35, 36, 37, 38, 39, 40, 41, 42, 43, 44, 45, 46, 47, 48, 49, 50, 51, 52, 53, 54, 55, 56, 57, 58, 59, 60, 61, 62, 63, 64, 65, 66, 67, 68, 69, 70, 71, 72, 73, 74, 75, 76, 77, 78, 79, 80, 81, 82, 83, 84, 85, 86, 87, 88, 89, 90, 119, 120, 121, 122, 123, 124, 125, 126, 127, 128, 129, 130, 131, 132, 133, 134, 135, 136, 137, 138, 139, 140] (by decide +kernel) (by decide +kernel)) (goodIn_sub (fun _ h => List.mem_cons_of_mem _ (List.mem_append_right _ h)) (by decide +kernel))
set_option maxRecDepth 20000 in
theorem gL_areKeys_X3_keyFact : GoodIn wsL_areKeys (wsV RL 60 RX3 yX3_keyFact wsX3_keyFact) := goodIn_app (goodIn_of _ (by decide +kernel)) ggL_areKeys_X3_keyFact
set_option maxRecDepth 20000 in
theorem ggL_areKeys_L_standing : GoodIn wsL_areKeys wsL_standing := goodIn_ca (goodIn_r _ [94, 95, 96, 97, 4, 98, 6, 99, 100, 101, 16, 102, 18, 103, 104, 105, 106, 107, 108, 109, 110, 11, 12, 13, 14, 15, 17, 19, 20, 21, 22, 23, 24, 119, 120, 121, 122, 123, 124, 125, 126, 127] (by decide +kernel) (by decide +kernel)) (goodIn_sub (fun _ h => List.mem_cons_of_mem _ (List.mem_append_right _ h)) (by decide +kernel))
set_option maxRecDepth 20000 in
theorem gL_areKeys_L_standing : GoodIn wsL_areKeys (va_wsS RL 91 yL_standing wsL_standing) := goodIn_app (goodIn_of _ (by decide +kernel)) ggL_areKeys_L_standing
set_option maxRecDepth 20000 in
theorem ggL_areKeys_X3_factStands : GoodIn wsL_areKeys wsX3_factStands := goodIn_ca (goodIn_r _ [106, 6, 107, 108, 109, 4, 110, 11, 12, 99, 100, 101, 16, 102, 18, 13, 14, 15, 17, 19, 20, 21, 22, 23, 24, 119, 120, 121, 122, 123, 124, 125, 126, 127] (by decide +kernel) (by decide +kernel)) (goodIn_sub (fun _ h => List.mem_cons_of_mem _ (List.mem_append_right _ h)) (by decide +kernel))
set_option maxRecDepth 20000 in
theorem gL_areKeys_X3_factStands : GoodIn wsL_areKeys (wsV RL 39 RX3 yX3_factStands wsX3_factStands) := goodIn_app (goodIn_of _ (by decide +kernel)) ggL_areKeys_X3_factStands
set_option maxRecDepth 20000 in
theorem ggL_areKeys_X3_facts : GoodIn wsL_areKeys wsX3_facts := goodIn_r _ [98, 6, 99, 100, 101, 16, 102, 18, 119, 120, 121, 122, 123, 124, 125, 126, 127] (by decide +kernel) (by decide +kernel)
set_option maxRecDepth 20000 in
theorem gL_areKeys_X3_facts : GoodIn wsL_areKeys (wsV RL 66 RX3 yX3_facts wsX3_facts) := goodIn_app (goodIn_of _ (by decide +kernel)) ggL_areKeys_X3_facts
set_option maxRecDepth 20000 in
theorem ggL_areKeys_X3_scoreWithout : GoodIn wsL_areKeys wsX3_scoreWithout := goodIn_ca (goodIn_r _ [114, 6, 7, 8, 9, 4, 10, 11, 12, 107, 108, 109, 110, 99, 100, 101, 16, 102, 18, 13, 14, 15, 17, 19, 20, 21, 22, 23, 25, 26, 27, 28, 29, 30, 31, 32, 33, 34, 35, 36, 37, 38, 39, 40, 41, 42, 43, 44, 45, 46, 47, 48, 49, 50, 51, 52, 53, 54, 55, 56, 57, 58, 59, 60, 61, 62, 63, 64, 65, 66, 67, 68, 69, 70, 71, 72, 73, 74, 75, 76, 77, 78, 79, 80, 81, 82, 83, 84, 85, 86, 87, 88, 89, 90, 119, 120, 121, 122, 123, 124, 125, 126, 127, 128, 129, 130, 131, 132, 133, 134, 135, 136, 137, 138, 139, 140] (by decide +kernel) (by decide +kernel)) (goodIn_sub (fun _ h => List.mem_cons_of_mem _ (List.mem_append_right _ h)) (by decide +kernel))
set_option maxRecDepth 20000 in
theorem gL_areKeys_X3_scoreWithout : GoodIn wsL_areKeys (wsV RL 57 RX3 yX3_scoreWithout wsX3_scoreWithout) := goodIn_app (goodIn_of _ (by decide +kernel)) ggL_areKeys_X3_scoreWithout
set_option maxRecDepth 20000 in
theorem ggL_areKeys_X3_score : GoodIn wsL_areKeys wsX3_score := goodIn_ca (goodIn_r _ [118, 6, 7, 8, 9, 4, 10, 11, 12, 13, 14, 15, 16, 17, 18, 19, 20, 21, 22, 23, 28, 29, 30, 31, 32, 33, 34, 35, 36, 37, 38, 39, 40, 41, 42, 43, 44, 45, 46, 47, 48, 49, 50, 51, 52, 53, 54, 55, 56, 57, 58, 59, 60, 61, 62, 63, 64, 65, 66, 67, 68, 69, 70, 71, 72, 73, 74, 75, 76, 77, 78, 79, 80, 81, 82, 83, 84, 85, 86, 87, 88, 89, 90, 119, 120, 121, 122, 123, 124, 125, 126, 127, 128, 129, 130, 131, 132, 133, 134, 135, 136, 137, 138, 139, 140] (by decide +kernel) (by decide +kernel)) (goodIn_sub (fun _ h => List.mem_cons_of_mem _ (List.mem_append_right _ h)) (by decide +kernel))
set_option maxRecDepth 20000 in
theorem gL_areKeys_X3_score : GoodIn wsL_areKeys (wsV RL 54 RX3 yX3_score wsX3_score) := goodIn_app (goodIn_of _ (by decide +kernel)) ggL_areKeys_X3_score
theorem dL_areKeys_0 : decode cL_areKeys 0 = .ok (.iconst 1, 1) := by decide +kernel
theorem dL_areKeys_1 : decode cL_areKeys 1 = .ok (.istore_n 1, 1) := by decide +kernel
theorem dL_areKeys_2 : decode cL_areKeys 2 = .ok (.iconst 0, 1) := by decide +kernel
theorem dL_areKeys_3 : decode cL_areKeys 3 = .ok (.istore_n 2, 1) := by decide +kernel
theorem dL_areKeys_4 : decode cL_areKeys 4 = .ok (.iload_n 2, 1) := by decide +kernel
theorem dL_areKeys_5 : decode cL_areKeys 5 = .ok (.iconst 3, 1) := by decide +kernel
theorem dL_areKeys_6 : decode cL_areKeys 6 = .ok (.if_icmp .ge 161, 3) := by decide +kernel
theorem dL_areKeys_9 : decode cL_areKeys 9 = .ok (.iload_n 1, 1) := by decide +kernel
theorem dL_areKeys_10 : decode cL_areKeys 10 = .ok (.ifCond .eq 157, 3) := by decide +kernel
theorem dL_areKeys_13 : decode cL_areKeys 13 = .ok (.aload_n 0, 1) := by decide +kernel
theorem dL_areKeys_14 : decode cL_areKeys 14 = .ok (.iload_n 2, 1) := by decide +kernel
theorem dL_areKeys_15 : decode cL_areKeys 15 = .ok (.invokevirtual 60, 3) := by decide +kernel
theorem dL_areKeys_18 : decode cL_areKeys 18 = .ok (.istore_n 3, 1) := by decide +kernel
theorem dL_areKeys_19 : decode cL_areKeys 19 = .ok (.iload_n 3, 1) := by decide +kernel
theorem dL_areKeys_20 : decode cL_areKeys 20 = .ok (.ifCond .ge 7, 3) := by decide +kernel
theorem dL_areKeys_23 : decode cL_areKeys 23 = .ok (.iconst 1, 1) := by decide +kernel
theorem dL_areKeys_24 : decode cL_areKeys 24 = .ok (.goto 4, 3) := by decide +kernel
theorem dL_areKeys_27 : decode cL_areKeys 27 = .ok (.iconst 0, 1) := by decide +kernel
theorem dL_areKeys_28 : decode cL_areKeys 28 = .ok (.aload_n 0, 1) := by decide +kernel
theorem dL_areKeys_29 : decode cL_areKeys 29 = .ok (.invokestatic 91, 3) := by decide +kernel
theorem dL_areKeys_32 : decode cL_areKeys 32 = .ok (.ifCond .ne 7, 3) := by decide +kernel
theorem dL_areKeys_35 : decode cL_areKeys 35 = .ok (.iconst 1, 1) := by decide +kernel
theorem dL_areKeys_36 : decode cL_areKeys 36 = .ok (.goto 4, 3) := by decide +kernel
theorem dL_areKeys_39 : decode cL_areKeys 39 = .ok (.iconst 0, 1) := by decide +kernel
theorem dL_areKeys_40 : decode cL_areKeys 40 = .ok (.if_icmp .ne 19, 3) := by decide +kernel
theorem dL_areKeys_43 : decode cL_areKeys 43 = .ok (.iload_n 3, 1) := by decide +kernel
theorem dL_areKeys_44 : decode cL_areKeys 44 = .ok (.ifCond .lt 11, 3) := by decide +kernel
theorem dL_areKeys_47 : decode cL_areKeys 47 = .ok (.aload_n 0, 1) := by decide +kernel
theorem dL_areKeys_48 : decode cL_areKeys 48 = .ok (.iload_n 3, 1) := by decide +kernel
theorem dL_areKeys_49 : decode cL_areKeys 49 = .ok (.invokevirtual 39, 3) := by decide +kernel
theorem dL_areKeys_52 : decode cL_areKeys 52 = .ok (.ifCond .eq 7, 3) := by decide +kernel
theorem dL_areKeys_55 : decode cL_areKeys 55 = .ok (.iconst 1, 1) := by decide +kernel
theorem dL_areKeys_56 : decode cL_areKeys 56 = .ok (.goto 4, 3) := by decide +kernel
theorem dL_areKeys_59 : decode cL_areKeys 59 = .ok (.iconst 0, 1) := by decide +kernel
theorem dL_areKeys_60 : decode cL_areKeys 60 = .ok (.istore_n 1, 1) := by decide +kernel
theorem dL_areKeys_61 : decode cL_areKeys 61 = .ok (.iconst 0, 1) := by decide +kernel
theorem dL_areKeys_62 : decode cL_areKeys 62 = .ok (.istore 4, 2) := by decide +kernel
theorem dL_areKeys_64 : decode cL_areKeys 64 = .ok (.iload 4, 2) := by decide +kernel
theorem dL_areKeys_66 : decode cL_areKeys 66 = .ok (.aload_n 0, 1) := by decide +kernel
theorem dL_areKeys_67 : decode cL_areKeys 67 = .ok (.invokevirtual 66, 3) := by decide +kernel
theorem dL_areKeys_70 : decode cL_areKeys 70 = .ok (.if_icmp .ge 91, 3) := by decide +kernel
theorem dL_areKeys_73 : decode cL_areKeys 73 = .ok (.iload_n 1, 1) := by decide +kernel
theorem dL_areKeys_74 : decode cL_areKeys 74 = .ok (.ifCond .eq 87, 3) := by decide +kernel
theorem dL_areKeys_77 : decode cL_areKeys 77 = .ok (.aload_n 0, 1) := by decide +kernel
theorem dL_areKeys_78 : decode cL_areKeys 78 = .ok (.iload_n 2, 1) := by decide +kernel
theorem dL_areKeys_79 : decode cL_areKeys 79 = .ok (.iload 4, 2) := by decide +kernel
theorem dL_areKeys_81 : decode cL_areKeys 81 = .ok (.invokevirtual 57, 3) := by decide +kernel
theorem dL_areKeys_84 : decode cL_areKeys 84 = .ok (.istore 5, 2) := by decide +kernel
theorem dL_areKeys_86 : decode cL_areKeys 86 = .ok (.iload_n 3, 1) := by decide +kernel
theorem dL_areKeys_87 : decode cL_areKeys 87 = .ok (.ifCond .ge 7, 3) := by decide +kernel
theorem dL_areKeys_90 : decode cL_areKeys 90 = .ok (.iconst 0, 1) := by decide +kernel
theorem dL_areKeys_91 : decode cL_areKeys 91 = .ok (.goto 9, 3) := by decide +kernel
theorem dL_areKeys_94 : decode cL_areKeys 94 = .ok (.aload_n 0, 1) := by decide +kernel
theorem dL_areKeys_95 : decode cL_areKeys 95 = .ok (.iload_n 2, 1) := by decide +kernel
theorem dL_areKeys_96 : decode cL_areKeys 96 = .ok (.iload_n 3, 1) := by decide +kernel
theorem dL_areKeys_97 : decode cL_areKeys 97 = .ok (.invokevirtual 57, 3) := by decide +kernel
theorem dL_areKeys_100 : decode cL_areKeys 100 = .ok (.istore 6, 2) := by decide +kernel
theorem dL_areKeys_102 : decode cL_areKeys 102 = .ok (.aload_n 0, 1) := by decide +kernel
theorem dL_areKeys_103 : decode cL_areKeys 103 = .ok (.iload 4, 2) := by decide +kernel
theorem dL_areKeys_105 : decode cL_areKeys 105 = .ok (.invokevirtual 39, 3) := by decide +kernel
theorem dL_areKeys_108 : decode cL_areKeys 108 = .ok (.ifCond .eq 31, 3) := by decide +kernel
theorem dL_areKeys_111 : decode cL_areKeys 111 = .ok (.iload 5, 2) := by decide +kernel
theorem dL_areKeys_113 : decode cL_areKeys 113 = .ok (.iload 6, 2) := by decide +kernel
theorem dL_areKeys_115 : decode cL_areKeys 115 = .ok (.if_icmp .gt 16, 3) := by decide +kernel
theorem dL_areKeys_118 : decode cL_areKeys 118 = .ok (.iload 5, 2) := by decide +kernel
theorem dL_areKeys_120 : decode cL_areKeys 120 = .ok (.iload 6, 2) := by decide +kernel
theorem dL_areKeys_122 : decode cL_areKeys 122 = .ok (.if_icmp .ne 13, 3) := by decide +kernel
theorem dL_areKeys_125 : decode cL_areKeys 125 = .ok (.iload_n 3, 1) := by decide +kernel
theorem dL_areKeys_126 : decode cL_areKeys 126 = .ok (.iload 4, 2) := by decide +kernel
theorem dL_areKeys_128 : decode cL_areKeys 128 = .ok (.if_icmp .gt 7, 3) := by decide +kernel
theorem dL_areKeys_131 : decode cL_areKeys 131 = .ok (.iconst 1, 1) := by decide +kernel
theorem dL_areKeys_132 : decode cL_areKeys 132 = .ok (.goto 22, 3) := by decide +kernel
theorem dL_areKeys_135 : decode cL_areKeys 135 = .ok (.iconst 0, 1) := by decide +kernel
theorem dL_areKeys_136 : decode cL_areKeys 136 = .ok (.goto 18, 3) := by decide +kernel
theorem dL_areKeys_139 : decode cL_areKeys 139 = .ok (.iload 5, 2) := by decide +kernel
theorem dL_areKeys_141 : decode cL_areKeys 141 = .ok (.aload_n 0, 1) := by decide +kernel
theorem dL_areKeys_142 : decode cL_areKeys 142 = .ok (.iload_n 2, 1) := by decide +kernel
theorem dL_areKeys_143 : decode cL_areKeys 143 = .ok (.invokevirtual 54, 3) := by decide +kernel
theorem dL_areKeys_146 : decode cL_areKeys 146 = .ok (.if_icmp .ne 7, 3) := by decide +kernel
theorem dL_areKeys_149 : decode cL_areKeys 149 = .ok (.iconst 1, 1) := by decide +kernel
theorem dL_areKeys_150 : decode cL_areKeys 150 = .ok (.goto 4, 3) := by decide +kernel
theorem dL_areKeys_153 : decode cL_areKeys 153 = .ok (.iconst 0, 1) := by decide +kernel
theorem dL_areKeys_154 : decode cL_areKeys 154 = .ok (.istore_n 1, 1) := by decide +kernel
theorem dL_areKeys_155 : decode cL_areKeys 155 = .ok (.iinc 4 1, 3) := by decide +kernel
theorem dL_areKeys_158 : decode cL_areKeys 158 = .ok (.goto (-94), 3) := by decide +kernel
theorem dL_areKeys_161 : decode cL_areKeys 161 = .ok (.iinc 2 1, 3) := by decide +kernel
theorem dL_areKeys_164 : decode cL_areKeys 164 = .ok (.goto (-160), 3) := by decide +kernel
theorem dL_areKeys_167 : decode cL_areKeys 167 = .ok (.iload_n 1, 1) := by decide +kernel
theorem dL_areKeys_168 : decode cL_areKeys 168 = .ok (.ireturn, 1) := by decide +kernel
set_option maxRecDepth 20000 in
theorem ggL_isFallen_X3_facts : GoodIn wsL_isFallen wsX3_facts := goodIn_r _ [5, 6, 7, 8, 9, 10, 11, 12, 239, 240, 241, 242, 243, 244, 245, 246, 247] (by decide +kernel) (by decide +kernel)
set_option maxRecDepth 20000 in
theorem gL_isFallen_X3_facts : GoodIn wsL_isFallen (wsV RL 66 RX3 yX3_facts wsX3_facts) := goodIn_app (goodIn_of _ (by decide +kernel)) ggL_isFallen_X3_facts
set_option maxRecDepth 20000 in
theorem ggL_isFallen_X3_factStands : GoodIn wsL_isFallen wsX3_factStands := goodIn_ca (goodIn_r _ [16, 6, 17, 18, 19, 4, 20, 21, 22, 7, 8, 9, 10, 11, 12, 23, 24, 25, 26, 27, 28, 29, 30, 31, 32, 239, 240, 241, 242, 243, 244, 245, 246, 247] (by decide +kernel) (by decide +kernel)) (goodIn_sub (fun _ h => List.mem_cons_of_mem _ (List.mem_append_left _ (List.mem_append_left _ (List.mem_append_right _ h)))) (by decide +kernel))
set_option maxRecDepth 20000 in
theorem gL_isFallen_X3_factStands : GoodIn wsL_isFallen (wsV RL 39 RX3 yX3_factStands wsX3_factStands) := goodIn_app (goodIn_of _ (by decide +kernel)) ggL_isFallen_X3_factStands
set_option maxRecDepth 20000 in
theorem ggL_isFallen_X3_scoreWithout : GoodIn wsL_isFallen wsX3_scoreWithout := goodIn_ca (goodIn_r _ [36, 6, 37, 38, 39, 4, 40, 21, 22, 17, 18, 19, 20, 7, 8, 9, 10, 11, 12, 23, 24, 25, 26, 27, 28, 29, 30, 31, 41, 42, 43, 44, 45, 46, 47, 48, 49, 50, 51, 52, 53, 54, 55, 56, 57, 58, 59, 60, 61, 62, 63, 64, 65, 66, 67, 68, 69, 70, 71, 72, 73, 74, 75, 76, 77, 78, 79, 80, 81, 82, 83, 84, 85, 86, 87, 88, 89, 90, 91, 92, 93, 94, 95, 96, 97, 98, 99, 100, 101, 102, 103, 104, 105, 106, 239, 240, 241, 242, 243, 244, 245, 246, 247, 248, 249, 250, 251, 252, 253, 254, 255, 256, 257, 258, 259, 260] (by decide +kernel) (by decide +kernel)) (goodIn_sub (fun _ h => List.mem_cons_of_mem _ (List.mem_append_left _ (List.mem_append_left _ (List.mem_append_right _ h)))) (by decide +kernel))
set_option maxRecDepth 20000 in
theorem gL_isFallen_X3_scoreWithout : GoodIn wsL_isFallen (wsV RL 57 RX3 yX3_scoreWithout wsX3_scoreWithout) := goodIn_app (goodIn_of _ (by decide +kernel)) ggL_isFallen_X3_scoreWithout
set_option maxRecDepth 20000 in
theorem ggL_isFallen_L_all : GoodIn wsL_isFallen wsL_all := goodIn_ca (goodIn_r _ [110, 111, 112, 113, 114, 115, 116, 1, 2, 3, 4, 5, 6, 7, 8, 9, 10, 11, 12, 117, 118, 119, 120, 49, 121, 66, 67, 68, 69, 70, 122, 123, 124, 125, 126, 127, 128, 129, 130, 131, 132, 133, 134, 48, 23, 24, 25, 26, 27, 28, 29, 30, 31, 50, 51, 52, 53, 54, 55, 56, 57, 58, 59, 60, 61, 62, 63, 64, 65, 71, 72, 73, 74, 75, 76, 77, 78, 79, 80, 81, 82, 83, 84, 85, 86, 87, 88, 89, 90, 91, 92, 93, 94, 95, 96, 97, 98, 99, 100, 101, 102, 103, 104, 105, 106, 135, 136, 137, 138, 139, 140, 141, 142, 21, 22, 143, 144, 145, 146, 147, 148, 149, 150, 37, 38, 39, 40, 151, 152, 153, 154, 155, 156, 157, 158, 159, 44, 45, 46, 47, 160, 161, 162, 163, 164, 239, 240, 241, 242, 243, 244, 245, 246, 247, 254, 255, 256, 257, 258, 259, 260, 248, 249, 250, 251, 252, 253] (by decide +kernel) (by decide +kernel)) (goodIn_sub (fun _ h => List.mem_cons_of_mem _ (List.mem_append_left _ (List.mem_append_left _ (List.mem_append_right _ h)))) (by decide +kernel))
set_option maxRecDepth 20000 in
theorem gL_isFallen_L_all : GoodIn wsL_isFallen (va_wsS RL 101 yL_all wsL_all) := goodIn_app (goodIn_of _ (by decide +kernel)) ggL_isFallen_L_all
set_option maxRecDepth 20000 in
theorem ggL_isFallen_L_act : GoodIn wsL_isFallen wsL_act := goodIn_ca (goodIn_ca (goodIn_ca (goodIn_r _ [167, 168, 169, 170, 171, 172, 173, 4, 174, 175, 176, 6, 177, 178, 179, 180, 21, 22, 181, 182, 183, 10, 184, 12, 29, 185, 186, 187, 188, 189, 190, 191, 192, 28, 30, 31, 193, 194, 195, 196, 17, 18, 19, 20, 7, 8, 9, 11, 197, 198, 199, 200, 27, 201, 202, 203, 204, 205, 206, 49, 207, 208, 209, 210, 211, 212, 213, 68, 214, 70, 155, 130, 106, 83, 84, 85, 215, 216, 217, 218, 219, 220, 221, 222, 223, 224, 225, 226, 139, 140, 141, 142, 121, 66, 67, 69, 227, 228, 229, 230, 231, 232, 233, 234, 235, 236, 237, 238, 239, 240, 241, 242, 243, 244, 245, 246, 247, 254, 255, 256, 257, 258, 259, 260] (by decide +kernel) (by decide +kernel)) (goodIn_sub (fun _ h => List.mem_cons_of_mem _ (List.mem_append_left _ (List.mem_append_right _ h))) (by decide +kernel))) (goodIn_sub (fun _ h => List.mem_cons_of_mem _ (List.mem_append_left _ (List.mem_append_left _ (List.mem_append_right _ h)))) (by decide +kernel))) (goodIn_sub (fun _ h => List.mem_cons_of_mem _ (List.mem_append_right _ h)) (by decide +kernel))
set_option maxRecDepth 20000 in
theorem gL_isFallen_L_act : GoodIn wsL_isFallen (va_wsS RL 105 yL_act wsL_act) := goodIn_app (goodIn_of _ (by decide +kernel)) ggL_isFallen_L_act
set_option maxRecDepth 20000 in
theorem ggL_isFallen_X3_score : GoodIn wsL_isFallen wsX3_score := goodIn_ca (goodIn_r _ [159, 6, 37, 38, 39, 4, 40, 21, 22, 23, 24, 25, 10, 26, 12, 27, 28, 29, 30, 31, 44, 45, 46, 47, 48, 49, 50, 51, 52, 53, 54, 55, 56, 57, 58, 59, 60, 61, 62, 63, 64, 65, 66, 67, 68, 69, 70, 71, 72, 73, 74, 75, 76, 77, 78, 79, 80, 81, 82, 83, 84, 85, 86, 87, 88, 89, 90, 91, 92, 93, 94, 95, 96, 97, 98, 99, 100, 101, 102, 103, 104, 105, 106, 239, 240, 241, 242, 243, 244, 245, 246, 247, 248, 249, 250, 251, 252, 253, 254, 255, 256, 257, 258, 259, 260] (by decide +kernel) (by decide +kernel)) (goodIn_sub (fun _ h => List.mem_cons_of_mem _ (List.mem_append_left _ (List.mem_append_left _ (List.mem_append_right _ h)))) (by decide +kernel))
set_option maxRecDepth 20000 in
theorem gL_isFallen_X3_score : GoodIn wsL_isFallen (wsV RL 54 RX3 yX3_score wsX3_score) := goodIn_app (goodIn_of _ (by decide +kernel)) ggL_isFallen_X3_score
theorem dL_isFallen_0 : decode cL_isFallen 0 = .ok (.iconst 0, 1) := by decide +kernel
theorem dL_isFallen_1 : decode cL_isFallen 1 = .ok (.istore_n 3, 1) := by decide +kernel
theorem dL_isFallen_2 : decode cL_isFallen 2 = .ok (.iconst 0, 1) := by decide +kernel
theorem dL_isFallen_3 : decode cL_isFallen 3 = .ok (.istore 4, 2) := by decide +kernel
theorem dL_isFallen_5 : decode cL_isFallen 5 = .ok (.iload 4, 2) := by decide +kernel
theorem dL_isFallen_7 : decode cL_isFallen 7 = .ok (.aload_n 0, 1) := by decide +kernel
theorem dL_isFallen_8 : decode cL_isFallen 8 = .ok (.invokevirtual 66, 3) := by decide +kernel
theorem dL_isFallen_11 : decode cL_isFallen 11 = .ok (.if_icmp .ge 27, 3) := by decide +kernel
theorem dL_isFallen_14 : decode cL_isFallen 14 = .ok (.iload_n 3, 1) := by decide +kernel
theorem dL_isFallen_15 : decode cL_isFallen 15 = .ok (.aload_n 1, 1) := by decide +kernel
theorem dL_isFallen_16 : decode cL_isFallen 16 = .ok (.iload 4, 2) := by decide +kernel
theorem dL_isFallen_18 : decode cL_isFallen 18 = .ok (.iaload, 1) := by decide +kernel
theorem dL_isFallen_19 : decode cL_isFallen 19 = .ok (.aload_n 1, 1) := by decide +kernel
theorem dL_isFallen_20 : decode cL_isFallen 20 = .ok (.iload_n 2, 1) := by decide +kernel
theorem dL_isFallen_21 : decode cL_isFallen 21 = .ok (.iaload, 1) := by decide +kernel
theorem dL_isFallen_22 : decode cL_isFallen 22 = .ok (.if_icmp .ne 7, 3) := by decide +kernel
theorem dL_isFallen_25 : decode cL_isFallen 25 = .ok (.iconst 1, 1) := by decide +kernel
theorem dL_isFallen_26 : decode cL_isFallen 26 = .ok (.goto 4, 3) := by decide +kernel
theorem dL_isFallen_29 : decode cL_isFallen 29 = .ok (.iconst 0, 1) := by decide +kernel
theorem dL_isFallen_30 : decode cL_isFallen 30 = .ok (.iadd, 1) := by decide +kernel
theorem dL_isFallen_31 : decode cL_isFallen 31 = .ok (.istore_n 3, 1) := by decide +kernel
theorem dL_isFallen_32 : decode cL_isFallen 32 = .ok (.iinc 4 1, 3) := by decide +kernel
theorem dL_isFallen_35 : decode cL_isFallen 35 = .ok (.goto (-30), 3) := by decide +kernel
theorem dL_isFallen_38 : decode cL_isFallen 38 = .ok (.iload_n 3, 1) := by decide +kernel
theorem dL_isFallen_39 : decode cL_isFallen 39 = .ok (.iconst 1, 1) := by decide +kernel
theorem dL_isFallen_40 : decode cL_isFallen 40 = .ok (.if_icmp .ne 11, 3) := by decide +kernel
theorem dL_isFallen_43 : decode cL_isFallen 43 = .ok (.aload_n 0, 1) := by decide +kernel
theorem dL_isFallen_44 : decode cL_isFallen 44 = .ok (.iload_n 2, 1) := by decide +kernel
theorem dL_isFallen_45 : decode cL_isFallen 45 = .ok (.invokevirtual 39, 3) := by decide +kernel
theorem dL_isFallen_48 : decode cL_isFallen 48 = .ok (.ifCond .ne 5, 3) := by decide +kernel
theorem dL_isFallen_51 : decode cL_isFallen 51 = .ok (.iconst 1, 1) := by decide +kernel
theorem dL_isFallen_52 : decode cL_isFallen 52 = .ok (.ireturn, 1) := by decide +kernel
theorem dL_isFallen_53 : decode cL_isFallen 53 = .ok (.aload_n 0, 1) := by decide +kernel
theorem dL_isFallen_54 : decode cL_isFallen 54 = .ok (.iconst 0, 1) := by decide +kernel
theorem dL_isFallen_55 : decode cL_isFallen 55 = .ok (.iload_n 2, 1) := by decide +kernel
theorem dL_isFallen_56 : decode cL_isFallen 56 = .ok (.invokevirtual 57, 3) := by decide +kernel
theorem dL_isFallen_59 : decode cL_isFallen 59 = .ok (.istore 4, 2) := by decide +kernel
theorem dL_isFallen_61 : decode cL_isFallen 61 = .ok (.aload_n 0, 1) := by decide +kernel
theorem dL_isFallen_62 : decode cL_isFallen 62 = .ok (.iconst 1, 1) := by decide +kernel
theorem dL_isFallen_63 : decode cL_isFallen 63 = .ok (.iload_n 2, 1) := by decide +kernel
theorem dL_isFallen_64 : decode cL_isFallen 64 = .ok (.invokevirtual 57, 3) := by decide +kernel
theorem dL_isFallen_67 : decode cL_isFallen 67 = .ok (.istore 5, 2) := by decide +kernel
theorem dL_isFallen_69 : decode cL_isFallen 69 = .ok (.aload_n 0, 1) := by decide +kernel
theorem dL_isFallen_70 : decode cL_isFallen 70 = .ok (.iconst 2, 1) := by decide +kernel
theorem dL_isFallen_71 : decode cL_isFallen 71 = .ok (.iload_n 2, 1) := by decide +kernel
theorem dL_isFallen_72 : decode cL_isFallen 72 = .ok (.invokevirtual 57, 3) := by decide +kernel
theorem dL_isFallen_75 : decode cL_isFallen 75 = .ok (.istore 6, 2) := by decide +kernel
theorem dL_isFallen_77 : decode cL_isFallen 77 = .ok (.aload_n 0, 1) := by decide +kernel
theorem dL_isFallen_78 : decode cL_isFallen 78 = .ok (.invokestatic 101, 3) := by decide +kernel
theorem dL_isFallen_81 : decode cL_isFallen 81 = .ok (.lstore 7, 2) := by decide +kernel
theorem dL_isFallen_83 : decode cL_isFallen 83 = .ok (.aload_n 0, 1) := by decide +kernel
theorem dL_isFallen_84 : decode cL_isFallen 84 = .ok (.iconst 1, 1) := by decide +kernel
theorem dL_isFallen_85 : decode cL_isFallen 85 = .ok (.aload_n 1, 1) := by decide +kernel
theorem dL_isFallen_86 : decode cL_isFallen 86 = .ok (.iload_n 2, 1) := by decide +kernel
theorem dL_isFallen_87 : decode cL_isFallen 87 = .ok (.iaload, 1) := by decide +kernel
theorem dL_isFallen_88 : decode cL_isFallen 88 = .ok (.iconst 0, 1) := by decide +kernel
theorem dL_isFallen_89 : decode cL_isFallen 89 = .ok (.invokestatic 105, 3) := by decide +kernel
theorem dL_isFallen_92 : decode cL_isFallen 92 = .ok (.ifCond .ne 60, 3) := by decide +kernel
theorem dL_isFallen_95 : decode cL_isFallen 95 = .ok (.aload_n 0, 1) := by decide +kernel
theorem dL_isFallen_96 : decode cL_isFallen 96 = .ok (.iconst 0, 1) := by decide +kernel
theorem dL_isFallen_97 : decode cL_isFallen 97 = .ok (.invokevirtual 54, 3) := by decide +kernel
theorem dL_isFallen_100 : decode cL_isFallen 100 = .ok (.iload 4, 2) := by decide +kernel
theorem dL_isFallen_102 : decode cL_isFallen 102 = .ok (.if_icmp .ne 50, 3) := by decide +kernel
theorem dL_isFallen_105 : decode cL_isFallen 105 = .ok (.aload_n 0, 1) := by decide +kernel
theorem dL_isFallen_106 : decode cL_isFallen 106 = .ok (.iconst 1, 1) := by decide +kernel
theorem dL_isFallen_107 : decode cL_isFallen 107 = .ok (.invokevirtual 54, 3) := by decide +kernel
theorem dL_isFallen_110 : decode cL_isFallen 110 = .ok (.iload 5, 2) := by decide +kernel
theorem dL_isFallen_112 : decode cL_isFallen 112 = .ok (.if_icmp .ne 40, 3) := by decide +kernel
theorem dL_isFallen_115 : decode cL_isFallen 115 = .ok (.aload_n 0, 1) := by decide +kernel
theorem dL_isFallen_116 : decode cL_isFallen 116 = .ok (.iconst 2, 1) := by decide +kernel
theorem dL_isFallen_117 : decode cL_isFallen 117 = .ok (.invokevirtual 54, 3) := by decide +kernel
theorem dL_isFallen_120 : decode cL_isFallen 120 = .ok (.iload 6, 2) := by decide +kernel
theorem dL_isFallen_122 : decode cL_isFallen 122 = .ok (.if_icmp .ne 30, 3) := by decide +kernel
theorem dL_isFallen_125 : decode cL_isFallen 125 = .ok (.aload_n 0, 1) := by decide +kernel
theorem dL_isFallen_126 : decode cL_isFallen 126 = .ok (.iconst 1, 1) := by decide +kernel
theorem dL_isFallen_127 : decode cL_isFallen 127 = .ok (.aload_n 1, 1) := by decide +kernel
theorem dL_isFallen_128 : decode cL_isFallen 128 = .ok (.iload_n 2, 1) := by decide +kernel
theorem dL_isFallen_129 : decode cL_isFallen 129 = .ok (.iaload, 1) := by decide +kernel
theorem dL_isFallen_130 : decode cL_isFallen 130 = .ok (.iconst 0, 1) := by decide +kernel
theorem dL_isFallen_131 : decode cL_isFallen 131 = .ok (.invokestatic 105, 3) := by decide +kernel
theorem dL_isFallen_134 : decode cL_isFallen 134 = .ok (.iconst 1, 1) := by decide +kernel
theorem dL_isFallen_135 : decode cL_isFallen 135 = .ok (.if_icmp .ne 17, 3) := by decide +kernel
theorem dL_isFallen_138 : decode cL_isFallen 138 = .ok (.aload_n 0, 1) := by decide +kernel
theorem dL_isFallen_139 : decode cL_isFallen 139 = .ok (.invokestatic 101, 3) := by decide +kernel
theorem dL_isFallen_142 : decode cL_isFallen 142 = .ok (.lload 7, 2) := by decide +kernel
theorem dL_isFallen_144 : decode cL_isFallen 144 = .ok (.lcmp, 1) := by decide +kernel
theorem dL_isFallen_145 : decode cL_isFallen 145 = .ok (.ifCond .ne 7, 3) := by decide +kernel
theorem dL_isFallen_148 : decode cL_isFallen 148 = .ok (.iconst 1, 1) := by decide +kernel
theorem dL_isFallen_149 : decode cL_isFallen 149 = .ok (.goto 4, 3) := by decide +kernel
theorem dL_isFallen_152 : decode cL_isFallen 152 = .ok (.iconst 0, 1) := by decide +kernel
theorem dL_isFallen_153 : decode cL_isFallen 153 = .ok (.ireturn, 1) := by decide +kernel
set_option maxRecDepth 20000 in
theorem ggL_isRefused_X3_facts : GoodIn wsL_isRefused wsX3_facts := goodIn_r _ [5, 6, 7, 8, 9, 10, 11, 12, 262, 263, 264, 265, 266, 267, 268, 269, 270] (by decide +kernel) (by decide +kernel)
set_option maxRecDepth 20000 in
theorem gL_isRefused_X3_facts : GoodIn wsL_isRefused (wsV RL 66 RX3 yX3_facts wsX3_facts) := goodIn_app (goodIn_of _ (by decide +kernel)) ggL_isRefused_X3_facts
set_option maxRecDepth 20000 in
theorem ggL_isRefused_X3_claims : GoodIn wsL_isRefused wsX3_claims := goodIn_r _ [16, 17, 18, 19, 20, 21, 22, 23, 262, 263, 264, 265, 266, 271, 272, 273, 274, 275, 276, 277] (by decide +kernel) (by decide +kernel)
set_option maxRecDepth 20000 in
theorem gL_isRefused_X3_claims : GoodIn wsL_isRefused (wsV RL 72 RX3 yX3_claims wsX3_claims) := goodIn_app (goodIn_of _ (by decide +kernel)) ggL_isRefused_X3_claims
set_option maxRecDepth 20000 in
theorem ggL_isRefused_X3_turn : GoodIn wsL_isRefused wsX3_turn := goodIn_r _ [27, 17, 28, 29, 30, 21, 31, 32, 262, 263, 264, 265, 266, 271, 272, 273, 274, 275, 276, 277] (by decide +kernel) (by decide +kernel)
set_option maxRecDepth 20000 in
theorem gL_isRefused_X3_turn : GoodIn wsL_isRefused (wsV RL 77 RX3 yX3_turn wsX3_turn) := goodIn_app (goodIn_of _ (by decide +kernel)) ggL_isRefused_X3_turn
set_option maxRecDepth 20000 in
theorem ggL_isRefused_X3_bank : GoodIn wsL_isRefused wsX3_bank := goodIn_ca (goodIn_r _ [36, 17, 37, 38, 39, 4, 40, 41, 42, 43, 44, 45, 21, 46, 47, 262, 263, 264, 265, 266, 271, 272, 273, 274, 275, 276, 277] (by decide +kernel) (by decide +kernel)) (goodIn_sub (fun _ h => List.mem_cons_of_mem _ (List.mem_append_left _ (List.mem_append_left _ (List.mem_append_right _ h)))) (by decide +kernel))
set_option maxRecDepth 20000 in
theorem gL_isRefused_X3_bank : GoodIn wsL_isRefused (wsV RL 45 RX3 yX3_bank wsX3_bank) := goodIn_app (goodIn_of _ (by decide +kernel)) ggL_isRefused_X3_bank
set_option maxRecDepth 20000 in
theorem ggL_isRefused_L_all : GoodIn wsL_isRefused wsL_all := goodIn_ca (goodIn_r _ [51, 52, 53, 54, 55, 56, 57, 1, 2, 3, 4, 5, 6, 7, 8, 9, 10, 11, 12, 13, 14, 15, 16, 17, 18, 19, 20, 21, 22, 23, 24, 25, 26, 27, 28, 29, 30, 31, 32, 58, 59, 60, 61, 62, 63, 64, 65, 66, 67, 68, 69, 70, 71, 72, 73, 74, 75, 76, 77, 78, 79, 80, 81, 82, 83, 84, 85, 86, 87, 88, 89, 90, 91, 92, 93, 94, 95, 96, 97, 98, 99, 100, 101, 102, 103, 104, 105, 106, 107, 108, 109, 110, 111, 112, 113, 114, 115, 116, 117, 118, 119, 120, 121, 122, 123, 124, 125, 126, 127, 128, 129, 130, 131, 41, 42, 132, 133, 134, 135, 33, 34, 35, 36, 37, 38, 39, 40, 43, 44, 45, 46, 47, 136, 137, 138, 139, 140, 141, 142, 143, 144, 145, 146, 147, 148, 262, 263, 264, 265, 266, 267, 268, 269, 270, 271, 272, 273, 274, 275, 276, 277, 278, 279, 280, 281, 282, 283] (by decide +kernel) (by decide +kernel)) (goodIn_sub (fun _ h => List.mem_cons_of_mem _ (List.mem_append_left _ (List.mem_append_left _ (List.mem_append_right _ h)))) (by decide +kernel))
set_option maxRecDepth 20000 in
theorem gL_isRefused_L_all : GoodIn wsL_isRefused (va_wsS RL 101 yL_all wsL_all) := goodIn_app (goodIn_of _ (by decide +kernel)) ggL_isRefused_L_all
set_option maxRecDepth 20000 in
theorem ggL_isRefused_L_act : GoodIn wsL_isRefused wsL_act := goodIn_ca (goodIn_ca (goodIn_ca (goodIn_r _ [151, 152, 153, 154, 155, 156, 157, 4, 158, 159, 160, 6, 161, 162, 163, 164, 41, 42, 165, 166, 167, 10, 168, 12, 69, 169, 170, 171, 172, 173, 174, 175, 176, 68, 70, 71, 177, 178, 179, 180, 181, 182, 183, 184, 7, 8, 9, 11, 185, 186, 187, 188, 67, 189, 190, 191, 192, 193, 194, 17, 195, 196, 197, 198, 199, 200, 201, 21, 202, 23, 47, 32, 123, 100, 101, 102, 203, 204, 205, 206, 207, 208, 209, 210, 211, 212, 213, 214, 128, 129, 130, 131, 18, 19, 20, 22, 215, 216, 217, 218, 219, 220, 221, 222, 223, 224, 225, 226, 262, 263, 264, 265, 266, 267, 268, 269, 270, 271, 272, 273, 274, 275, 276, 277] (by decide +kernel) (by decide +kernel)) (goodIn_sub (fun _ h => List.mem_cons_of_mem _ (List.mem_append_left _ (List.mem_append_right _ h))) (by decide +kernel))) (goodIn_sub (fun _ h => List.mem_cons_of_mem _ (List.mem_append_left _ (List.mem_append_left _ (List.mem_append_right _ h)))) (by decide +kernel))) (goodIn_sub (fun _ h => List.mem_cons_of_mem _ (List.mem_append_right _ h)) (by decide +kernel))
set_option maxRecDepth 20000 in
theorem gL_isRefused_L_act : GoodIn wsL_isRefused (va_wsS RL 105 yL_act wsL_act) := goodIn_app (goodIn_of _ (by decide +kernel)) ggL_isRefused_L_act
set_option maxRecDepth 20000 in
theorem ggL_isRefused_L_of : GoodIn wsL_isRefused wsL_of := goodIn_ca (goodIn_r _ [229, 152, 230, 231, 232, 4, 233, 6, 181, 182, 183, 184, 41, 42, 7, 8, 9, 10, 11, 12, 63, 64, 65, 66, 67, 68, 69, 70, 71, 234, 235, 236, 237, 238, 17, 128, 129, 130, 131, 18, 19, 20, 21, 22, 23, 239, 240, 241, 242, 123, 33, 34, 35, 36, 37, 38, 39, 40, 43, 44, 45, 46, 47, 124, 125, 126, 127, 62, 72, 73, 74, 75, 76, 77, 78, 79, 80, 81, 82, 83, 84, 85, 86, 87, 88, 89, 90, 91, 92, 93, 94, 95, 96, 97, 98, 99, 100, 101, 102, 103, 104, 105, 106, 107, 108, 109, 110, 111, 112, 113, 114, 132, 133, 134, 135, 243, 244, 245, 246, 247, 248, 249, 250, 136, 137, 138, 139, 140, 141, 142, 143, 115, 116, 117, 118, 119, 120, 121, 122, 251, 252, 253, 254, 255, 256, 257, 258, 259, 260, 261, 144, 145, 146, 147, 148, 262, 263, 264, 265, 266, 267, 268, 269, 270, 271, 272, 273, 274, 275, 276, 277, 278, 279, 280, 281, 282, 283] (by decide +kernel) (by decide +kernel)) (goodIn_sub (fun _ h => List.mem_cons_of_mem _ (List.mem_append_left _ (List.mem_append_left _ (List.mem_append_right _ h)))) (by decide +kernel))
set_option maxRecDepth 20000 in
theorem gL_isRefused_L_of : GoodIn wsL_isRefused (va_wsS RL 109 yL_of wsL_of) := goodIn_app (goodIn_of _ (by decide +kernel)) ggL_isRefused_L_of
theorem dL_isRefused_0 : decode cL_isRefused 0 = .ok (.iload_n 1, 1) := by decide +kernel
theorem dL_isRefused_1 : decode cL_isRefused 1 = .ok (.iconst 2, 1) := by decide +kernel
theorem dL_isRefused_2 : decode cL_isRefused 2 = .ok (.irem, 1) := by decide +kernel
theorem dL_isRefused_3 : decode cL_isRefused 3 = .ok (.ifCond .ne 7, 3) := by decide +kernel
theorem dL_isRefused_6 : decode cL_isRefused 6 = .ok (.iconst 1, 1) := by decide +kernel
theorem dL_isRefused_7 : decode cL_isRefused 7 = .ok (.goto 4, 3) := by decide +kernel
theorem dL_isRefused_10 : decode cL_isRefused 10 = .ok (.iconst 0, 1) := by decide +kernel
theorem dL_isRefused_11 : decode cL_isRefused 11 = .ok (.istore_n 2, 1) := by decide +kernel
theorem dL_isRefused_12 : decode cL_isRefused 12 = .ok (.iload_n 2, 1) := by decide +kernel
theorem dL_isRefused_13 : decode cL_isRefused 13 = .ok (.ifCond .eq 12, 3) := by decide +kernel
theorem dL_isRefused_16 : decode cL_isRefused 16 = .ok (.iconst (-1), 1) := by decide +kernel
theorem dL_isRefused_17 : decode cL_isRefused 17 = .ok (.iload_n 1, 1) := by decide +kernel
theorem dL_isRefused_18 : decode cL_isRefused 18 = .ok (.bipush 30, 2) := by decide +kernel
theorem dL_isRefused_20 : decode cL_isRefused 20 = .ok (.irem, 1) := by decide +kernel
theorem dL_isRefused_21 : decode cL_isRefused 21 = .ok (.isub, 1) := by decide +kernel
theorem dL_isRefused_22 : decode cL_isRefused 22 = .ok (.goto 10, 3) := by decide +kernel
theorem dL_isRefused_25 : decode cL_isRefused 25 = .ok (.bipush 6, 2) := by decide +kernel
theorem dL_isRefused_27 : decode cL_isRefused 27 = .ok (.iload_n 1, 1) := by decide +kernel
theorem dL_isRefused_28 : decode cL_isRefused 28 = .ok (.bipush 30, 2) := by decide +kernel
theorem dL_isRefused_30 : decode cL_isRefused 30 = .ok (.irem, 1) := by decide +kernel
theorem dL_isRefused_31 : decode cL_isRefused 31 = .ok (.iadd, 1) := by decide +kernel
theorem dL_isRefused_32 : decode cL_isRefused 32 = .ok (.istore_n 3, 1) := by decide +kernel
theorem dL_isRefused_33 : decode cL_isRefused 33 = .ok (.iload_n 2, 1) := by decide +kernel
theorem dL_isRefused_34 : decode cL_isRefused 34 = .ok (.ifCond .eq 12, 3) := by decide +kernel
theorem dL_isRefused_37 : decode cL_isRefused 37 = .ok (.iconst (-1), 1) := by decide +kernel
theorem dL_isRefused_38 : decode cL_isRefused 38 = .ok (.iload_n 1, 1) := by decide +kernel
theorem dL_isRefused_39 : decode cL_isRefused 39 = .ok (.bipush 30, 2) := by decide +kernel
theorem dL_isRefused_41 : decode cL_isRefused 41 = .ok (.irem, 1) := by decide +kernel
theorem dL_isRefused_42 : decode cL_isRefused 42 = .ok (.isub, 1) := by decide +kernel
theorem dL_isRefused_43 : decode cL_isRefused 43 = .ok (.goto 9, 3) := by decide +kernel
theorem dL_isRefused_46 : decode cL_isRefused 46 = .ok (.iconst 3, 1) := by decide +kernel
theorem dL_isRefused_47 : decode cL_isRefused 47 = .ok (.iload_n 1, 1) := by decide +kernel
theorem dL_isRefused_48 : decode cL_isRefused 48 = .ok (.bipush 30, 2) := by decide +kernel
theorem dL_isRefused_50 : decode cL_isRefused 50 = .ok (.irem, 1) := by decide +kernel
theorem dL_isRefused_51 : decode cL_isRefused 51 = .ok (.iadd, 1) := by decide +kernel
theorem dL_isRefused_52 : decode cL_isRefused 52 = .ok (.istore 4, 2) := by decide +kernel
theorem dL_isRefused_54 : decode cL_isRefused 54 = .ok (.iload_n 2, 1) := by decide +kernel
theorem dL_isRefused_55 : decode cL_isRefused 55 = .ok (.ifCond .eq 12, 3) := by decide +kernel
theorem dL_isRefused_58 : decode cL_isRefused 58 = .ok (.iconst (-1), 1) := by decide +kernel
theorem dL_isRefused_59 : decode cL_isRefused 59 = .ok (.iload_n 1, 1) := by decide +kernel
theorem dL_isRefused_60 : decode cL_isRefused 60 = .ok (.bipush 30, 2) := by decide +kernel
theorem dL_isRefused_62 : decode cL_isRefused 62 = .ok (.irem, 1) := by decide +kernel
theorem dL_isRefused_63 : decode cL_isRefused 63 = .ok (.isub, 1) := by decide +kernel
theorem dL_isRefused_64 : decode cL_isRefused 64 = .ok (.goto 12, 3) := by decide +kernel
theorem dL_isRefused_67 : decode cL_isRefused 67 = .ok (.aload_n 0, 1) := by decide +kernel
theorem dL_isRefused_68 : decode cL_isRefused 68 = .ok (.invokevirtual 66, 3) := by decide +kernel
theorem dL_isRefused_71 : decode cL_isRefused 71 = .ok (.iload_n 1, 1) := by decide +kernel
theorem dL_isRefused_72 : decode cL_isRefused 72 = .ok (.bipush 30, 2) := by decide +kernel
theorem dL_isRefused_74 : decode cL_isRefused 74 = .ok (.irem, 1) := by decide +kernel
theorem dL_isRefused_75 : decode cL_isRefused 75 = .ok (.iadd, 1) := by decide +kernel
theorem dL_isRefused_76 : decode cL_isRefused 76 = .ok (.istore 5, 2) := by decide +kernel
theorem dL_isRefused_78 : decode cL_isRefused 78 = .ok (.iload_n 2, 1) := by decide +kernel
theorem dL_isRefused_79 : decode cL_isRefused 79 = .ok (.ifCond .eq 12, 3) := by decide +kernel
theorem dL_isRefused_82 : decode cL_isRefused 82 = .ok (.iconst (-1), 1) := by decide +kernel
theorem dL_isRefused_83 : decode cL_isRefused 83 = .ok (.iload_n 1, 1) := by decide +kernel
theorem dL_isRefused_84 : decode cL_isRefused 84 = .ok (.bipush 30, 2) := by decide +kernel
theorem dL_isRefused_86 : decode cL_isRefused 86 = .ok (.irem, 1) := by decide +kernel
theorem dL_isRefused_87 : decode cL_isRefused 87 = .ok (.isub, 1) := by decide +kernel
theorem dL_isRefused_88 : decode cL_isRefused 88 = .ok (.goto 12, 3) := by decide +kernel
theorem dL_isRefused_91 : decode cL_isRefused 91 = .ok (.aload_n 0, 1) := by decide +kernel
theorem dL_isRefused_92 : decode cL_isRefused 92 = .ok (.invokevirtual 72, 3) := by decide +kernel
theorem dL_isRefused_95 : decode cL_isRefused 95 = .ok (.iload_n 1, 1) := by decide +kernel
theorem dL_isRefused_96 : decode cL_isRefused 96 = .ok (.bipush 30, 2) := by decide +kernel
theorem dL_isRefused_98 : decode cL_isRefused 98 = .ok (.irem, 1) := by decide +kernel
theorem dL_isRefused_99 : decode cL_isRefused 99 = .ok (.iadd, 1) := by decide +kernel
theorem dL_isRefused_100 : decode cL_isRefused 100 = .ok (.istore 6, 2) := by decide +kernel
theorem dL_isRefused_102 : decode cL_isRefused 102 = .ok (.aload_n 0, 1) := by decide +kernel
theorem dL_isRefused_103 : decode cL_isRefused 103 = .ok (.aload_n 0, 1) := by decide +kernel
theorem dL_isRefused_104 : decode cL_isRefused 104 = .ok (.invokevirtual 77, 3) := by decide +kernel
theorem dL_isRefused_107 : decode cL_isRefused 107 = .ok (.invokevirtual 45, 3) := by decide +kernel
theorem dL_isRefused_110 : decode cL_isRefused 110 = .ok (.istore 7, 2) := by decide +kernel
theorem dL_isRefused_112 : decode cL_isRefused 112 = .ok (.aload_n 0, 1) := by decide +kernel
theorem dL_isRefused_113 : decode cL_isRefused 113 = .ok (.invokestatic 101, 3) := by decide +kernel
theorem dL_isRefused_116 : decode cL_isRefused 116 = .ok (.lstore 8, 2) := by decide +kernel
theorem dL_isRefused_118 : decode cL_isRefused 118 = .ok (.aload_n 0, 1) := by decide +kernel
theorem dL_isRefused_119 : decode cL_isRefused 119 = .ok (.iconst 0, 1) := by decide +kernel
theorem dL_isRefused_120 : decode cL_isRefused 120 = .ok (.iload_n 3, 1) := by decide +kernel
theorem dL_isRefused_121 : decode cL_isRefused 121 = .ok (.iconst 0, 1) := by decide +kernel
theorem dL_isRefused_122 : decode cL_isRefused 122 = .ok (.invokestatic 105, 3) := by decide +kernel
theorem dL_isRefused_125 : decode cL_isRefused 125 = .ok (.sipush (-1021), 3) := by decide +kernel
theorem dL_isRefused_128 : decode cL_isRefused 128 = .ok (.if_icmp .ne 201, 3) := by decide +kernel
theorem dL_isRefused_131 : decode cL_isRefused 131 = .ok (.aload_n 0, 1) := by decide +kernel
theorem dL_isRefused_132 : decode cL_isRefused 132 = .ok (.iconst 1, 1) := by decide +kernel
theorem dL_isRefused_133 : decode cL_isRefused 133 = .ok (.iload_n 3, 1) := by decide +kernel
theorem dL_isRefused_134 : decode cL_isRefused 134 = .ok (.iconst 0, 1) := by decide +kernel
theorem dL_isRefused_135 : decode cL_isRefused 135 = .ok (.invokestatic 105, 3) := by decide +kernel
theorem dL_isRefused_138 : decode cL_isRefused 138 = .ok (.sipush (-1021), 3) := by decide +kernel
theorem dL_isRefused_141 : decode cL_isRefused 141 = .ok (.if_icmp .ne 188, 3) := by decide +kernel
theorem dL_isRefused_144 : decode cL_isRefused 144 = .ok (.aload_n 0, 1) := by decide +kernel
theorem dL_isRefused_145 : decode cL_isRefused 145 = .ok (.iconst 2, 1) := by decide +kernel
theorem dL_isRefused_146 : decode cL_isRefused 146 = .ok (.iload 5, 2) := by decide +kernel
theorem dL_isRefused_148 : decode cL_isRefused 148 = .ok (.iconst 0, 1) := by decide +kernel
theorem dL_isRefused_149 : decode cL_isRefused 149 = .ok (.invokestatic 105, 3) := by decide +kernel
theorem dL_isRefused_152 : decode cL_isRefused 152 = .ok (.sipush (-1021), 3) := by decide +kernel
theorem dL_isRefused_155 : decode cL_isRefused 155 = .ok (.if_icmp .ne 174, 3) := by decide +kernel
theorem dL_isRefused_158 : decode cL_isRefused 158 = .ok (.aload_n 0, 1) := by decide +kernel
theorem dL_isRefused_159 : decode cL_isRefused 159 = .ok (.iconst 3, 1) := by decide +kernel
theorem dL_isRefused_160 : decode cL_isRefused 160 = .ok (.iload_n 2, 1) := by decide +kernel
theorem dL_isRefused_161 : decode cL_isRefused 161 = .ok (.ifCond .eq 12, 3) := by decide +kernel
theorem dL_isRefused_164 : decode cL_isRefused 164 = .ok (.iconst (-1), 1) := by decide +kernel
theorem dL_isRefused_165 : decode cL_isRefused 165 = .ok (.iload_n 1, 1) := by decide +kernel
theorem dL_isRefused_166 : decode cL_isRefused 166 = .ok (.bipush 30, 2) := by decide +kernel
theorem dL_isRefused_168 : decode cL_isRefused 168 = .ok (.irem, 1) := by decide +kernel
theorem dL_isRefused_169 : decode cL_isRefused 169 = .ok (.isub, 1) := by decide +kernel
theorem dL_isRefused_170 : decode cL_isRefused 170 = .ok (.goto 14, 3) := by decide +kernel
theorem dL_isRefused_173 : decode cL_isRefused 173 = .ok (.iconst 1, 1) := by decide +kernel
theorem dL_isRefused_174 : decode cL_isRefused 174 = .ok (.aload_n 0, 1) := by decide +kernel
theorem dL_isRefused_175 : decode cL_isRefused 175 = .ok (.invokevirtual 66, 3) := by decide +kernel
theorem dL_isRefused_178 : decode cL_isRefused 178 = .ok (.iload_n 1, 1) := by decide +kernel
theorem dL_isRefused_179 : decode cL_isRefused 179 = .ok (.bipush 16, 2) := by decide +kernel
theorem dL_isRefused_181 : decode cL_isRefused 181 = .ok (.irem, 1) := by decide +kernel
theorem dL_isRefused_182 : decode cL_isRefused 182 = .ok (.iadd, 1) := by decide +kernel
theorem dL_isRefused_183 : decode cL_isRefused 183 = .ok (.ishl, 1) := by decide +kernel
theorem dL_isRefused_184 : decode cL_isRefused 184 = .ok (.iconst 5, 1) := by decide +kernel
theorem dL_isRefused_185 : decode cL_isRefused 185 = .ok (.invokestatic 105, 3) := by decide +kernel
theorem dL_isRefused_188 : decode cL_isRefused 188 = .ok (.sipush (-1022), 3) := by decide +kernel
theorem dL_isRefused_191 : decode cL_isRefused 191 = .ok (.if_icmp .ne 138, 3) := by decide +kernel
theorem dL_isRefused_194 : decode cL_isRefused 194 = .ok (.aload_n 0, 1) := by decide +kernel
theorem dL_isRefused_195 : decode cL_isRefused 195 = .ok (.iconst 3, 1) := by decide +kernel
theorem dL_isRefused_196 : decode cL_isRefused 196 = .ok (.iconst 0, 1) := by decide +kernel
theorem dL_isRefused_197 : decode cL_isRefused 197 = .ok (.iload_n 2, 1) := by decide +kernel
theorem dL_isRefused_198 : decode cL_isRefused 198 = .ok (.ifCond .eq 12, 3) := by decide +kernel
theorem dL_isRefused_201 : decode cL_isRefused 201 = .ok (.iconst 0, 1) := by decide +kernel
theorem dL_isRefused_202 : decode cL_isRefused 202 = .ok (.iload_n 1, 1) := by decide +kernel
theorem dL_isRefused_203 : decode cL_isRefused 203 = .ok (.bipush 30, 2) := by decide +kernel
theorem dL_isRefused_205 : decode cL_isRefused 205 = .ok (.irem, 1) := by decide +kernel
theorem dL_isRefused_206 : decode cL_isRefused 206 = .ok (.isub, 1) := by decide +kernel
theorem dL_isRefused_207 : decode cL_isRefused 207 = .ok (.goto 10, 3) := by decide +kernel
theorem dL_isRefused_210 : decode cL_isRefused 210 = .ok (.bipush 101, 2) := by decide +kernel
theorem dL_isRefused_212 : decode cL_isRefused 212 = .ok (.iload_n 1, 1) := by decide +kernel
theorem dL_isRefused_213 : decode cL_isRefused 213 = .ok (.bipush 30, 2) := by decide +kernel
theorem dL_isRefused_215 : decode cL_isRefused 215 = .ok (.irem, 1) := by decide +kernel
theorem dL_isRefused_216 : decode cL_isRefused 216 = .ok (.iadd, 1) := by decide +kernel
theorem dL_isRefused_217 : decode cL_isRefused 217 = .ok (.invokestatic 105, 3) := by decide +kernel
theorem dL_isRefused_220 : decode cL_isRefused 220 = .ok (.sipush (-1022), 3) := by decide +kernel
theorem dL_isRefused_223 : decode cL_isRefused 223 = .ok (.if_icmp .ne 106, 3) := by decide +kernel
theorem dL_isRefused_226 : decode cL_isRefused 226 = .ok (.aload_n 0, 1) := by decide +kernel
theorem dL_isRefused_227 : decode cL_isRefused 227 = .ok (.iconst 4, 1) := by decide +kernel
theorem dL_isRefused_228 : decode cL_isRefused 228 = .ok (.iload 6, 2) := by decide +kernel
theorem dL_isRefused_230 : decode cL_isRefused 230 = .ok (.iload 6, 2) := by decide +kernel
theorem dL_isRefused_232 : decode cL_isRefused 232 = .ok (.invokestatic 105, 3) := by decide +kernel
theorem dL_isRefused_235 : decode cL_isRefused 235 = .ok (.sipush (-1021), 3) := by decide +kernel
theorem dL_isRefused_238 : decode cL_isRefused 238 = .ok (.if_icmp .ne 91, 3) := by decide +kernel
theorem dL_isRefused_241 : decode cL_isRefused 241 = .ok (.aload_n 0, 1) := by decide +kernel
theorem dL_isRefused_242 : decode cL_isRefused 242 = .ok (.iconst 5, 1) := by decide +kernel
theorem dL_isRefused_243 : decode cL_isRefused 243 = .ok (.iload 6, 2) := by decide +kernel
theorem dL_isRefused_245 : decode cL_isRefused 245 = .ok (.iconst 0, 1) := by decide +kernel
theorem dL_isRefused_246 : decode cL_isRefused 246 = .ok (.invokestatic 105, 3) := by decide +kernel
theorem dL_isRefused_249 : decode cL_isRefused 249 = .ok (.sipush (-1021), 3) := by decide +kernel
theorem dL_isRefused_252 : decode cL_isRefused 252 = .ok (.if_icmp .ne 77, 3) := by decide +kernel
theorem dL_isRefused_255 : decode cL_isRefused 255 = .ok (.aload_n 0, 1) := by decide +kernel
theorem dL_isRefused_256 : decode cL_isRefused 256 = .ok (.invokevirtual 66, 3) := by decide +kernel
theorem dL_isRefused_259 : decode cL_isRefused 259 = .ok (.bipush 14, 2) := by decide +kernel
theorem dL_isRefused_261 : decode cL_isRefused 261 = .ok (.if_icmp .lt 19, 3) := by decide +kernel
theorem dL_isRefused_264 : decode cL_isRefused 264 = .ok (.aload_n 0, 1) := by decide +kernel
theorem dL_isRefused_265 : decode cL_isRefused 265 = .ok (.iconst 0, 1) := by decide +kernel
theorem dL_isRefused_266 : decode cL_isRefused 266 = .ok (.iload_n 1, 1) := by decide +kernel
theorem dL_isRefused_267 : decode cL_isRefused 267 = .ok (.bipush 6, 2) := by decide +kernel
theorem dL_isRefused_269 : decode cL_isRefused 269 = .ok (.irem, 1) := by decide +kernel
theorem dL_isRefused_270 : decode cL_isRefused 270 = .ok (.iconst 0, 1) := by decide +kernel
theorem dL_isRefused_271 : decode cL_isRefused 271 = .ok (.invokestatic 105, 3) := by decide +kernel
theorem dL_isRefused_274 : decode cL_isRefused 274 = .ok (.sipush (-1023), 3) := by decide +kernel
theorem dL_isRefused_277 : decode cL_isRefused 277 = .ok (.if_icmp .ne 52, 3) := by decide +kernel
theorem dL_isRefused_280 : decode cL_isRefused 280 = .ok (.aload_n 0, 1) := by decide +kernel
theorem dL_isRefused_281 : decode cL_isRefused 281 = .ok (.invokevirtual 72, 3) := by decide +kernel
theorem dL_isRefused_284 : decode cL_isRefused 284 = .ok (.bipush 16, 2) := by decide +kernel
theorem dL_isRefused_286 : decode cL_isRefused 286 = .ok (.if_icmp .lt 16, 3) := by decide +kernel
theorem dL_isRefused_289 : decode cL_isRefused 289 = .ok (.aload_n 0, 1) := by decide +kernel
theorem dL_isRefused_290 : decode cL_isRefused 290 = .ok (.iconst 3, 1) := by decide +kernel
theorem dL_isRefused_291 : decode cL_isRefused 291 = .ok (.iconst 0, 1) := by decide +kernel
theorem dL_isRefused_292 : decode cL_isRefused 292 = .ok (.iconst 1, 1) := by decide +kernel
theorem dL_isRefused_293 : decode cL_isRefused 293 = .ok (.invokestatic 105, 3) := by decide +kernel
theorem dL_isRefused_296 : decode cL_isRefused 296 = .ok (.sipush (-1023), 3) := by decide +kernel
theorem dL_isRefused_299 : decode cL_isRefused 299 = .ok (.if_icmp .ne 30, 3) := by decide +kernel
theorem dL_isRefused_302 : decode cL_isRefused 302 = .ok (.iload 7, 2) := by decide +kernel
theorem dL_isRefused_304 : decode cL_isRefused 304 = .ok (.bipush 99, 2) := by decide +kernel
theorem dL_isRefused_306 : decode cL_isRefused 306 = .ok (.if_icmp .gt 19, 3) := by decide +kernel
theorem dL_isRefused_309 : decode cL_isRefused 309 = .ok (.aload_n 0, 1) := by decide +kernel
theorem dL_isRefused_310 : decode cL_isRefused 310 = .ok (.iconst 3, 1) := by decide +kernel
theorem dL_isRefused_311 : decode cL_isRefused 311 = .ok (.iconst 0, 1) := by decide +kernel
theorem dL_isRefused_312 : decode cL_isRefused 312 = .ok (.iload 7, 2) := by decide +kernel
theorem dL_isRefused_314 : decode cL_isRefused 314 = .ok (.iconst 1, 1) := by decide +kernel
theorem dL_isRefused_315 : decode cL_isRefused 315 = .ok (.iadd, 1) := by decide +kernel
theorem dL_isRefused_316 : decode cL_isRefused 316 = .ok (.invokestatic 105, 3) := by decide +kernel
theorem dL_isRefused_319 : decode cL_isRefused 319 = .ok (.sipush (-1023), 3) := by decide +kernel
theorem dL_isRefused_322 : decode cL_isRefused 322 = .ok (.if_icmp .ne 7, 3) := by decide +kernel
theorem dL_isRefused_325 : decode cL_isRefused 325 = .ok (.iconst 1, 1) := by decide +kernel
theorem dL_isRefused_326 : decode cL_isRefused 326 = .ok (.goto 4, 3) := by decide +kernel
theorem dL_isRefused_329 : decode cL_isRefused 329 = .ok (.iconst 0, 1) := by decide +kernel
theorem dL_isRefused_330 : decode cL_isRefused 330 = .ok (.istore 10, 2) := by decide +kernel
theorem dL_isRefused_332 : decode cL_isRefused 332 = .ok (.iconst 0, 1) := by decide +kernel
theorem dL_isRefused_333 : decode cL_isRefused 333 = .ok (.istore 11, 2) := by decide +kernel
theorem dL_isRefused_335 : decode cL_isRefused 335 = .ok (.iload 11, 2) := by decide +kernel
theorem dL_isRefused_337 : decode cL_isRefused 337 = .ok (.bipush 9, 2) := by decide +kernel
theorem dL_isRefused_339 : decode cL_isRefused 339 = .ok (.if_icmp .ge 91, 3) := by decide +kernel
theorem dL_isRefused_342 : decode cL_isRefused 342 = .ok (.iload 10, 2) := by decide +kernel
theorem dL_isRefused_344 : decode cL_isRefused 344 = .ok (.ifCond .eq 86, 3) := by decide +kernel
theorem dL_isRefused_347 : decode cL_isRefused 347 = .ok (.aload_n 0, 1) := by decide +kernel
theorem dL_isRefused_348 : decode cL_isRefused 348 = .ok (.iload 11, 2) := by decide +kernel
theorem dL_isRefused_350 : decode cL_isRefused 350 = .ok (.iload 11, 2) := by decide +kernel
theorem dL_isRefused_352 : decode cL_isRefused 352 = .ok (.ifCond .ne 8, 3) := by decide +kernel
theorem dL_isRefused_355 : decode cL_isRefused 355 = .ok (.iload 5, 2) := by decide +kernel
theorem dL_isRefused_357 : decode cL_isRefused 357 = .ok (.goto 28, 3) := by decide +kernel
theorem dL_isRefused_360 : decode cL_isRefused 360 = .ok (.iload 11, 2) := by decide +kernel
theorem dL_isRefused_362 : decode cL_isRefused 362 = .ok (.iconst 1, 1) := by decide +kernel
theorem dL_isRefused_363 : decode cL_isRefused 363 = .ok (.if_icmp .eq 15, 3) := by decide +kernel
theorem dL_isRefused_366 : decode cL_isRefused 366 = .ok (.iload 11, 2) := by decide +kernel
theorem dL_isRefused_368 : decode cL_isRefused 368 = .ok (.iconst 3, 1) := by decide +kernel
theorem dL_isRefused_369 : decode cL_isRefused 369 = .ok (.if_icmp .eq 9, 3) := by decide +kernel
theorem dL_isRefused_372 : decode cL_isRefused 372 = .ok (.iload 11, 2) := by decide +kernel
theorem dL_isRefused_374 : decode cL_isRefused 374 = .ok (.iconst 4, 1) := by decide +kernel
theorem dL_isRefused_375 : decode cL_isRefused 375 = .ok (.if_icmp .ne 8, 3) := by decide +kernel
theorem dL_isRefused_378 : decode cL_isRefused 378 = .ok (.iload 6, 2) := by decide +kernel
theorem dL_isRefused_380 : decode cL_isRefused 380 = .ok (.goto 5, 3) := by decide +kernel
theorem dL_isRefused_383 : decode cL_isRefused 383 = .ok (.iload 4, 2) := by decide +kernel
theorem dL_isRefused_385 : decode cL_isRefused 385 = .ok (.iconst 0, 1) := by decide +kernel
theorem dL_isRefused_386 : decode cL_isRefused 386 = .ok (.invokestatic 109, 3) := by decide +kernel
theorem dL_isRefused_389 : decode cL_isRefused 389 = .ok (.sipush (-1021), 3) := by decide +kernel
theorem dL_isRefused_392 : decode cL_isRefused 392 = .ok (.if_icmp .ne 29, 3) := by decide +kernel
theorem dL_isRefused_395 : decode cL_isRefused 395 = .ok (.iload 11, 2) := by decide +kernel
theorem dL_isRefused_397 : decode cL_isRefused 397 = .ok (.bipush 6, 2) := by decide +kernel
theorem dL_isRefused_399 : decode cL_isRefused 399 = .ok (.if_icmp .ne 18, 3) := by decide +kernel
theorem dL_isRefused_402 : decode cL_isRefused 402 = .ok (.aload_n 0, 1) := by decide +kernel
theorem dL_isRefused_403 : decode cL_isRefused 403 = .ok (.bipush 6, 2) := by decide +kernel
theorem dL_isRefused_405 : decode cL_isRefused 405 = .ok (.iconst 0, 1) := by decide +kernel
theorem dL_isRefused_406 : decode cL_isRefused 406 = .ok (.iload 5, 2) := by decide +kernel
theorem dL_isRefused_408 : decode cL_isRefused 408 = .ok (.invokestatic 109, 3) := by decide +kernel
theorem dL_isRefused_411 : decode cL_isRefused 411 = .ok (.sipush (-1021), 3) := by decide +kernel
theorem dL_isRefused_414 : decode cL_isRefused 414 = .ok (.if_icmp .ne 7, 3) := by decide +kernel
theorem dL_isRefused_417 : decode cL_isRefused 417 = .ok (.iconst 1, 1) := by decide +kernel
theorem dL_isRefused_418 : decode cL_isRefused 418 = .ok (.goto 4, 3) := by decide +kernel
theorem dL_isRefused_421 : decode cL_isRefused 421 = .ok (.iconst 0, 1) := by decide +kernel
theorem dL_isRefused_422 : decode cL_isRefused 422 = .ok (.istore 10, 2) := by decide +kernel
theorem dL_isRefused_424 : decode cL_isRefused 424 = .ok (.iinc 11 1, 3) := by decide +kernel
theorem dL_isRefused_427 : decode cL_isRefused 427 = .ok (.goto (-92), 3) := by decide +kernel
theorem dL_isRefused_430 : decode cL_isRefused 430 = .ok (.iconst 0, 1) := by decide +kernel
theorem dL_isRefused_431 : decode cL_isRefused 431 = .ok (.istore 11, 2) := by decide +kernel
theorem dL_isRefused_433 : decode cL_isRefused 433 = .ok (.iload 11, 2) := by decide +kernel
theorem dL_isRefused_435 : decode cL_isRefused 435 = .ok (.aload_n 0, 1) := by decide +kernel
theorem dL_isRefused_436 : decode cL_isRefused 436 = .ok (.invokevirtual 72, 3) := by decide +kernel
theorem dL_isRefused_439 : decode cL_isRefused 439 = .ok (.if_icmp .ge 81, 3) := by decide +kernel
theorem dL_isRefused_442 : decode cL_isRefused 442 = .ok (.iload 10, 2) := by decide +kernel
theorem dL_isRefused_444 : decode cL_isRefused 444 = .ok (.ifCond .eq 76, 3) := by decide +kernel
theorem dL_isRefused_447 : decode cL_isRefused 447 = .ok (.aload_n 0, 1) := by decide +kernel
theorem dL_isRefused_448 : decode cL_isRefused 448 = .ok (.iconst 4, 1) := by decide +kernel
theorem dL_isRefused_449 : decode cL_isRefused 449 = .ok (.iload 11, 2) := by decide +kernel
theorem dL_isRefused_451 : decode cL_isRefused 451 = .ok (.iload 6, 2) := by decide +kernel
theorem dL_isRefused_453 : decode cL_isRefused 453 = .ok (.invokestatic 105, 3) := by decide +kernel
theorem dL_isRefused_456 : decode cL_isRefused 456 = .ok (.sipush (-1021), 3) := by decide +kernel
theorem dL_isRefused_459 : decode cL_isRefused 459 = .ok (.if_icmp .ne 52, 3) := by decide +kernel
theorem dL_isRefused_462 : decode cL_isRefused 462 = .ok (.aload_n 0, 1) := by decide +kernel
theorem dL_isRefused_463 : decode cL_isRefused 463 = .ok (.iconst 5, 1) := by decide +kernel
theorem dL_isRefused_464 : decode cL_isRefused 464 = .ok (.iload 11, 2) := by decide +kernel
theorem dL_isRefused_466 : decode cL_isRefused 466 = .ok (.iload 6, 2) := by decide +kernel
theorem dL_isRefused_468 : decode cL_isRefused 468 = .ok (.invokestatic 105, 3) := by decide +kernel
theorem dL_isRefused_471 : decode cL_isRefused 471 = .ok (.sipush (-1021), 3) := by decide +kernel
theorem dL_isRefused_474 : decode cL_isRefused 474 = .ok (.if_icmp .ne 37, 3) := by decide +kernel
theorem dL_isRefused_477 : decode cL_isRefused 477 = .ok (.aload_n 0, 1) := by decide +kernel
theorem dL_isRefused_478 : decode cL_isRefused 478 = .ok (.iconst 4, 1) := by decide +kernel
theorem dL_isRefused_479 : decode cL_isRefused 479 = .ok (.iload 11, 2) := by decide +kernel
theorem dL_isRefused_481 : decode cL_isRefused 481 = .ok (.iload 11, 2) := by decide +kernel
theorem dL_isRefused_483 : decode cL_isRefused 483 = .ok (.invokestatic 105, 3) := by decide +kernel
theorem dL_isRefused_486 : decode cL_isRefused 486 = .ok (.sipush (-1022), 3) := by decide +kernel
theorem dL_isRefused_489 : decode cL_isRefused 489 = .ok (.if_icmp .ne 22, 3) := by decide +kernel
theorem dL_isRefused_492 : decode cL_isRefused 492 = .ok (.aload_n 0, 1) := by decide +kernel
theorem dL_isRefused_493 : decode cL_isRefused 493 = .ok (.iconst 5, 1) := by decide +kernel
theorem dL_isRefused_494 : decode cL_isRefused 494 = .ok (.iload 11, 2) := by decide +kernel
theorem dL_isRefused_496 : decode cL_isRefused 496 = .ok (.iload 11, 2) := by decide +kernel
theorem dL_isRefused_498 : decode cL_isRefused 498 = .ok (.invokestatic 105, 3) := by decide +kernel
theorem dL_isRefused_501 : decode cL_isRefused 501 = .ok (.sipush (-1022), 3) := by decide +kernel
theorem dL_isRefused_504 : decode cL_isRefused 504 = .ok (.if_icmp .ne 7, 3) := by decide +kernel
theorem dL_isRefused_507 : decode cL_isRefused 507 = .ok (.iconst 1, 1) := by decide +kernel
theorem dL_isRefused_508 : decode cL_isRefused 508 = .ok (.goto 4, 3) := by decide +kernel
theorem dL_isRefused_511 : decode cL_isRefused 511 = .ok (.iconst 0, 1) := by decide +kernel
theorem dL_isRefused_512 : decode cL_isRefused 512 = .ok (.istore 10, 2) := by decide +kernel
theorem dL_isRefused_514 : decode cL_isRefused 514 = .ok (.iinc 11 1, 3) := by decide +kernel
theorem dL_isRefused_517 : decode cL_isRefused 517 = .ok (.goto (-84), 3) := by decide +kernel
theorem dL_isRefused_520 : decode cL_isRefused 520 = .ok (.iload 10, 2) := by decide +kernel
theorem dL_isRefused_522 : decode cL_isRefused 522 = .ok (.ifCond .eq 17, 3) := by decide +kernel
theorem dL_isRefused_525 : decode cL_isRefused 525 = .ok (.aload_n 0, 1) := by decide +kernel
theorem dL_isRefused_526 : decode cL_isRefused 526 = .ok (.invokestatic 101, 3) := by decide +kernel
theorem dL_isRefused_529 : decode cL_isRefused 529 = .ok (.lload 8, 2) := by decide +kernel
theorem dL_isRefused_531 : decode cL_isRefused 531 = .ok (.lcmp, 1) := by decide +kernel
theorem dL_isRefused_532 : decode cL_isRefused 532 = .ok (.ifCond .ne 7, 3) := by decide +kernel
theorem dL_isRefused_535 : decode cL_isRefused 535 = .ok (.iconst 1, 1) := by decide +kernel
theorem dL_isRefused_536 : decode cL_isRefused 536 = .ok (.goto 4, 3) := by decide +kernel
theorem dL_isRefused_539 : decode cL_isRefused 539 = .ok (.iconst 0, 1) := by decide +kernel
theorem dL_isRefused_540 : decode cL_isRefused 540 = .ok (.ireturn, 1) := by decide +kernel
