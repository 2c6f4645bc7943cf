theorem goodIn_c1 {big l : List Cond} {c : Cond} (hc : GoodIn big [c]) (h : GoodIn big l) : GoodIn big (c :: l) := fun w hw => (List.mem_cons.mp hw).elim (fun e => hc w (List.mem_cons.mpr (Or.inl e))) (h w)
set_option maxRecDepth 100000 in
theorem ggL_law_X3_init : GoodIn wsL_law wsX3_init := goodIn_r _ [6, 7, 8, 9, 10, 11, 12, 13, 14, 15, 16, 17, 18, 19, 20, 21, 3, 22, 23, 24, 25, 26, 27, 28, 29, 30, 31, 32, 33, 34, 35, 36, 37, 38, 39, 40, 41, 42, 43, 44, 45, 46, 47, 48, 49, 50, 51, 52, 53, 54, 55, 56, 350, 351, 352, 353, 345, 346, 347, 348, 349, 354, 355, 356, 357, 358, 359, 360, 361, 362, 363, 364, 365, 366] (by decide +kernel) (by decide +kernel)
set_option maxRecDepth 100000 in
theorem gL_law_X3_init : GoodIn wsL_law (wsX3_init) := ggL_law_X3_init
set_option maxRecDepth 100000 in
theorem gq_L_isRefused_c : GoodIn wsL_law [.code yL_isRefused cL_isRefused 12 (some .boolean)] := goodIn_r _ [60] (by decide +kernel) (by decide +kernel)
set_option maxRecDepth 100000 in
theorem gq_L_isRefused_r1 : GoodIn wsL_law wsL_isRefused_r1 := goodIn_r _ [61, 62, 63, 2, 64, 13, 65, 66, 67, 12, 68, 29, 69, 70, 71, 72, 17, 73, 74, 75, 16, 76, 41, 77] (by decide +kernel) (by decide +kernel)
set_option maxRecDepth 100000 in
theorem gq_L_isRefused_r2 : GoodIn wsL_law wsL_isRefused_r2 := goodIn_r _ [78, 79, 80, 81, 82, 83, 84, 42, 85, 86, 87, 88, 89, 90, 91, 92, 93, 94, 95, 96, 97, 98, 40, 99] (by decide +kernel) (by decide +kernel)
set_option maxRecDepth 100000 in
theorem gq_L_isRefused_r3 : GoodIn wsL_law wsL_isRefused_r3 := goodIn_r _ [100, 59, 101, 102, 103, 104, 105, 106, 107, 108, 109, 110, 111, 21, 112, 113, 114, 115, 30, 31, 28, 116, 117, 118] (by decide +kernel) (by decide +kernel)
set_option maxRecDepth 100000 in
theorem gq_L_isRefused_r4 : GoodIn wsL_law wsL_isRefused_r4 := goodIn_r _ [119, 120, 20, 121, 51, 53, 52, 122, 123, 124, 125, 54, 55, 56, 126, 127, 128, 129, 130, 131, 132, 133, 134, 135] (by decide +kernel) (by decide +kernel)
set_option maxRecDepth 100000 in
theorem gq_L_isRefused_r5 : GoodIn wsL_law wsL_isRefused_r5 := goodIn_r _ [136, 137, 138, 37, 38, 39, 139, 140, 141, 142, 143, 144, 145, 146, 147, 148, 149, 150, 151, 152, 153, 154, 155, 156] (by decide +kernel) (by decide +kernel)
set_option maxRecDepth 100000 in
theorem gq_L_isRefused_r6 : GoodIn wsL_law wsL_isRefused_r6 := goodIn_r _ [157, 158, 36, 159, 160, 161, 162, 163, 164, 165, 166, 167, 168, 169, 170, 171, 172, 173, 174, 175, 176, 177, 178, 179] (by decide +kernel) (by decide +kernel)
set_option maxRecDepth 100000 in
theorem gq_L_isRefused_r7 : GoodIn wsL_law wsL_isRefused_r7 := goodIn_r _ [180, 181, 182, 22, 183, 184, 185, 186, 187, 188, 189, 190, 191, 192, 193, 194, 195, 196, 197, 198, 199, 200, 201, 202] (by decide +kernel) (by decide +kernel)
set_option maxRecDepth 100000 in
theorem gq_L_isRefused_r8 : GoodIn wsL_law wsL_isRefused_r8 := goodIn_r _ [203, 204, 205, 206, 207, 208, 209, 210, 211, 212, 213, 214, 215, 216, 217, 218, 219, 220, 221, 222, 223, 224, 225, 226] (by decide +kernel) (by decide +kernel)
set_option maxRecDepth 100000 in
theorem gq_L_isRefused_r9 : GoodIn wsL_law wsL_isRefused_r9 := goodIn_r _ [227, 228, 229, 230, 231, 232, 233, 234, 235, 236, 237, 238, 239, 240, 241, 242, 243, 244, 245, 246, 247, 248, 249, 250] (by decide +kernel) (by decide +kernel)
set_option maxRecDepth 100000 in
theorem gq_L_isRefused_r10 : GoodIn wsL_law wsL_isRefused_r10 := goodIn_r _ [251, 252, 253, 254, 255, 256, 257, 258, 259, 260, 261, 262, 263, 264, 265, 266, 267, 268, 269, 270, 271, 272, 273, 274] (by decide +kernel) (by decide +kernel)
set_option maxRecDepth 100000 in
theorem gq_L_isRefused_r11 : GoodIn wsL_law wsL_isRefused_r11 := goodIn_r _ [275, 276, 277, 278, 279, 280, 281, 282, 283, 284, 285, 286, 287, 288, 289, 290, 291, 292, 293, 294, 295] (by decide +kernel) (by decide +kernel)
set_option maxRecDepth 100000 in
theorem gq_wsX30 : GoodIn wsL_law wsX30 := goodIn_r _ [345, 346, 347, 348, 349] (by decide +kernel) (by decide +kernel)
set_option maxRecDepth 100000 in
theorem gq_wsX10 : GoodIn wsL_law wsX10 := goodIn_r _ [350, 351, 352, 353] (by decide +kernel) (by decide +kernel)
set_option maxRecDepth 100000 in
theorem gq_wsX00 : GoodIn wsL_law wsX00 := goodIn_r _ [354, 355, 356, 357, 358, 359, 360] (by decide +kernel) (by decide +kernel)
set_option maxRecDepth 100000 in
theorem gq_wsX20 : GoodIn wsL_law wsX20 := goodIn_r _ [361, 362, 363, 364, 365, 366] (by decide +kernel) (by decide +kernel)
set_option maxRecDepth 100000 in
theorem ggL_law_L_isRefused : GoodIn wsL_law wsL_isRefused := goodIn_c1 gq_L_isRefused_c (goodIn_app (goodIn_app (goodIn_app (goodIn_app (goodIn_app (goodIn_app (goodIn_app (goodIn_app gq_L_isRefused_r1 (goodIn_app gq_L_isRefused_r2 (goodIn_app gq_L_isRefused_r3 (goodIn_app gq_L_isRefused_r4 (goodIn_app gq_L_isRefused_r5 (goodIn_app gq_L_isRefused_r6 (goodIn_app gq_L_isRefused_r7 (goodIn_app gq_L_isRefused_r8 (goodIn_app gq_L_isRefused_r9 (goodIn_app gq_L_isRefused_r10 gq_L_isRefused_r11)))))))))) gq_wsX30) gq_wsX10) gq_wsX00) gq_wsX20) (goodIn_sub (fun _ h => List.mem_append_left _ (List.mem_append_left _ (List.mem_append_right _ h))) (by decide +kernel))) (goodIn_sub (fun _ h => List.mem_append_left _ (List.mem_append_right _ h)) (by decide +kernel))) (goodIn_sub (fun _ h => List.mem_append_right _ h) (by decide +kernel)))
set_option maxRecDepth 100000 in
theorem gL_law_L_isRefused : GoodIn wsL_law (va_wsS RL 116 yL_isRefused wsL_isRefused) := goodIn_app (goodIn_of _ (by decide +kernel)) ggL_law_L_isRefused
set_option maxRecDepth 100000 in
theorem gq_L_areScores_c : GoodIn wsL_law [.code yL_areScores cL_areScores 9 (some .boolean)] := goodIn_r _ [298] (by decide +kernel) (by decide +kernel)
set_option maxRecDepth 100000 in
theorem gq_L_areScores_r1 : GoodIn wsL_law wsL_areScores_r1 := goodIn_r _ [299, 300, 59, 301, 69, 70, 71, 2, 72, 17, 73, 74, 75, 16, 76, 41, 159, 160, 161, 162, 21, 13, 163, 164] (by decide +kernel) (by decide +kernel)
set_option maxRecDepth 100000 in
theorem gq_L_areScores_r2 : GoodIn wsL_law wsL_areScores_r2 := goodIn_r _ [165, 166, 93, 94, 112, 113, 114, 12, 115, 29, 30, 31, 28, 116, 117, 118, 119, 120, 20, 121, 51, 53, 52, 122] (by decide +kernel) (by decide +kernel)
set_option maxRecDepth 100000 in
theorem gq_L_areScores_r3 : GoodIn wsL_law wsL_areScores_r3 := goodIn_r _ [123, 124, 125, 54, 55, 56, 126, 127, 128, 129, 130, 131, 132, 133, 134, 135, 136, 137, 138, 37, 38, 39, 139, 140] (by decide +kernel) (by decide +kernel)
set_option maxRecDepth 100000 in
theorem gq_L_areScores_r4 : GoodIn wsL_law wsL_areScores_r4 := goodIn_r _ [141, 142, 143, 144, 145, 146, 147, 148, 149, 150, 167, 168, 169, 170, 269, 270, 271, 272, 273, 274, 275, 276, 36, 171] (by decide +kernel) (by decide +kernel)
set_option maxRecDepth 100000 in
theorem gq_L_areScores_r5 : GoodIn wsL_law wsL_areScores_r5 := goodIn_r _ [172, 173, 174, 89, 90, 91, 92, 175, 176, 177, 178, 151, 152, 153, 154, 155, 156, 157, 158, 108, 109, 110, 111] (by decide +kernel) (by decide +kernel)
set_option maxRecDepth 100000 in
theorem ggL_law_L_areScores : GoodIn wsL_law wsL_areScores := goodIn_c1 gq_L_areScores_c (goodIn_app (goodIn_app (goodIn_app (goodIn_app (goodIn_app (goodIn_app gq_L_areScores_r1 (goodIn_app gq_L_areScores_r2 (goodIn_app gq_L_areScores_r3 (goodIn_app gq_L_areScores_r4 gq_L_areScores_r5)))) gq_wsX30) gq_wsX00) gq_wsX10) gq_wsX20) (goodIn_sub (fun _ h => List.mem_append_left _ (List.mem_append_left _ (List.mem_append_right _ h))) (by decide +kernel)))
set_option maxRecDepth 100000 in
theorem gL_law_L_areScores : GoodIn wsL_law (va_wsS RL 120 yL_areScores wsL_areScores) := goodIn_app (goodIn_of _ (by decide +kernel)) ggL_law_L_areScores
set_option maxRecDepth 100000 in
theorem gq_L_areKeys_c : GoodIn wsL_law [.code yL_areKeys cL_areKeys 7 (some .boolean)] := goodIn_r _ [304] (by decide +kernel) (by decide +kernel)
set_option maxRecDepth 100000 in
theorem gq_L_areKeys_r1 : GoodIn wsL_law wsL_areKeys_r1 := goodIn_r _ [292, 293, 294, 2, 295, 13, 89, 90, 91, 92, 93, 94, 112, 113, 114, 12, 115, 29, 30, 31, 28, 116, 117, 268] (by decide +kernel) (by decide +kernel)
set_option maxRecDepth 100000 in
theorem gq_L_areKeys_r2 : GoodIn wsL_law wsL_areKeys_r2 := goodIn_r _ [289, 290, 291, 175, 176, 177, 178, 21, 17, 118, 119, 120, 20, 121, 51, 53, 52, 122, 123, 124, 125, 54, 55, 56] (by decide +kernel) (by decide +kernel)
set_option maxRecDepth 100000 in
theorem gq_L_areKeys_r3 : GoodIn wsL_law wsL_areKeys_r3 := goodIn_r _ [126, 74, 75, 16, 76, 41, 127, 128, 129, 130, 131, 132, 133, 134, 135, 136, 137, 138, 37, 38, 39, 139, 140, 141] (by decide +kernel) (by decide +kernel)
set_option maxRecDepth 100000 in
theorem gq_L_areKeys_r4 : GoodIn wsL_law wsL_areKeys_r4 := goodIn_r _ [142, 143, 144, 145, 146, 147, 148, 149, 150, 151, 152, 153, 154, 155, 156, 157, 158, 36, 305, 306, 59, 307, 61, 62] (by decide +kernel) (by decide +kernel)
set_option maxRecDepth 100000 in
theorem gq_L_areKeys_r5 : GoodIn wsL_law wsL_areKeys_r5 := goodIn_r _ [63, 64, 65, 66, 67, 68, 264, 265, 266, 267, 215, 216, 217, 218, 285, 286, 287, 288, 171, 172, 173, 174] (by decide +kernel) (by decide +kernel)
set_option maxRecDepth 100000 in
theorem ggL_law_L_areKeys : GoodIn wsL_law wsL_areKeys := goodIn_c1 gq_L_areKeys_c (goodIn_app (goodIn_app (goodIn_app (goodIn_app (goodIn_app (goodIn_app gq_L_areKeys_r1 (goodIn_app gq_L_areKeys_r2 (goodIn_app gq_L_areKeys_r3 (goodIn_app gq_L_areKeys_r4 gq_L_areKeys_r5)))) gq_wsX30) gq_wsX10) gq_wsX20) gq_wsX00) (goodIn_sub (fun _ h => List.mem_append_left _ (List.mem_append_left _ (List.mem_append_right _ h))) (by decide +kernel)))
set_option maxRecDepth 100000 in
theorem gL_law_L_areKeys : GoodIn wsL_law (va_wsS RL 124 yL_areKeys wsL_areKeys) := goodIn_app (goodIn_of _ (by decide +kernel)) ggL_law_L_areKeys
set_option maxRecDepth 100000 in
theorem ggL_law_L_dice : GoodIn wsL_law wsL_dice := goodIn_r _ [310, 311, 312] (by decide +kernel) (by decide +kernel)
set_option maxRecDepth 100000 in
theorem gL_law_L_dice : GoodIn wsL_law (va_wsS RL 127 yL_dice wsL_dice) := goodIn_app (goodIn_of _ (by decide +kernel)) ggL_law_L_dice
set_option maxRecDepth 100000 in
theorem ggL_law_X3_facts : GoodIn wsL_law wsX3_facts := goodIn_r _ [64, 13, 65, 66, 67, 12, 68, 29, 345, 346, 347, 348, 349, 350, 351, 352, 353] (by decide +kernel) (by decide +kernel)
set_option maxRecDepth 100000 in
theorem gL_law_X3_facts : GoodIn wsL_law (wsV RL 66 RX3 yX3_facts wsX3_facts) := goodIn_app (goodIn_of _ (by decide +kernel)) ggL_law_X3_facts
set_option maxRecDepth 100000 in
theorem ggL_law_X3_claims : GoodIn wsL_law wsX3_claims := goodIn_r _ [72, 17, 73, 74, 75, 16, 76, 41, 345, 346, 347, 348, 349, 354, 355, 356, 357, 358, 359, 360] (by decide +kernel) (by decide +kernel)
set_option maxRecDepth 100000 in
theorem gL_law_X3_claims : GoodIn wsL_law (wsV RL 72 RX3 yX3_claims wsX3_claims) := goodIn_app (goodIn_of _ (by decide +kernel)) ggL_law_X3_claims
set_option maxRecDepth 100000 in
theorem gq_L_act_c : GoodIn wsL_law [.codeWith yL_act cL_act 5 (some .int) [(0, 104, 105, 33), (0, 104, 111, 35), (0, 104, 117, 37)]] := goodIn_r _ [185] (by decide +kernel) (by decide +kernel)
set_option maxRecDepth 100000 in
theorem gq_L_act_r1 : GoodIn wsL_law wsL_act_r1 := goodIn_r _ [186, 187, 188, 189, 190, 191, 2, 192, 193, 194, 13, 195, 196, 197, 198, 93, 94, 199, 200, 201, 12, 202, 29, 28] (by decide +kernel) (by decide +kernel)
set_option maxRecDepth 100000 in
theorem gq_L_act_r2 : GoodIn wsL_law wsL_act_r2 := goodIn_r _ [203, 204, 205, 206, 207, 208, 209, 210, 31, 116, 117, 211, 212, 213, 214, 215, 216, 217, 218, 65, 66, 67, 68, 219] (by decide +kernel) (by decide +kernel)
set_option maxRecDepth 100000 in
theorem gq_L_act_r3 : GoodIn wsL_law wsL_act_r3 := goodIn_r _ [220, 221, 222, 30, 223, 224, 225, 226, 227, 228, 17, 229, 230, 231, 232, 233, 234, 235, 16, 236, 41, 40, 42, 36] (by decide +kernel) (by decide +kernel)
set_option maxRecDepth 100000 in
theorem gq_L_act_r4 : GoodIn wsL_law wsL_act_r4 := goodIn_r _ [37, 38, 39, 237, 238, 239, 240, 241, 242, 243, 244, 245, 246, 247, 248, 163, 164, 165, 166, 73, 74, 75, 76, 249] (by decide +kernel) (by decide +kernel)
set_option maxRecDepth 100000 in
theorem gq_L_act_r5 : GoodIn wsL_law wsL_act_r5 := goodIn_r _ [250, 251, 252, 253, 254, 255, 256, 257, 258, 259, 260] (by decide +kernel) (by decide +kernel)
set_option maxRecDepth 100000 in
theorem ggL_law_L_act : GoodIn wsL_law wsL_act := goodIn_c1 gq_L_act_c (goodIn_app (goodIn_app (goodIn_app (goodIn_app (goodIn_app (goodIn_app (goodIn_app gq_L_act_r1 (goodIn_app gq_L_act_r2 (goodIn_app gq_L_act_r3 (goodIn_app gq_L_act_r4 gq_L_act_r5)))) gq_wsX30) gq_wsX10) gq_wsX00) (goodIn_sub (fun _ h => List.mem_append_left _ (List.mem_append_right _ h)) (by decide +kernel))) (goodIn_sub (fun _ h => List.mem_append_left _ (List.mem_append_left _ (List.mem_append_right _ h))) (by decide +kernel))) (goodIn_sub (fun _ h => List.mem_append_right _ h) (by decide +kernel)))
set_option maxRecDepth 100000 in
theorem gL_law_L_act : GoodIn wsL_law (va_wsS RL 105 yL_act wsL_act) := goodIn_app (goodIn_of _ (by decide +kernel)) ggL_law_L_act
set_option maxRecDepth 100000 in
theorem gq_L_areFacts_c : GoodIn wsL_law [.code yL_areFacts cL_areFacts 5 (some .boolean)] := goodIn_r _ [338] (by decide +kernel) (by decide +kernel)
set_option maxRecDepth 100000 in
theorem gq_L_areFacts_r1 : GoodIn wsL_law wsL_areFacts_r1 := goodIn_r _ [61, 62, 63, 2, 64, 13, 65, 66, 67, 12, 68, 29, 264, 265, 266, 267, 215, 216, 217, 218, 93, 94, 112, 113] (by decide +kernel) (by decide +kernel)
set_option maxRecDepth 100000 in
theorem gq_L_areFacts_r2 : GoodIn wsL_law wsL_areFacts_r2 := goodIn_r _ [114, 115, 30, 31, 28, 116, 117, 268] (by decide +kernel) (by decide +kernel)
set_option maxRecDepth 100000 in
theorem ggL_law_L_areFacts : GoodIn wsL_law wsL_areFacts := goodIn_c1 gq_L_areFacts_c (goodIn_app (goodIn_app (goodIn_app (goodIn_app gq_L_areFacts_r1 gq_L_areFacts_r2) gq_wsX30) gq_wsX10) (goodIn_sub (fun _ h => List.mem_append_left _ (List.mem_append_left _ (List.mem_append_right _ h))) (by decide +kernel)))
set_option maxRecDepth 100000 in
theorem gL_law_L_areFacts : GoodIn wsL_law (va_wsS RL 142 yL_areFacts wsL_areFacts) := goodIn_app (goodIn_of _ (by decide +kernel)) ggL_law_L_areFacts
set_option maxRecDepth 100000 in
theorem gq_L_areStates_c : GoodIn wsL_law [.code yL_areStates cL_areStates 11 (some .boolean)] := goodIn_r _ [341] (by decide +kernel) (by decide +kernel)
set_option maxRecDepth 100000 in
theorem gq_L_areStates_r1 : GoodIn wsL_law wsL_areStates_r1 := goodIn_r _ [305, 306, 59, 307, 61, 62, 63, 2, 64, 13, 65, 66, 67, 12, 68, 29, 264, 265, 266, 267, 215, 216, 217, 218] (by decide +kernel) (by decide +kernel)
set_option maxRecDepth 100000 in
theorem gq_L_areStates_r2 : GoodIn wsL_law wsL_areStates_r2 := goodIn_r _ [93, 94, 112, 113, 114, 115, 30, 31, 28, 116, 117, 268, 299, 300, 301, 69, 70, 71, 72, 17, 73, 74, 75, 16] (by decide +kernel) (by decide +kernel)
set_option maxRecDepth 100000 in
theorem gq_L_areStates_r3 : GoodIn wsL_law wsL_areStates_r3 := goodIn_r _ [76, 41, 159, 160, 161, 162, 21, 163, 164, 165, 166, 118, 119, 120, 20, 121, 51, 53, 52, 122, 123, 124, 125, 54] (by decide +kernel) (by decide +kernel)
set_option maxRecDepth 100000 in
theorem gq_L_areStates_r4 : GoodIn wsL_law wsL_areStates_r4 := goodIn_r _ [55, 56, 126, 127, 128, 129, 130, 131, 132, 133, 134, 135, 136, 137, 138, 37, 38, 39, 139, 140, 141, 142, 143, 144] (by decide +kernel) (by decide +kernel)
set_option maxRecDepth 100000 in
theorem gq_L_areStates_r5 : GoodIn wsL_law wsL_areStates_r5 := goodIn_r _ [145, 146, 147, 148, 149, 150, 167, 168, 169, 170, 277, 278, 279, 280, 281, 282, 283, 284] (by decide +kernel) (by decide +kernel)
set_option maxRecDepth 100000 in
theorem ggL_law_L_areStates : GoodIn wsL_law wsL_areStates := goodIn_c1 gq_L_areStates_c (goodIn_app (goodIn_app (goodIn_app (goodIn_app (goodIn_app (goodIn_app gq_L_areStates_r1 (goodIn_app gq_L_areStates_r2 (goodIn_app gq_L_areStates_r3 (goodIn_app gq_L_areStates_r4 gq_L_areStates_r5)))) gq_wsX30) gq_wsX10) gq_wsX00) gq_wsX20) (goodIn_sub (fun _ h => List.mem_append_left _ (List.mem_append_left _ (List.mem_append_right _ h))) (by decide +kernel)))
set_option maxRecDepth 100000 in
theorem gL_law_L_areStates : GoodIn wsL_law (va_wsS RL 146 yL_areStates wsL_areStates) := goodIn_app (goodIn_of _ (by decide +kernel)) ggL_law_L_areStates
set_option maxRecDepth 100000 in
theorem gq_L_isFallen_c : GoodIn wsL_law [.code yL_isFallen cL_isFallen 9 (some .boolean)] := goodIn_r _ [344] (by decide +kernel) (by decide +kernel)
set_option maxRecDepth 100000 in
theorem gq_L_isFallen_r1 : GoodIn wsL_law wsL_isFallen_r1 := goodIn_r _ [61, 62, 63, 2, 64, 13, 65, 66, 67, 12, 68, 29, 264, 265, 266, 267, 215, 216, 217, 218, 93, 94, 112, 113] (by decide +kernel) (by decide +kernel)
set_option maxRecDepth 100000 in
theorem gq_L_isFallen_r2 : GoodIn wsL_law wsL_isFallen_r2 := goodIn_r _ [114, 115, 30, 31, 28, 116, 117, 268, 285, 286, 287, 288, 89, 90, 91, 92, 289, 290, 291, 175, 176, 177, 178, 21] (by decide +kernel) (by decide +kernel)
set_option maxRecDepth 100000 in
theorem gq_L_isFallen_r3 : GoodIn wsL_law wsL_isFallen_r3 := goodIn_r _ [17, 118, 119, 120, 20, 121, 51, 53, 52, 122, 123, 124, 125, 54, 55, 56, 126, 74, 75, 16, 76, 41, 127, 128] (by decide +kernel) (by decide +kernel)
set_option maxRecDepth 100000 in
theorem gq_L_isFallen_r4 : GoodIn wsL_law wsL_isFallen_r4 := goodIn_r _ [129, 130, 131, 132, 133, 134, 135, 136, 137, 138, 37, 38, 39, 139, 140, 141, 142, 143, 144, 145, 146, 147, 148, 149] (by decide +kernel) (by decide +kernel)
set_option maxRecDepth 100000 in
theorem gq_L_isFallen_r5 : GoodIn wsL_law wsL_isFallen_r5 := goodIn_r _ [150, 151, 152, 153, 154, 155, 156, 157, 158, 36, 99, 100, 59, 101, 102, 103, 104, 105, 106, 107, 69, 70, 71, 72] (by decide +kernel) (by decide +kernel)
set_option maxRecDepth 100000 in
theorem gq_L_isFallen_r6 : GoodIn wsL_law wsL_isFallen_r6 := goodIn_r _ [73, 77, 78, 79, 80, 81, 82, 83, 84, 42, 108, 109, 110, 111, 159, 160, 161, 162, 163, 164, 165, 166, 167, 168] (by decide +kernel) (by decide +kernel)
set_option maxRecDepth 100000 in
theorem gq_L_isFallen_r7 : GoodIn wsL_law wsL_isFallen_r7 := goodIn_r _ [169, 170, 85, 86, 87, 88, 95, 96, 97, 98, 40, 171, 172, 173, 174, 179, 180, 181, 182, 22, 183, 184, 185, 186] (by decide +kernel) (by decide +kernel)
set_option maxRecDepth 100000 in
theorem gq_L_isFallen_r8 : GoodIn wsL_law wsL_isFallen_r8 := goodIn_r _ [187, 188, 189, 190, 191, 192, 193, 194, 195, 196, 197, 198, 199, 200, 201, 202, 203, 204, 205, 206, 207, 208, 209, 210] (by decide +kernel) (by decide +kernel)
set_option maxRecDepth 100000 in
theorem gq_L_isFallen_r9 : GoodIn wsL_law wsL_isFallen_r9 := goodIn_r _ [211, 212, 213, 214, 219, 220, 221, 222, 223, 224, 225, 226, 227, 228, 229, 230, 231, 232, 233, 234, 235, 236, 237, 238] (by decide +kernel) (by decide +kernel)
set_option maxRecDepth 100000 in
theorem gq_L_isFallen_r10 : GoodIn wsL_law wsL_isFallen_r10 := goodIn_r _ [239, 240, 241, 242, 243, 244, 245, 246, 247, 248, 249, 250, 251, 252, 253, 254, 255, 256, 257, 258, 259, 260] (by decide +kernel) (by decide +kernel)
set_option maxRecDepth 100000 in
theorem ggL_law_L_isFallen : GoodIn wsL_law wsL_isFallen := goodIn_c1 gq_L_isFallen_c (goodIn_app (goodIn_app (goodIn_app (goodIn_app (goodIn_app (goodIn_app (goodIn_app (goodIn_app gq_L_isFallen_r1 (goodIn_app gq_L_isFallen_r2 (goodIn_app gq_L_isFallen_r3 (goodIn_app gq_L_isFallen_r4 (goodIn_app gq_L_isFallen_r5 (goodIn_app gq_L_isFallen_r6 (goodIn_app gq_L_isFallen_r7 (goodIn_app gq_L_isFallen_r8 (goodIn_app gq_L_isFallen_r9 gq_L_isFallen_r10))))))))) gq_wsX30) gq_wsX10) gq_wsX20) gq_wsX00) (goodIn_sub (fun _ h => List.mem_append_left _ (List.mem_append_left _ (List.mem_append_right _ h))) (by decide +kernel))) (goodIn_sub (fun _ h => List.mem_append_left _ (List.mem_append_right _ h)) (by decide +kernel))) (goodIn_sub (fun _ h => List.mem_append_right _ h) (by decide +kernel)))
set_option maxRecDepth 100000 in
theorem gL_law_L_isFallen : GoodIn wsL_law (va_wsS RL 150 yL_isFallen wsL_isFallen) := goodIn_app (goodIn_of _ (by decide +kernel)) ggL_law_L_isFallen
