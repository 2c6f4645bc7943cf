set_option maxRecDepth 20000 in
theorem ggL_law_X3_init : GoodIn wsL_law wsX3_init := goodIn_r _ [9, 10, 11, 12, 13, 14, 15, 16, 17, 18, 19, 20, 21, 22, 23, 24, 25, 26, 27, 28, 29, 30, 31, 32, 33, 34, 35, 36, 37, 38, 39, 40, 41, 42, 43, 44, 45, 46, 47, 48, 49, 50, 51, 52, 53, 54, 55, 56, 57, 58, 59, 60, 533, 534, 535, 536, 513, 514, 515, 516, 517, 537, 538, 539, 540, 541, 542, 543, 544, 545, 546, 547, 548, 549] (by decide +kernel) (by decide +kernel)
set_option maxRecDepth 20000 in
theorem gL_law_X3_init : GoodIn wsL_law (wsX3_init) := ggL_law_X3_init
set_option maxRecDepth 20000 in
theorem ggL_law_X4_init : GoodIn wsL_law wsX4_init := goodIn_r _ [63, 64, 11, 12, 65, 66, 25, 67, 68, 69, 70, 71, 72, 73, 74, 75, 518, 519, 520, 521, 522, 523, 524, 525, 526, 527, 528, 529, 530, 531, 532] (by decide +kernel) (by decide +kernel)
set_option maxRecDepth 20000 in
theorem gL_law_X4_init : GoodIn wsL_law (wsX4_init) := ggL_law_X4_init
set_option maxRecDepth 20000 in
theorem ggL_law_L_addFact : GoodIn wsL_law wsL_addFact := goodIn_ca (goodIn_ca (goodIn_r _ [79, 80, 81, 82, 83, 84, 2, 85, 86, 87, 16, 88, 89, 90, 91, 92, 93, 94, 95, 96, 15, 97, 33, 32, 513, 514, 515, 516, 517, 533, 534, 535, 536] (by decide +kernel) (by decide +kernel)) (goodIn_sub (fun _ h => List.mem_append_left _ (List.mem_append_left _ (List.mem_append_right _ h))) (by decide +kernel))) (goodIn_sub (fun _ h => List.mem_append_left _ (List.mem_append_right _ h)) (by decide +kernel))
set_option maxRecDepth 20000 in
theorem gL_law_L_addFact : GoodIn wsL_law (va_wsS RL 68 yL_addFact wsL_addFact) := goodIn_app (goodIn_of _ (by decide +kernel)) ggL_law_L_addFact
set_option maxRecDepth 20000 in
theorem ggL_law_X4_addFact : GoodIn wsL_law wsX4_addFact := goodIn_r _ [101, 102, 67, 103, 104, 5, 105, 106, 107, 108, 109, 110, 111, 112, 113, 518, 519, 520, 521, 522, 523, 524, 525, 526, 527, 528, 529, 530, 531, 532] (by decide +kernel) (by decide +kernel)
set_option maxRecDepth 20000 in
theorem gL_law_X4_addFact : GoodIn wsL_law (wsV RL 73 RX4 yX4_addFact wsX4_addFact) := goodIn_app (goodIn_of _ (by decide +kernel)) ggL_law_X4_addFact
set_option maxRecDepth 20000 in
theorem ggL_law_X4_thrown : GoodIn wsL_law wsX4_thrown := goodIn_r _ [117, 113, 518, 519, 520, 521, 522, 523, 524, 525, 526, 527, 528, 529, 530, 531, 532] (by decide +kernel) (by decide +kernel)
set_option maxRecDepth 20000 in
theorem gL_law_X4_thrown : GoodIn wsL_law (wsV RL 74 RX4 yX4_thrown wsX4_thrown) := goodIn_app (goodIn_of _ (by decide +kernel)) ggL_law_X4_thrown
set_option maxRecDepth 20000 in
theorem ggL_law_L_toggleSource : GoodIn wsL_law wsL_toggleSource := goodIn_ca (goodIn_r _ [120, 80, 121, 122, 123, 2, 124, 16, 88, 89, 90, 91, 92, 93, 125, 126, 127, 15, 128, 35, 129, 130, 513, 514, 515, 516, 517, 533, 534, 535, 536] (by decide +kernel) (by decide +kernel)) (goodIn_sub (fun _ h => List.mem_append_left _ (List.mem_append_right _ h)) (by decide +kernel))
set_option maxRecDepth 20000 in
theorem gL_law_L_toggleSource : GoodIn wsL_law (va_wsS RL 78 yL_toggleSource wsL_toggleSource) := goodIn_app (goodIn_of _ (by decide +kernel)) ggL_law_L_toggleSource
set_option maxRecDepth 20000 in
theorem ggL_law_X4_toggleSource : GoodIn wsL_law wsX4_toggleSource := goodIn_r _ [134, 66, 103, 104, 5, 105, 106, 107, 108, 109, 110, 111, 112, 113, 518, 519, 520, 521, 522, 523, 524, 525, 526, 527, 528, 529, 530, 531, 532] (by decide +kernel) (by decide +kernel)
set_option maxRecDepth 20000 in
theorem gL_law_X4_toggleSource : GoodIn wsL_law (wsV RL 80 RX4 yX4_toggleSource wsX4_toggleSource) := goodIn_app (goodIn_of _ (by decide +kernel)) ggL_law_X4_toggleSource
set_option maxRecDepth 20000 in
theorem ggL_law_L_withdraw : GoodIn wsL_law wsL_withdraw := goodIn_ca (goodIn_r _ [137, 80, 138, 139, 140, 2, 141, 16, 142, 143, 144, 145, 92, 93, 146, 147, 148, 15, 149, 33, 150, 151, 152, 153, 34, 129, 130, 513, 514, 515, 516, 517, 533, 534, 535, 536] (by decide +kernel) (by decide +kernel)) (goodIn_sub (fun _ h => List.mem_append_left _ (List.mem_append_right _ h)) (by decide +kernel))
set_option maxRecDepth 20000 in
theorem gL_law_L_withdraw : GoodIn wsL_law (va_wsS RL 81 yL_withdraw wsL_withdraw) := goodIn_app (goodIn_of _ (by decide +kernel)) ggL_law_L_withdraw
set_option maxRecDepth 20000 in
theorem ggL_law_X4_withdraw : GoodIn wsL_law wsX4_withdraw := goodIn_r _ [157, 68, 158, 159, 160, 5, 161, 102, 106, 107, 108, 109, 110, 111, 112, 113, 518, 519, 520, 521, 522, 523, 524, 525, 526, 527, 528, 529, 530, 531, 532] (by decide +kernel) (by decide +kernel)
set_option maxRecDepth 20000 in
theorem gL_law_X4_withdraw : GoodIn wsL_law (wsV RL 83 RX4 yX4_withdraw wsX4_withdraw) := goodIn_app (goodIn_of _ (by decide +kernel)) ggL_law_X4_withdraw
set_option maxRecDepth 20000 in
theorem ggL_law_L_factStands : GoodIn wsL_law wsL_factStands := goodIn_ca (goodIn_r _ [164, 80, 165, 166, 167, 2, 168, 16, 142, 143, 144, 145, 92, 93, 146, 147, 148, 15, 149, 33, 169, 170, 171, 172, 34, 35, 32, 129, 130, 173, 513, 514, 515, 516, 517, 533, 534, 535, 536] (by decide +kernel) (by decide +kernel)) (goodIn_sub (fun _ h => List.mem_append_left _ (List.mem_append_right _ h)) (by decide +kernel))
set_option maxRecDepth 20000 in
theorem gL_law_L_factStands : GoodIn wsL_law (va_wsS RL 84 yL_factStands wsL_factStands) := goodIn_app (goodIn_of _ (by decide +kernel)) ggL_law_L_factStands
set_option maxRecDepth 20000 in
theorem ggL_law_X4_factStands : GoodIn wsL_law wsX4_factStands := goodIn_r _ [177, 158, 159, 160, 5, 161, 102, 106, 107, 108, 109, 110, 111, 112, 113, 178, 179, 180, 181, 68, 66, 67, 518, 519, 520, 521, 522, 523, 524, 525, 526, 527, 528, 529, 530, 531, 532] (by decide +kernel) (by decide +kernel)
set_option maxRecDepth 20000 in
theorem gL_law_X4_factStands : GoodIn wsL_law (wsV RL 86 RX4 yX4_factStands wsX4_factStands) := goodIn_app (goodIn_of _ (by decide +kernel)) ggL_law_X4_factStands
set_option maxRecDepth 20000 in
theorem ggL_law_X3_facts : GoodIn wsL_law wsX3_facts := goodIn_r _ [185, 16, 146, 147, 148, 15, 149, 33, 513, 514, 515, 516, 517, 533, 534, 535, 536] (by decide +kernel) (by decide +kernel)
set_option maxRecDepth 20000 in
theorem gL_law_X3_facts : GoodIn wsL_law (wsV RL 87 RX3 yX3_facts wsX3_facts) := goodIn_app (goodIn_of _ (by decide +kernel)) ggL_law_X3_facts
set_option maxRecDepth 20000 in
theorem ggL_law_X4_facts : GoodIn wsL_law wsX4_facts := goodIn_r _ [189, 113, 102, 518, 519, 520, 521, 522, 523, 524, 525, 526, 527, 528, 529, 530, 531, 532] (by decide +kernel) (by decide +kernel)
set_option maxRecDepth 20000 in
theorem gL_law_X4_facts : GoodIn wsL_law (wsV RL 90 RX4 yX4_facts wsX4_facts) := goodIn_app (goodIn_of _ (by decide +kernel)) ggL_law_X4_facts
set_option maxRecDepth 20000 in
theorem ggL_law_L_claim : GoodIn wsL_law wsL_claim := goodIn_ca (goodIn_ca (goodIn_r _ [192, 193, 81, 194, 195, 196, 2, 197, 198, 199, 86, 87, 16, 20, 200, 201, 202, 15, 203, 33, 204, 205, 206, 19, 207, 45, 44, 46, 40, 41, 42, 43, 208, 209, 210, 211, 513, 514, 515, 516, 517, 533, 534, 535, 536, 537, 538, 539, 540, 541, 542, 543] (by decide +kernel) (by decide +kernel)) (goodIn_sub (fun _ h => List.mem_append_right _ h) (by decide +kernel))) (goodIn_sub (fun _ h => List.mem_append_left _ (List.mem_append_left _ (List.mem_append_right _ h))) (by decide +kernel))
set_option maxRecDepth 20000 in
theorem gL_law_L_claim : GoodIn wsL_law (va_wsS RL 91 yL_claim wsL_claim) := goodIn_app (goodIn_of _ (by decide +kernel)) ggL_law_L_claim
set_option maxRecDepth 20000 in
theorem ggL_law_X4_claim : GoodIn wsL_law wsX4_claim := goodIn_r _ [215, 102, 216, 69, 217, 70, 71, 72, 73, 106, 107, 5, 108, 109, 110, 111, 112, 113, 218, 219, 220, 221, 518, 519, 520, 521, 522, 523, 524, 525, 526, 527, 528, 529, 530, 531, 532] (by decide +kernel) (by decide +kernel)
set_option maxRecDepth 20000 in
theorem gL_law_X4_claim : GoodIn wsL_law (wsV RL 94 RX4 yX4_claim wsX4_claim) := goodIn_app (goodIn_of _ (by decide +kernel)) ggL_law_X4_claim
set_option maxRecDepth 20000 in
theorem ggL_law_X3_skip : GoodIn wsL_law wsX3_skip := goodIn_r _ [225, 20, 226, 209, 210, 19, 211, 46, 227, 228, 229, 230, 513, 514, 515, 516, 517, 537, 538, 539, 540, 541, 542, 543] (by decide +kernel) (by decide +kernel)
set_option maxRecDepth 20000 in
theorem gL_law_X3_skip : GoodIn wsL_law (wsV RL 95 RX3 yX3_skip wsX3_skip) := goodIn_app (goodIn_of _ (by decide +kernel)) ggL_law_X3_skip
set_option maxRecDepth 20000 in
theorem ggL_law_X4_skip : GoodIn wsL_law wsX4_skip := goodIn_r _ [234, 113, 217, 218, 219, 220, 5, 221, 518, 519, 520, 521, 522, 523, 524, 525, 526, 527, 528, 529, 530, 531, 532] (by decide +kernel) (by decide +kernel)
set_option maxRecDepth 20000 in
theorem gL_law_X4_skip : GoodIn wsL_law (wsV RL 98 RX4 yX4_skip wsX4_skip) := goodIn_app (goodIn_of _ (by decide +kernel)) ggL_law_X4_skip
set_option maxRecDepth 20000 in
theorem ggL_law_L_rest : GoodIn wsL_law wsL_rest := goodIn_ca (goodIn_ca (goodIn_r _ [237, 80, 193, 238, 239, 240, 2, 241, 20, 242, 243, 244, 245, 198, 199, 246, 247, 248, 249, 92, 93, 250, 251, 252, 19, 253, 45, 254, 255, 256, 257, 42, 129, 130, 513, 514, 515, 516, 517, 537, 538, 539, 540, 541, 542, 543] (by decide +kernel) (by decide +kernel)) (goodIn_sub (fun _ h => List.mem_append_right _ h) (by decide +kernel))) (goodIn_sub (fun _ h => List.mem_append_left _ (List.mem_append_right _ h)) (by decide +kernel))
set_option maxRecDepth 20000 in
theorem gL_law_L_rest : GoodIn wsL_law (va_wsS RL 99 yL_rest wsL_rest) := goodIn_app (goodIn_of _ (by decide +kernel)) ggL_law_L_rest
set_option maxRecDepth 20000 in
theorem ggL_law_X4_rest : GoodIn wsL_law wsX4_rest := goodIn_r _ [261, 72, 262, 263, 264, 5, 265, 266, 267, 268, 269, 216, 106, 107, 108, 109, 110, 111, 112, 113, 518, 519, 520, 521, 522, 523, 524, 525, 526, 527, 528, 529, 530, 531, 532] (by decide +kernel) (by decide +kernel)
set_option maxRecDepth 20000 in
theorem gL_law_X4_rest : GoodIn wsL_law (wsV RL 101 RX4 yX4_rest wsX4_rest) := goodIn_app (goodIn_of _ (by decide +kernel)) ggL_law_X4_rest
set_option maxRecDepth 20000 in
theorem ggL_law_L_attack : GoodIn wsL_law wsL_attack := goodIn_ca (goodIn_ca (goodIn_r _ [272, 80, 193, 273, 274, 275, 2, 276, 20, 242, 243, 244, 245, 198, 199, 246, 247, 248, 249, 92, 93, 250, 251, 252, 19, 253, 45, 277, 278, 279, 280, 43, 129, 130, 513, 514, 515, 516, 517, 537, 538, 539, 540, 541, 542, 543] (by decide +kernel) (by decide +kernel)) (goodIn_sub (fun _ h => List.mem_append_right _ h) (by decide +kernel))) (goodIn_sub (fun _ h => List.mem_append_left _ (List.mem_append_right _ h)) (by decide +kernel))
set_option maxRecDepth 20000 in
theorem gL_law_L_attack : GoodIn wsL_law (va_wsS RL 102 yL_attack wsL_attack) := goodIn_app (goodIn_of _ (by decide +kernel)) ggL_law_L_attack
set_option maxRecDepth 20000 in
theorem ggL_law_X4_attack : GoodIn wsL_law wsX4_attack := goodIn_r _ [284, 73, 262, 263, 264, 5, 265, 266, 267, 268, 269, 216, 106, 107, 108, 109, 110, 111, 112, 113, 518, 519, 520, 521, 522, 523, 524, 525, 526, 527, 528, 529, 530, 531, 532] (by decide +kernel) (by decide +kernel)
set_option maxRecDepth 20000 in
theorem gL_law_X4_attack : GoodIn wsL_law (wsV RL 104 RX4 yX4_attack wsX4_attack) := goodIn_app (goodIn_of _ (by decide +kernel)) ggL_law_X4_attack
set_option maxRecDepth 20000 in
theorem ggL_law_X3_claims : GoodIn wsL_law wsX3_claims := goodIn_r _ [288, 20, 250, 251, 252, 19, 253, 45, 513, 514, 515, 516, 517, 537, 538, 539, 540, 541, 542, 543] (by decide +kernel) (by decide +kernel)
set_option maxRecDepth 20000 in
theorem gL_law_X3_claims : GoodIn wsL_law (wsV RL 105 RX3 yX3_claims wsX3_claims) := goodIn_app (goodIn_of _ (by decide +kernel)) ggL_law_X3_claims
set_option maxRecDepth 20000 in
theorem ggL_law_X4_claims : GoodIn wsL_law wsX4_claims := goodIn_r _ [292, 113, 216, 518, 519, 520, 521, 522, 523, 524, 525, 526, 527, 528, 529, 530, 531, 532] (by decide +kernel) (by decide +kernel)
set_option maxRecDepth 20000 in
theorem gL_law_X4_claims : GoodIn wsL_law (wsV RL 108 RX4 yX4_claims wsX4_claims) := goodIn_app (goodIn_of _ (by decide +kernel)) ggL_law_X4_claims
set_option maxRecDepth 20000 in
theorem ggL_law_L_playerOf : GoodIn wsL_law wsL_playerOf := goodIn_ca (goodIn_r _ [295, 80, 296, 297, 298, 2, 299, 20, 246, 247, 248, 249, 92, 93, 250, 251, 252, 19, 253, 45, 300, 301, 302, 303, 40, 513, 514, 515, 516, 517, 537, 538, 539, 540, 541, 542, 543] (by decide +kernel) (by decide +kernel)) (goodIn_sub (fun _ h => List.mem_append_left _ (List.mem_append_right _ h)) (by decide +kernel))
set_option maxRecDepth 20000 in
theorem gL_law_L_playerOf : GoodIn wsL_law (va_wsS RL 109 yL_playerOf wsL_playerOf) := goodIn_app (goodIn_of _ (by decide +kernel)) ggL_law_L_playerOf
set_option maxRecDepth 20000 in
theorem ggL_law_X4_playerOf : GoodIn wsL_law wsX4_playerOf := goodIn_r _ [307, 70, 308, 309, 310, 5, 311, 266, 267, 268, 269, 216, 106, 107, 108, 109, 110, 111, 112, 113, 518, 519, 520, 521, 522, 523, 524, 525, 526, 527, 528, 529, 530, 531, 532] (by decide +kernel) (by decide +kernel)
set_option maxRecDepth 20000 in
theorem gL_law_X4_playerOf : GoodIn wsL_law (wsV RL 111 RX4 yX4_playerOf wsX4_playerOf) := goodIn_app (goodIn_of _ (by decide +kernel)) ggL_law_X4_playerOf
set_option maxRecDepth 20000 in
theorem ggL_law_X3_turn : GoodIn wsL_law wsX3_turn := goodIn_r _ [315, 20, 227, 228, 229, 19, 230, 46, 513, 514, 515, 516, 517, 537, 538, 539, 540, 541, 542, 543] (by decide +kernel) (by decide +kernel)
set_option maxRecDepth 20000 in
theorem gL_law_X3_turn : GoodIn wsL_law (wsV RL 112 RX3 yX3_turn wsX3_turn) := goodIn_app (goodIn_of _ (by decide +kernel)) ggL_law_X3_turn
set_option maxRecDepth 20000 in
theorem ggL_law_X4_turn : GoodIn wsL_law wsX4_turn := goodIn_r _ [319, 113, 217, 518, 519, 520, 521, 522, 523, 524, 525, 526, 527, 528, 529, 530, 531, 532] (by decide +kernel) (by decide +kernel)
set_option maxRecDepth 20000 in
theorem gL_law_X4_turn : GoodIn wsL_law (wsV RL 115 RX4 yX4_turn wsX4_turn) := goodIn_app (goodIn_of _ (by decide +kernel)) ggL_law_X4_turn
set_option maxRecDepth 20000 in
theorem ggL_law_L_bank : GoodIn wsL_law wsL_bank := goodIn_ca (goodIn_r _ [322, 80, 323, 324, 325, 2, 326, 20, 327, 328, 329, 330, 92, 93, 331, 332, 333, 19, 334, 44, 513, 514, 515, 516, 517, 537, 538, 539, 540, 541, 542, 543] (by decide +kernel) (by decide +kernel)) (goodIn_sub (fun _ h => List.mem_append_left _ (List.mem_append_right _ h)) (by decide +kernel))
set_option maxRecDepth 20000 in
theorem gL_law_L_bank : GoodIn wsL_law (va_wsS RL 116 yL_bank wsL_bank) := goodIn_app (goodIn_of _ (by decide +kernel)) ggL_law_L_bank
set_option maxRecDepth 20000 in
theorem ggL_law_X4_bank : GoodIn wsL_law wsX4_bank := goodIn_r _ [338, 69, 339, 340, 341, 5, 342, 343, 344, 345, 106, 107, 108, 109, 110, 111, 112, 113, 518, 519, 520, 521, 522, 523, 524, 525, 526, 527, 528, 529, 530, 531, 532] (by decide +kernel) (by decide +kernel)
set_option maxRecDepth 20000 in
theorem gL_law_X4_bank : GoodIn wsL_law (wsV RL 118 RX4 yX4_bank wsX4_bank) := goodIn_app (goodIn_of _ (by decide +kernel)) ggL_law_X4_bank
set_option maxRecDepth 20000 in
theorem ggL_law_L_stateOf : GoodIn wsL_law wsL_stateOf := goodIn_ca (goodIn_r _ [348, 80, 349, 350, 351, 2, 352, 24, 16, 246, 247, 248, 249, 92, 93, 20, 250, 251, 252, 19, 253, 45, 169, 170, 171, 15, 172, 33, 34, 35, 32, 129, 130, 353, 354, 355, 23, 356, 55, 57, 56, 357, 358, 359, 360, 58, 59, 60, 361, 362, 363, 364, 365, 366, 367, 368, 369, 370, 371, 372, 373, 41, 42, 43, 374, 375, 376, 377, 378, 379, 380, 381, 382, 383, 384, 385, 386, 387, 388, 389, 513, 514, 515, 516, 517, 537, 538, 539, 540, 541, 542, 543, 533, 534, 535, 536, 544, 545, 546, 547, 548, 549] (by decide +kernel) (by decide +kernel)) (goodIn_sub (fun _ h => List.mem_append_left _ (List.mem_append_right _ h)) (by decide +kernel))
set_option maxRecDepth 20000 in
theorem gL_law_L_stateOf : GoodIn wsL_law (va_wsS RL 119 yL_stateOf wsL_stateOf) := goodIn_app (goodIn_of _ (by decide +kernel)) ggL_law_L_stateOf
set_option maxRecDepth 20000 in
theorem ggL_law_X4_stateOf : GoodIn wsL_law wsX4_stateOf := goodIn_r _ [393, 394, 395, 396, 5, 397, 74, 308, 309, 310, 311, 266, 267, 268, 269, 216, 106, 107, 108, 109, 110, 111, 112, 113, 398, 399, 400, 401, 102, 178, 179, 180, 181, 68, 66, 67, 402, 403, 404, 405, 71, 72, 73, 406, 407, 408, 409, 518, 519, 520, 521, 522, 523, 524, 525, 526, 527, 528, 529, 530, 531, 532] (by decide +kernel) (by decide +kernel)
set_option maxRecDepth 20000 in
theorem gL_law_X4_stateOf : GoodIn wsL_law (wsV RL 121 RX4 yX4_stateOf wsX4_stateOf) := goodIn_app (goodIn_of _ (by decide +kernel)) ggL_law_X4_stateOf
set_option maxRecDepth 20000 in
theorem ggL_law_L_stateByRounds : GoodIn wsL_law wsL_stateByRounds := goodIn_ca (goodIn_r _ [412, 80, 413, 414, 415, 2, 416, 24, 16, 246, 247, 248, 249, 92, 93, 20, 250, 251, 252, 19, 253, 45, 169, 170, 171, 15, 172, 33, 34, 35, 32, 129, 130, 417, 418, 419, 23, 420, 55, 357, 358, 359, 360, 57, 58, 59, 60, 361, 366, 367, 368, 369, 370, 371, 372, 373, 41, 42, 43, 374, 375, 376, 377, 386, 387, 388, 389, 513, 514, 515, 516, 517, 537, 538, 539, 540, 541, 542, 543, 533, 534, 535, 536, 544, 545, 546, 547, 548, 549] (by decide +kernel) (by decide +kernel)) (goodIn_sub (fun _ h => List.mem_append_left _ (List.mem_append_right _ h)) (by decide +kernel))
set_option maxRecDepth 20000 in
theorem gL_law_L_stateByRounds : GoodIn wsL_law (va_wsS RL 122 yL_stateByRounds wsL_stateByRounds) := goodIn_app (goodIn_of _ (by decide +kernel)) ggL_law_L_stateByRounds
set_option maxRecDepth 20000 in
theorem ggL_law_X4_stateByRounds : GoodIn wsL_law wsX4_stateByRounds := goodIn_r _ [424, 394, 395, 396, 5, 397, 74, 308, 309, 310, 311, 266, 267, 268, 269, 216, 106, 107, 108, 109, 110, 111, 112, 113, 398, 399, 400, 401, 102, 178, 179, 180, 181, 68, 66, 67, 402, 403, 404, 405, 71, 72, 73, 406, 407, 408, 409, 518, 519, 520, 521, 522, 523, 524, 525, 526, 527, 528, 529, 530, 531, 532] (by decide +kernel) (by decide +kernel)
set_option maxRecDepth 20000 in
theorem gL_law_X4_stateByRounds : GoodIn wsL_law (wsV RL 124 RX4 yX4_stateByRounds wsX4_stateByRounds) := goodIn_app (goodIn_of _ (by decide +kernel)) ggL_law_X4_stateByRounds
set_option maxRecDepth 20000 in
theorem ggL_law_L_score : GoodIn wsL_law wsL_score := goodIn_ca (goodIn_r _ [427, 80, 428, 429, 430, 2, 431, 16, 327, 328, 329, 330, 92, 93, 169, 170, 171, 15, 172, 33, 34, 35, 32, 129, 130, 432, 433, 434, 435, 24, 20, 353, 354, 355, 23, 356, 55, 57, 56, 357, 358, 359, 360, 58, 59, 60, 361, 251, 252, 19, 253, 45, 362, 363, 364, 365, 366, 367, 368, 369, 370, 371, 372, 373, 41, 42, 43, 374, 375, 376, 377, 378, 379, 380, 381, 382, 383, 384, 385, 436, 437, 438, 439, 440, 441, 442, 443, 40, 513, 514, 515, 516, 517, 533, 534, 535, 536, 544, 545, 546, 547, 548, 549, 537, 538, 539, 540, 541, 542, 543] (by decide +kernel) (by decide +kernel)) (goodIn_sub (fun _ h => List.mem_append_left _ (List.mem_append_right _ h)) (by decide +kernel))
set_option maxRecDepth 20000 in
theorem gL_law_L_score : GoodIn wsL_law (va_wsS RL 125 yL_score wsL_score) := goodIn_app (goodIn_of _ (by decide +kernel)) ggL_law_L_score
set_option maxRecDepth 20000 in
theorem ggL_law_X4_score : GoodIn wsL_law wsX4_score := goodIn_r _ [447, 339, 340, 341, 5, 342, 343, 344, 345, 106, 107, 108, 109, 110, 111, 112, 113, 448, 449, 450, 451, 216, 70, 74, 398, 399, 400, 401, 102, 178, 179, 180, 181, 68, 66, 67, 402, 403, 404, 405, 71, 72, 73, 406, 407, 408, 409, 518, 519, 520, 521, 522, 523, 524, 525, 526, 527, 528, 529, 530, 531, 532] (by decide +kernel) (by decide +kernel)
set_option maxRecDepth 20000 in
theorem gL_law_X4_score : GoodIn wsL_law (wsV RL 127 RX4 yX4_score wsX4_score) := goodIn_app (goodIn_of _ (by decide +kernel)) ggL_law_X4_score
set_option maxRecDepth 20000 in
theorem ggL_law_L_scoreWithout : GoodIn wsL_law wsL_scoreWithout := goodIn_ca (goodIn_r _ [454, 80, 455, 456, 457, 2, 458, 16, 327, 328, 329, 330, 92, 93, 142, 143, 144, 145, 146, 147, 148, 15, 149, 33, 169, 170, 171, 172, 34, 35, 32, 129, 130, 459, 460, 461, 432, 433, 434, 435, 24, 20, 353, 354, 355, 23, 356, 55, 57, 56, 357, 358, 359, 360, 58, 59, 60, 361, 251, 252, 19, 253, 45, 362, 363, 364, 365, 366, 367, 368, 369, 370, 371, 372, 373, 41, 42, 43, 374, 375, 376, 377, 378, 379, 380, 381, 382, 383, 384, 385, 436, 437, 438, 439, 440, 441, 442, 443, 40, 513, 514, 515, 516, 517, 533, 534, 535, 536, 544, 545, 546, 547, 548, 549, 537, 538, 539, 540, 541, 542, 543] (by decide +kernel) (by decide +kernel)) (goodIn_sub (fun _ h => List.mem_append_left _ (List.mem_append_right _ h)) (by decide +kernel))
set_option maxRecDepth 20000 in
theorem gL_law_L_scoreWithout : GoodIn wsL_law (va_wsS RL 128 yL_scoreWithout wsL_scoreWithout) := goodIn_app (goodIn_of _ (by decide +kernel)) ggL_law_L_scoreWithout
set_option maxRecDepth 20000 in
theorem ggL_law_X4_scoreWithout : GoodIn wsL_law wsX4_scoreWithout := goodIn_r _ [465, 343, 344, 5, 345, 106, 107, 108, 158, 159, 160, 161, 102, 109, 110, 111, 112, 113, 448, 449, 450, 451, 216, 70, 74, 398, 399, 400, 401, 178, 179, 180, 181, 68, 66, 67, 402, 403, 404, 405, 71, 72, 73, 406, 407, 408, 409, 518, 519, 520, 521, 522, 523, 524, 525, 526, 527, 528, 529, 530, 531, 532] (by decide +kernel) (by decide +kernel)
set_option maxRecDepth 20000 in
theorem gL_law_X4_scoreWithout : GoodIn wsL_law (wsV RL 130 RX4 yX4_scoreWithout wsX4_scoreWithout) := goodIn_app (goodIn_of _ (by decide +kernel)) ggL_law_X4_scoreWithout
set_option maxRecDepth 20000 in
theorem ggL_law_L_keyFact : GoodIn wsL_law wsL_keyFact := goodIn_ca (goodIn_r _ [468, 80, 469, 470, 471, 2, 472, 16, 327, 328, 329, 330, 92, 93, 169, 170, 171, 15, 172, 33, 34, 35, 32, 129, 130, 173, 459, 460, 461, 432, 433, 434, 435, 24, 20, 353, 354, 355, 23, 356, 55, 57, 56, 357, 358, 359, 360, 58, 59, 60, 361, 251, 252, 19, 253, 45, 362, 363, 364, 365, 366, 367, 368, 369, 370, 371, 372, 373, 41, 42, 43, 374, 375, 376, 377, 378, 379, 380, 381, 382, 383, 384, 385, 436, 437, 438, 439, 440, 441, 442, 443, 40, 513, 514, 515, 516, 517, 533, 534, 535, 536, 544, 545, 546, 547, 548, 549, 537, 538, 539, 540, 541, 542, 543] (by decide +kernel) (by decide +kernel)) (goodIn_sub (fun _ h => List.mem_append_left _ (List.mem_append_right _ h)) (by decide +kernel))
set_option maxRecDepth 20000 in
theorem gL_law_L_keyFact : GoodIn wsL_law (va_wsS RL 131 yL_keyFact wsL_keyFact) := goodIn_app (goodIn_of _ (by decide +kernel)) ggL_law_L_keyFact
set_option maxRecDepth 20000 in
theorem ggL_law_X4_keyFact : GoodIn wsL_law wsX4_keyFact := goodIn_r _ [476, 102, 339, 340, 341, 5, 342, 343, 344, 345, 106, 107, 108, 109, 110, 111, 112, 113, 178, 179, 180, 181, 68, 66, 67, 448, 449, 450, 451, 216, 70, 74, 398, 399, 400, 401, 402, 403, 404, 405, 71, 72, 73, 406, 407, 408, 409, 518, 519, 520, 521, 522, 523, 524, 525, 526, 527, 528, 529, 530, 531, 532] (by decide +kernel) (by decide +kernel)
set_option maxRecDepth 20000 in
theorem gL_law_X4_keyFact : GoodIn wsL_law (wsV RL 133 RX4 yX4_keyFact wsX4_keyFact) := goodIn_app (goodIn_of _ (by decide +kernel)) ggL_law_X4_keyFact
set_option maxRecDepth 20000 in
theorem ggL_law_X3_verdict : GoodIn wsL_law wsX3_verdict := goodIn_r _ [480, 24, 16, 20, 169, 170, 171, 15, 172, 33, 34, 35, 32, 129, 2, 130, 353, 354, 355, 23, 356, 55, 57, 56, 357, 358, 359, 360, 58, 59, 60, 361, 251, 252, 19, 253, 45, 362, 363, 364, 365, 366, 367, 368, 369, 370, 371, 372, 373, 41, 42, 43, 374, 375, 376, 377, 378, 379, 380, 381, 382, 383, 384, 385, 436, 437, 438, 439, 440, 441, 442, 443, 40, 513, 514, 515, 516, 517, 533, 534, 535, 536, 544, 545, 546, 547, 548, 549, 537, 538, 539, 540, 541, 542, 543] (by decide +kernel) (by decide +kernel)
set_option maxRecDepth 20000 in
theorem gL_law_X3_verdict : GoodIn wsL_law (wsV RL 134 RX3 yX3_verdict wsX3_verdict) := goodIn_app (goodIn_of _ (by decide +kernel)) ggL_law_X3_verdict
set_option maxRecDepth 20000 in
theorem ggL_law_X4_verdict : GoodIn wsL_law wsX4_verdict := goodIn_r _ [484, 113, 448, 449, 450, 5, 451, 216, 70, 74, 398, 399, 400, 401, 102, 178, 179, 180, 181, 68, 66, 67, 402, 403, 404, 405, 71, 72, 73, 406, 407, 408, 409, 518, 519, 520, 521, 522, 523, 524, 525, 526, 527, 528, 529, 530, 531, 532] (by decide +kernel) (by decide +kernel)
set_option maxRecDepth 20000 in
theorem gL_law_X4_verdict : GoodIn wsL_law (wsV RL 137 RX4 yX4_verdict wsX4_verdict) := goodIn_app (goodIn_of _ (by decide +kernel)) ggL_law_X4_verdict
set_option maxRecDepth 20000 in
theorem ggL_law_X3_close : GoodIn wsL_law wsX3_close := goodIn_r _ [488, 16, 24, 20, 26, 27, 169, 170, 171, 15, 172, 33, 34, 35, 32, 129, 2, 130, 353, 354, 355, 23, 356, 55, 57, 56, 357, 358, 359, 360, 58, 59, 60, 361, 251, 252, 19, 253, 45, 362, 363, 364, 365, 366, 367, 368, 369, 370, 371, 372, 373, 41, 42, 43, 374, 375, 376, 377, 378, 379, 380, 381, 382, 383, 384, 385, 489, 490, 491, 492, 436, 437, 438, 439, 440, 441, 442, 443, 40, 493, 494, 495, 496, 44, 46, 47, 48, 49, 50, 513, 514, 515, 516, 517, 533, 534, 535, 536, 544, 545, 546, 547, 548, 549, 537, 538, 539, 540, 541, 542, 543] (by decide +kernel) (by decide +kernel)
set_option maxRecDepth 20000 in
theorem gL_law_X3_close : GoodIn wsL_law (wsV RL 138 RX3 yX3_close wsX3_close) := goodIn_app (goodIn_of _ (by decide +kernel)) ggL_law_X3_close
set_option maxRecDepth 20000 in
theorem ggL_law_X4_close : GoodIn wsL_law wsX4_close := goodIn_r _ [500, 113, 75, 69, 216, 70, 71, 217, 501, 398, 399, 400, 5, 401, 102, 178, 179, 180, 181, 68, 66, 67, 448, 449, 450, 451, 74, 402, 403, 404, 405, 72, 73, 406, 407, 408, 409, 518, 519, 520, 521, 522, 523, 524, 525, 526, 527, 528, 529, 530, 531, 532] (by decide +kernel) (by decide +kernel)
set_option maxRecDepth 20000 in
theorem gL_law_X4_close : GoodIn wsL_law (wsV RL 141 RX4 yX4_close wsX4_close) := goodIn_app (goodIn_of _ (by decide +kernel)) ggL_law_X4_close
set_option maxRecDepth 20000 in
theorem ggL_law_L_reputation : GoodIn wsL_law wsL_reputation := goodIn_ca (goodIn_r _ [504, 80, 505, 506, 507, 2, 508, 26, 327, 328, 329, 330, 92, 93, 513, 514, 515, 516, 517] (by decide +kernel) (by decide +kernel)) (goodIn_sub (fun _ h => List.mem_append_left _ (List.mem_append_right _ h)) (by decide +kernel))
set_option maxRecDepth 20000 in
theorem gL_law_L_reputation : GoodIn wsL_law (va_wsS RL 142 yL_reputation wsL_reputation) := goodIn_app (goodIn_of _ (by decide +kernel)) ggL_law_L_reputation
set_option maxRecDepth 20000 in
theorem ggL_law_X4_reputation : GoodIn wsL_law wsX4_reputation := goodIn_r _ [512, 75, 339, 340, 341, 5, 342, 343, 344, 345, 106, 107, 108, 109, 110, 111, 112, 113, 518, 519, 520, 521, 522, 523, 524, 525, 526, 527, 528, 529, 530, 531, 532] (by decide +kernel) (by decide +kernel)
set_option maxRecDepth 20000 in
theorem gL_law_X4_reputation : GoodIn wsL_law (wsV RL 144 RX4 yX4_reputation wsX4_reputation) := goodIn_app (goodIn_of _ (by decide +kernel)) ggL_law_X4_reputation
