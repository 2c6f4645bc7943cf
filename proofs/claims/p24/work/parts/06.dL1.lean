theorem dL_dice_0 : decode cL_dice 0 = .ok (.iload_n 1, 1) := by decide +kernel
theorem dL_dice_1 : decode cL_dice 1 = .ok (.aload_n 0, 1) := by decide +kernel
theorem dL_dice_2 : decode cL_dice 2 = .ok (.arraylength, 1) := by decide +kernel
theorem dL_dice_3 : decode cL_dice 3 = .ok (.if_icmp .ge 9, 3) := by decide +kernel
theorem dL_dice_6 : decode cL_dice 6 = .ok (.aload_n 0, 1) := by decide +kernel
theorem dL_dice_7 : decode cL_dice 7 = .ok (.iload_n 1, 1) := by decide +kernel
theorem dL_dice_8 : decode cL_dice 8 = .ok (.iaload, 1) := by decide +kernel
theorem dL_dice_9 : decode cL_dice 9 = .ok (.goto 22, 3) := by decide +kernel
theorem dL_dice_12 : decode cL_dice 12 = .ok (.ldc 7, 2) := by decide +kernel
theorem dL_dice_14 : decode cL_dice 14 = .ok (.iload_n 1, 1) := by decide +kernel
theorem dL_dice_15 : decode cL_dice 15 = .ok (.sipush 181, 3) := by decide +kernel
theorem dL_dice_18 : decode cL_dice 18 = .ok (.iadd, 1) := by decide +kernel
theorem dL_dice_19 : decode cL_dice 19 = .ok (.imul, 1) := by decide +kernel
theorem dL_dice_20 : decode cL_dice 20 = .ok (.sipush 593, 3) := by decide +kernel
theorem dL_dice_23 : decode cL_dice 23 = .ok (.iload_n 1, 1) := by decide +kernel
theorem dL_dice_24 : decode cL_dice 24 = .ok (.imul, 1) := by decide +kernel
theorem dL_dice_25 : decode cL_dice 25 = .ok (.iload_n 1, 1) := by decide +kernel
theorem dL_dice_26 : decode cL_dice 26 = .ok (.imul, 1) := by decide +kernel
theorem dL_dice_27 : decode cL_dice 27 = .ok (.iadd, 1) := by decide +kernel
theorem dL_dice_28 : decode cL_dice 28 = .ok (.bipush 89, 2) := by decide +kernel
theorem dL_dice_30 : decode cL_dice 30 = .ok (.iadd, 1) := by decide +kernel
theorem dL_dice_31 : decode cL_dice 31 = .ok (.ldc 8, 2) := by decide +kernel
theorem dL_dice_33 : decode cL_dice 33 = .ok (.iand, 1) := by decide +kernel
theorem dL_dice_34 : decode cL_dice 34 = .ok (.ireturn, 1) := by decide +kernel
set_option maxRecDepth 20000 in
theorem ggL_act_X3_addFact : GoodIn wsL_act wsX3_addFact := goodIn_ca (goodIn_ca (goodIn_r _ [8, 9, 10, 11, 12, 13, 14, 7, 15, 16, 17, 18, 19, 20, 21, 22, 23, 24, 108, 109, 110, 111, 112, 113, 114, 115, 116] (by decide +kernel) (by decide +kernel)) (goodIn_sub (fun _ h => List.mem_cons_of_mem _ (List.mem_append_left _ (List.mem_append_left _ (List.mem_append_right _ h)))) (by decide +kernel))) (goodIn_sub (fun _ h => List.mem_cons_of_mem _ (List.mem_append_left _ (List.mem_append_right _ h))) (by decide +kernel))
set_option maxRecDepth 20000 in
theorem gL_act_X3_addFact : GoodIn wsL_act (wsV RL 9 RX3 yX3_addFact wsX3_addFact) := goodIn_app (goodIn_of _ (by decide +kernel)) ggL_act_X3_addFact
set_option maxRecDepth 20000 in
theorem ggL_act_X3_toggleSource : GoodIn wsL_act wsX3_toggleSource := goodIn_ca (goodIn_r _ [28, 11, 12, 13, 14, 7, 15, 16, 17, 29, 30, 31, 21, 32, 33, 34, 35, 108, 109, 110, 111, 112, 113, 114, 115, 116] (by decide +kernel) (by decide +kernel)) (goodIn_sub (fun _ h => List.mem_cons_of_mem _ (List.mem_append_left _ (List.mem_append_right _ h))) (by decide +kernel))
set_option maxRecDepth 20000 in
theorem gL_act_X3_toggleSource : GoodIn wsL_act (wsV RL 15 RX3 yX3_toggleSource wsX3_toggleSource) := goodIn_app (goodIn_of _ (by decide +kernel)) ggL_act_X3_toggleSource
set_option maxRecDepth 20000 in
theorem ggL_act_X3_withdraw : GoodIn wsL_act wsX3_withdraw := goodIn_ca (goodIn_r _ [39, 11, 40, 41, 42, 7, 43, 16, 17, 44, 45, 46, 21, 47, 23, 48, 49, 50, 51, 52, 34, 35, 108, 109, 110, 111, 112, 113, 114, 115, 116] (by decide +kernel) (by decide +kernel)) (goodIn_sub (fun _ h => List.mem_cons_of_mem _ (List.mem_append_left _ (List.mem_append_right _ h))) (by decide +kernel))
set_option maxRecDepth 20000 in
theorem gL_act_X3_withdraw : GoodIn wsL_act (wsV RL 19 RX3 yX3_withdraw wsX3_withdraw) := goodIn_app (goodIn_of _ (by decide +kernel)) ggL_act_X3_withdraw
set_option maxRecDepth 20000 in
theorem ggL_act_X3_claim : GoodIn wsL_act wsX3_claim := goodIn_ca (goodIn_ca (goodIn_r _ [56, 57, 58, 9, 10, 11, 59, 60, 61, 62, 21, 63, 23, 64, 65, 66, 67, 68, 69, 70, 71, 72, 73, 74, 75, 76, 77, 78, 79, 108, 109, 110, 111, 112, 113, 114, 115, 116, 117, 118, 119, 120, 121, 122, 123] (by decide +kernel) (by decide +kernel)) (goodIn_sub (fun _ h => List.mem_cons_of_mem _ (List.mem_append_right _ h)) (by decide +kernel))) (goodIn_sub (fun _ h => List.mem_cons_of_mem _ (List.mem_append_left _ (List.mem_append_left _ (List.mem_append_right _ h)))) (by decide +kernel))
set_option maxRecDepth 20000 in
theorem gL_act_X3_claim : GoodIn wsL_act (wsV RL 22 RX3 yX3_claim wsX3_claim) := goodIn_app (goodIn_of _ (by decide +kernel)) ggL_act_X3_claim
set_option maxRecDepth 20000 in
theorem ggL_act_X3_rest : GoodIn wsL_act wsX3_rest := goodIn_ca (goodIn_ca (goodIn_r _ [83, 59, 84, 85, 86, 7, 87, 57, 58, 88, 89, 90, 91, 16, 17, 92, 93, 94, 67, 95, 69, 96, 97, 98, 99, 74, 34, 35, 108, 109, 110, 111, 112, 117, 118, 119, 120, 121, 122, 123] (by decide +kernel) (by decide +kernel)) (goodIn_sub (fun _ h => List.mem_cons_of_mem _ (List.mem_append_right _ h)) (by decide +kernel))) (goodIn_sub (fun _ h => List.mem_cons_of_mem _ (List.mem_append_left _ (List.mem_append_right _ h))) (by decide +kernel))
set_option maxRecDepth 20000 in
theorem gL_act_X3_rest : GoodIn wsL_act (wsV RL 26 RX3 yX3_rest wsX3_rest) := goodIn_app (goodIn_of _ (by decide +kernel)) ggL_act_X3_rest
set_option maxRecDepth 20000 in
theorem ggL_act_X3_attack : GoodIn wsL_act wsX3_attack := goodIn_ca (goodIn_ca (goodIn_r _ [103, 59, 84, 85, 86, 7, 87, 57, 58, 88, 89, 90, 91, 16, 17, 92, 93, 94, 67, 95, 69, 104, 105, 106, 107, 75, 34, 35, 108, 109, 110, 111, 112, 117, 118, 119, 120, 121, 122, 123] (by decide +kernel) (by decide +kernel)) (goodIn_sub (fun _ h => List.mem_cons_of_mem _ (List.mem_append_right _ h)) (by decide +kernel))) (goodIn_sub (fun _ h => List.mem_cons_of_mem _ (List.mem_append_left _ (List.mem_append_right _ h))) (by decide +kernel))
set_option maxRecDepth 20000 in
theorem gL_act_X3_attack : GoodIn wsL_act (wsV RL 30 RX3 yX3_attack wsX3_attack) := goodIn_app (goodIn_of _ (by decide +kernel)) ggL_act_X3_attack
theorem dL_act_0 : decode cL_act 0 = .ok (.iload_n 1, 1) := by decide +kernel
theorem dL_act_1 : decode cL_act 1 = .ok (.ifCond .ne 11, 3) := by decide +kernel
theorem dL_act_4 : decode cL_act 4 = .ok (.aload_n 0, 1) := by decide +kernel
theorem dL_act_5 : decode cL_act 5 = .ok (.iload_n 2, 1) := by decide +kernel
theorem dL_act_6 : decode cL_act 6 = .ok (.invokevirtual 9, 3) := by decide +kernel
theorem dL_act_9 : decode cL_act 9 = .ok (.goto 95, 3) := by decide +kernel
theorem dL_act_12 : decode cL_act 12 = .ok (.iload_n 1, 1) := by decide +kernel
theorem dL_act_13 : decode cL_act 13 = .ok (.iconst 1, 1) := by decide +kernel
theorem dL_act_14 : decode cL_act 14 = .ok (.if_icmp .ne 19, 3) := by decide +kernel
theorem dL_act_17 : decode cL_act 17 = .ok (.aload_n 0, 1) := by decide +kernel
theorem dL_act_18 : decode cL_act 18 = .ok (.iload_n 2, 1) := by decide +kernel
theorem dL_act_19 : decode cL_act 19 = .ok (.invokevirtual 15, 3) := by decide +kernel
theorem dL_act_22 : decode cL_act 22 = .ok (.ifCond .eq 7, 3) := by decide +kernel
theorem dL_act_25 : decode cL_act 25 = .ok (.iconst 1, 1) := by decide +kernel
theorem dL_act_26 : decode cL_act 26 = .ok (.goto 78, 3) := by decide +kernel
theorem dL_act_29 : decode cL_act 29 = .ok (.iconst 0, 1) := by decide +kernel
theorem dL_act_30 : decode cL_act 30 = .ok (.goto 74, 3) := by decide +kernel
theorem dL_act_33 : decode cL_act 33 = .ok (.iload_n 1, 1) := by decide +kernel
theorem dL_act_34 : decode cL_act 34 = .ok (.iconst 2, 1) := by decide +kernel
theorem dL_act_35 : decode cL_act 35 = .ok (.if_icmp .ne 19, 3) := by decide +kernel
theorem dL_act_38 : decode cL_act 38 = .ok (.aload_n 0, 1) := by decide +kernel
theorem dL_act_39 : decode cL_act 39 = .ok (.iload_n 2, 1) := by decide +kernel
theorem dL_act_40 : decode cL_act 40 = .ok (.invokevirtual 19, 3) := by decide +kernel
theorem dL_act_43 : decode cL_act 43 = .ok (.ifCond .eq 7, 3) := by decide +kernel
theorem dL_act_46 : decode cL_act 46 = .ok (.iconst 1, 1) := by decide +kernel
theorem dL_act_47 : decode cL_act 47 = .ok (.goto 57, 3) := by decide +kernel
theorem dL_act_50 : decode cL_act 50 = .ok (.iconst 0, 1) := by decide +kernel
theorem dL_act_51 : decode cL_act 51 = .ok (.goto 53, 3) := by decide +kernel
theorem dL_act_54 : decode cL_act 54 = .ok (.iload_n 1, 1) := by decide +kernel
theorem dL_act_55 : decode cL_act 55 = .ok (.iconst 3, 1) := by decide +kernel
theorem dL_act_56 : decode cL_act 56 = .ok (.if_icmp .ne 12, 3) := by decide +kernel
theorem dL_act_59 : decode cL_act 59 = .ok (.aload_n 0, 1) := by decide +kernel
theorem dL_act_60 : decode cL_act 60 = .ok (.iload_n 2, 1) := by decide +kernel
theorem dL_act_61 : decode cL_act 61 = .ok (.iload_n 3, 1) := by decide +kernel
theorem dL_act_62 : decode cL_act 62 = .ok (.invokevirtual 22, 3) := by decide +kernel
theorem dL_act_65 : decode cL_act 65 = .ok (.goto 39, 3) := by decide +kernel
theorem dL_act_68 : decode cL_act 68 = .ok (.iload_n 1, 1) := by decide +kernel
theorem dL_act_69 : decode cL_act 69 = .ok (.iconst 4, 1) := by decide +kernel
theorem dL_act_70 : decode cL_act 70 = .ok (.if_icmp .ne 20, 3) := by decide +kernel
theorem dL_act_73 : decode cL_act 73 = .ok (.aload_n 0, 1) := by decide +kernel
theorem dL_act_74 : decode cL_act 74 = .ok (.iload_n 2, 1) := by decide +kernel
theorem dL_act_75 : decode cL_act 75 = .ok (.iload_n 3, 1) := by decide +kernel
theorem dL_act_76 : decode cL_act 76 = .ok (.invokevirtual 26, 3) := by decide +kernel
theorem dL_act_79 : decode cL_act 79 = .ok (.ifCond .eq 7, 3) := by decide +kernel
theorem dL_act_82 : decode cL_act 82 = .ok (.iconst 1, 1) := by decide +kernel
theorem dL_act_83 : decode cL_act 83 = .ok (.goto 21, 3) := by decide +kernel
theorem dL_act_86 : decode cL_act 86 = .ok (.iconst 0, 1) := by decide +kernel
theorem dL_act_87 : decode cL_act 87 = .ok (.goto 17, 3) := by decide +kernel
theorem dL_act_90 : decode cL_act 90 = .ok (.aload_n 0, 1) := by decide +kernel
theorem dL_act_91 : decode cL_act 91 = .ok (.iload_n 2, 1) := by decide +kernel
theorem dL_act_92 : decode cL_act 92 = .ok (.iload_n 3, 1) := by decide +kernel
theorem dL_act_93 : decode cL_act 93 = .ok (.invokevirtual 30, 3) := by decide +kernel
theorem dL_act_96 : decode cL_act 96 = .ok (.ifCond .eq 7, 3) := by decide +kernel
theorem dL_act_99 : decode cL_act 99 = .ok (.iconst 1, 1) := by decide +kernel
theorem dL_act_100 : decode cL_act 100 = .ok (.goto 4, 3) := by decide +kernel
theorem dL_act_103 : decode cL_act 103 = .ok (.iconst 0, 1) := by decide +kernel
theorem dL_act_104 : decode cL_act 104 = .ok (.ireturn, 1) := by decide +kernel
theorem dL_act_105 : decode cL_act 105 = .ok (.astore 4, 2) := by decide +kernel
theorem dL_act_107 : decode cL_act 107 = .ok (.sipush (-1021), 3) := by decide +kernel
theorem dL_act_110 : decode cL_act 110 = .ok (.ireturn, 1) := by decide +kernel
theorem dL_act_111 : decode cL_act 111 = .ok (.astore 4, 2) := by decide +kernel
theorem dL_act_113 : decode cL_act 113 = .ok (.sipush (-1022), 3) := by decide +kernel
theorem dL_act_116 : decode cL_act 116 = .ok (.ireturn, 1) := by decide +kernel
theorem dL_act_117 : decode cL_act 117 = .ok (.astore 4, 2) := by decide +kernel
theorem dL_act_119 : decode cL_act 119 = .ok (.sipush (-1023), 3) := by decide +kernel
theorem dL_act_122 : decode cL_act 122 = .ok (.ireturn, 1) := by decide +kernel
set_option maxRecDepth 20000 in
theorem ggL_of_X3_factStands : GoodIn wsL_of wsX3_factStands := goodIn_ca (goodIn_r _ [6, 7, 8, 9, 10, 5, 11, 12, 13, 14, 15, 16, 17, 18, 19, 20, 21, 22, 23, 24, 25, 26, 27, 28, 29, 155, 156, 157, 158, 159, 160, 161, 162, 163] (by decide +kernel) (by decide +kernel)) (goodIn_sub (fun _ h => List.mem_cons_of_mem _ (List.mem_append_right _ h)) (by decide +kernel))
set_option maxRecDepth 20000 in
theorem gL_of_X3_factStands : GoodIn wsL_of (wsV RL 39 RX3 yX3_factStands wsX3_factStands) := goodIn_app (goodIn_of _ (by decide +kernel)) ggL_of_X3_factStands
set_option maxRecDepth 20000 in
theorem ggL_of_X3_playerOf : GoodIn wsL_of wsX3_playerOf := goodIn_ca (goodIn_r _ [33, 34, 35, 36, 37, 5, 38, 12, 13, 39, 40, 41, 42, 43, 44, 45, 46, 47, 48, 49, 155, 156, 157, 158, 159, 164, 165, 166, 167, 168, 169, 170] (by decide +kernel) (by decide +kernel)) (goodIn_sub (fun _ h => List.mem_cons_of_mem _ (List.mem_append_right _ h)) (by decide +kernel))
set_option maxRecDepth 20000 in
theorem gL_of_X3_playerOf : GoodIn wsL_of (wsV RL 42 RX3 yX3_playerOf wsX3_playerOf) := goodIn_app (goodIn_of _ (by decide +kernel)) ggL_of_X3_playerOf
set_option maxRecDepth 20000 in
theorem ggL_of_X3_bank : GoodIn wsL_of wsX3_bank := goodIn_ca (goodIn_r _ [53, 34, 54, 55, 56, 5, 57, 12, 13, 58, 59, 60, 42, 61, 62, 155, 156, 157, 158, 159, 164, 165, 166, 167, 168, 169, 170] (by decide +kernel) (by decide +kernel)) (goodIn_sub (fun _ h => List.mem_cons_of_mem _ (List.mem_append_right _ h)) (by decide +kernel))
set_option maxRecDepth 20000 in
theorem gL_of_X3_bank : GoodIn wsL_of (wsV RL 45 RX3 yX3_bank wsX3_bank) := goodIn_app (goodIn_of _ (by decide +kernel)) ggL_of_X3_bank
set_option maxRecDepth 20000 in
theorem ggL_of_X3_stateOf : GoodIn wsL_of wsX3_stateOf := goodIn_ca (goodIn_r _ [66, 67, 7, 35, 36, 37, 5, 38, 12, 13, 34, 39, 40, 41, 42, 43, 44, 20, 21, 22, 17, 23, 19, 24, 25, 26, 27, 28, 68, 69, 70, 71, 72, 73, 74, 75, 76, 77, 78, 79, 80, 81, 82, 83, 84, 85, 86, 87, 88, 89, 90, 91, 92, 93, 94, 95, 96, 97, 98, 99, 100, 101, 102, 103, 104, 105, 106, 107, 108, 109, 110, 111, 112, 113, 114, 155, 156, 157, 158, 159, 164, 165, 166, 167, 168, 169, 170, 160, 161, 162, 163, 171, 172, 173, 174, 175, 176] (by decide +kernel) (by decide +kernel)) (goodIn_sub (fun _ h => List.mem_cons_of_mem _ (List.mem_append_right _ h)) (by decide +kernel))
set_option maxRecDepth 20000 in
theorem gL_of_X3_stateOf : GoodIn wsL_of (wsV RL 48 RX3 yX3_stateOf wsX3_stateOf) := goodIn_app (goodIn_of _ (by decide +kernel)) ggL_of_X3_stateOf
set_option maxRecDepth 20000 in
theorem ggL_of_X3_stateByRounds : GoodIn wsL_of wsX3_stateByRounds := goodIn_ca (goodIn_r _ [118, 67, 7, 35, 36, 37, 5, 38, 12, 13, 34, 39, 40, 41, 42, 43, 44, 20, 21, 22, 17, 23, 19, 24, 25, 26, 27, 28, 119, 120, 121, 71, 122, 73, 76, 77, 78, 79, 74, 80, 81, 82, 83, 88, 89, 90, 91, 92, 93, 94, 95, 96, 97, 98, 99, 100, 101, 102, 111, 112, 113, 114, 155, 156, 157, 158, 159, 164, 165, 166, 167, 168, 169, 170, 160, 161, 162, 163, 171, 172, 173, 174, 175, 176] (by decide +kernel) (by decide +kernel)) (goodIn_sub (fun _ h => List.mem_cons_of_mem _ (List.mem_append_right _ h)) (by decide +kernel))
set_option maxRecDepth 20000 in
theorem gL_of_X3_stateByRounds : GoodIn wsL_of (wsV RL 51 RX3 yX3_stateByRounds wsX3_stateByRounds) := goodIn_app (goodIn_of _ (by decide +kernel)) ggL_of_X3_stateByRounds
set_option maxRecDepth 20000 in
theorem ggL_of_X3_score : GoodIn wsL_of wsX3_score := goodIn_ca (goodIn_r _ [126, 7, 54, 55, 56, 5, 57, 12, 13, 20, 21, 22, 17, 23, 19, 24, 25, 26, 27, 28, 127, 128, 129, 130, 67, 34, 68, 69, 70, 71, 72, 73, 74, 75, 76, 77, 78, 79, 80, 81, 82, 83, 40, 41, 42, 43, 44, 84, 85, 86, 87, 88, 89, 90, 91, 92, 93, 94, 95, 96, 97, 98, 99, 100, 101, 102, 103, 104, 105, 106, 107, 108, 109, 110, 131, 132, 133, 134, 135, 136, 137, 138, 49, 155, 156, 157, 158, 159, 160, 161, 162, 163, 171, 172, 173, 174, 175, 176, 164, 165, 166, 167, 168, 169, 170] (by decide +kernel) (by decide +kernel)) (goodIn_sub (fun _ h => List.mem_cons_of_mem _ (List.mem_append_right _ h)) (by decide +kernel))
set_option maxRecDepth 20000 in
theorem gL_of_X3_score : GoodIn wsL_of (wsV RL 54 RX3 yX3_score wsX3_score) := goodIn_app (goodIn_of _ (by decide +kernel)) ggL_of_X3_score
set_option maxRecDepth 20000 in
theorem ggL_of_X3_scoreWithout : GoodIn wsL_of wsX3_scoreWithout := goodIn_ca (goodIn_r _ [142, 7, 54, 55, 56, 5, 57, 12, 13, 8, 9, 10, 11, 14, 15, 16, 17, 18, 19, 20, 21, 22, 23, 24, 25, 26, 27, 28, 143, 144, 145, 127, 128, 129, 130, 67, 34, 68, 69, 70, 71, 72, 73, 74, 75, 76, 77, 78, 79, 80, 81, 82, 83, 40, 41, 42, 43, 44, 84, 85, 86, 87, 88, 89, 90, 91, 92, 93, 94, 95, 96, 97, 98, 99, 100, 101, 102, 103, 104, 105, 106, 107, 108, 109, 110, 131, 132, 133, 134, 135, 136, 137, 138, 49, 155, 156, 157, 158, 159, 160, 161, 162, 163, 171, 172, 173, 174, 175, 176, 164, 165, 166, 167, 168, 169, 170] (by decide +kernel) (by decide +kernel)) (goodIn_sub (fun _ h => List.mem_cons_of_mem _ (List.mem_append_right _ h)) (by decide +kernel))
set_option maxRecDepth 20000 in
theorem gL_of_X3_scoreWithout : GoodIn wsL_of (wsV RL 57 RX3 yX3_scoreWithout wsX3_scoreWithout) := goodIn_app (goodIn_of _ (by decide +kernel)) ggL_of_X3_scoreWithout
set_option maxRecDepth 20000 in
theorem ggL_of_X3_keyFact : GoodIn wsL_of wsX3_keyFact := goodIn_ca (goodIn_r _ [149, 7, 54, 55, 56, 5, 57, 12, 13, 20, 21, 22, 17, 23, 19, 24, 25, 26, 27, 28, 29, 143, 144, 145, 127, 128, 129, 130, 67, 34, 68, 69, 70, 71, 72, 73, 74, 75, 76, 77, 78, 79, 80, 81, 82, 83, 40, 41, 42, 43, 44, 84, 85, 86, 87, 88, 89, 90, 91, 92, 93, 94, 95, 96, 97, 98, 99, 100, 101, 102, 103, 104, 105, 106, 107, 108, 109, 110, 131, 132, 133, 134, 135, 136, 137, 138, 49, 155, 156, 157, 158, 159, 160, 161, 162, 163, 171, 172, 173, 174, 175, 176, 164, 165, 166, 167, 168, 169, 170] (by decide +kernel) (by decide +kernel)) (goodIn_sub (fun _ h => List.mem_cons_of_mem _ (List.mem_append_right _ h)) (by decide +kernel))
set_option maxRecDepth 20000 in
theorem gL_of_X3_keyFact : GoodIn wsL_of (wsV RL 60 RX3 yX3_keyFact wsX3_keyFact) := goodIn_app (goodIn_of _ (by decide +kernel)) ggL_of_X3_keyFact
set_option maxRecDepth 20000 in
theorem ggL_of_X3_reputation : GoodIn wsL_of wsX3_reputation := goodIn_ca (goodIn_r _ [153, 154, 54, 55, 56, 5, 57, 12, 13, 155, 156, 157, 158, 159] (by decide +kernel) (by decide +kernel)) (goodIn_sub (fun _ h => List.mem_cons_of_mem _ (List.mem_append_right _ h)) (by decide +kernel))
set_option maxRecDepth 20000 in
theorem gL_of_X3_reputation : GoodIn wsL_of (wsV RL 63 RX3 yX3_reputation wsX3_reputation) := goodIn_app (goodIn_of _ (by decide +kernel)) ggL_of_X3_reputation
theorem dL_of_0 : decode cL_of 0 = .ok (.iload_n 1, 1) := by decide +kernel
theorem dL_of_1 : decode cL_of 1 = .ok (.ifCond .ne 19, 3) := by decide +kernel
theorem dL_of_4 : decode cL_of 4 = .ok (.aload_n 0, 1) := by decide +kernel
theorem dL_of_5 : decode cL_of 5 = .ok (.iload_n 2, 1) := by decide +kernel
theorem dL_of_6 : decode cL_of 6 = .ok (.invokevirtual 39, 3) := by decide +kernel
theorem dL_of_9 : decode cL_of 9 = .ok (.ifCond .eq 7, 3) := by decide +kernel
theorem dL_of_12 : decode cL_of 12 = .ok (.iconst 1, 1) := by decide +kernel
theorem dL_of_13 : decode cL_of 13 = .ok (.goto 106, 3) := by decide +kernel
theorem dL_of_16 : decode cL_of 16 = .ok (.iconst 0, 1) := by decide +kernel
theorem dL_of_17 : decode cL_of 17 = .ok (.goto 102, 3) := by decide +kernel
theorem dL_of_20 : decode cL_of 20 = .ok (.iload_n 1, 1) := by decide +kernel
theorem dL_of_21 : decode cL_of 21 = .ok (.iconst 1, 1) := by decide +kernel
theorem dL_of_22 : decode cL_of 22 = .ok (.if_icmp .ne 11, 3) := by decide +kernel
theorem dL_of_25 : decode cL_of 25 = .ok (.aload_n 0, 1) := by decide +kernel
theorem dL_of_26 : decode cL_of 26 = .ok (.iload_n 2, 1) := by decide +kernel
theorem dL_of_27 : decode cL_of 27 = .ok (.invokevirtual 42, 3) := by decide +kernel
theorem dL_of_30 : decode cL_of 30 = .ok (.goto 89, 3) := by decide +kernel
theorem dL_of_33 : decode cL_of 33 = .ok (.iload_n 1, 1) := by decide +kernel
theorem dL_of_34 : decode cL_of 34 = .ok (.iconst 2, 1) := by decide +kernel
theorem dL_of_35 : decode cL_of 35 = .ok (.if_icmp .ne 11, 3) := by decide +kernel
theorem dL_of_38 : decode cL_of 38 = .ok (.aload_n 0, 1) := by decide +kernel
theorem dL_of_39 : decode cL_of 39 = .ok (.iload_n 2, 1) := by decide +kernel
theorem dL_of_40 : decode cL_of 40 = .ok (.invokevirtual 45, 3) := by decide +kernel
theorem dL_of_43 : decode cL_of 43 = .ok (.goto 76, 3) := by decide +kernel
theorem dL_of_46 : decode cL_of 46 = .ok (.iload_n 1, 1) := by decide +kernel
theorem dL_of_47 : decode cL_of 47 = .ok (.iconst 3, 1) := by decide +kernel
theorem dL_of_48 : decode cL_of 48 = .ok (.if_icmp .ne 11, 3) := by decide +kernel
theorem dL_of_51 : decode cL_of 51 = .ok (.aload_n 0, 1) := by decide +kernel
theorem dL_of_52 : decode cL_of 52 = .ok (.iload_n 2, 1) := by decide +kernel
theorem dL_of_53 : decode cL_of 53 = .ok (.invokevirtual 48, 3) := by decide +kernel
theorem dL_of_56 : decode cL_of 56 = .ok (.goto 63, 3) := by decide +kernel
theorem dL_of_59 : decode cL_of 59 = .ok (.iload_n 1, 1) := by decide +kernel
theorem dL_of_60 : decode cL_of 60 = .ok (.iconst 4, 1) := by decide +kernel
theorem dL_of_61 : decode cL_of 61 = .ok (.if_icmp .ne 11, 3) := by decide +kernel
theorem dL_of_64 : decode cL_of 64 = .ok (.aload_n 0, 1) := by decide +kernel
theorem dL_of_65 : decode cL_of 65 = .ok (.iload_n 2, 1) := by decide +kernel
theorem dL_of_66 : decode cL_of 66 = .ok (.invokevirtual 51, 3) := by decide +kernel
theorem dL_of_69 : decode cL_of 69 = .ok (.goto 50, 3) := by decide +kernel
theorem dL_of_72 : decode cL_of 72 = .ok (.iload_n 1, 1) := by decide +kernel
theorem dL_of_73 : decode cL_of 73 = .ok (.iconst 5, 1) := by decide +kernel
theorem dL_of_74 : decode cL_of 74 = .ok (.if_icmp .ne 11, 3) := by decide +kernel
theorem dL_of_77 : decode cL_of 77 = .ok (.aload_n 0, 1) := by decide +kernel
theorem dL_of_78 : decode cL_of 78 = .ok (.iload_n 2, 1) := by decide +kernel
theorem dL_of_79 : decode cL_of 79 = .ok (.invokevirtual 54, 3) := by decide +kernel
theorem dL_of_82 : decode cL_of 82 = .ok (.goto 37, 3) := by decide +kernel
theorem dL_of_85 : decode cL_of 85 = .ok (.iload_n 1, 1) := by decide +kernel
theorem dL_of_86 : decode cL_of 86 = .ok (.bipush 6, 2) := by decide +kernel
theorem dL_of_88 : decode cL_of 88 = .ok (.if_icmp .ne 12, 3) := by decide +kernel
theorem dL_of_91 : decode cL_of 91 = .ok (.aload_n 0, 1) := by decide +kernel
theorem dL_of_92 : decode cL_of 92 = .ok (.iload_n 2, 1) := by decide +kernel
theorem dL_of_93 : decode cL_of 93 = .ok (.iload_n 3, 1) := by decide +kernel
theorem dL_of_94 : decode cL_of 94 = .ok (.invokevirtual 57, 3) := by decide +kernel
theorem dL_of_97 : decode cL_of 97 = .ok (.goto 22, 3) := by decide +kernel
theorem dL_of_100 : decode cL_of 100 = .ok (.iload_n 1, 1) := by decide +kernel
theorem dL_of_101 : decode cL_of 101 = .ok (.bipush 7, 2) := by decide +kernel
theorem dL_of_103 : decode cL_of 103 = .ok (.if_icmp .ne 11, 3) := by decide +kernel
theorem dL_of_106 : decode cL_of 106 = .ok (.aload_n 0, 1) := by decide +kernel
theorem dL_of_107 : decode cL_of 107 = .ok (.iload_n 2, 1) := by decide +kernel
theorem dL_of_108 : decode cL_of 108 = .ok (.invokevirtual 60, 3) := by decide +kernel
theorem dL_of_111 : decode cL_of 111 = .ok (.goto 8, 3) := by decide +kernel
theorem dL_of_114 : decode cL_of 114 = .ok (.aload_n 0, 1) := by decide +kernel
theorem dL_of_115 : decode cL_of 115 = .ok (.iload_n 2, 1) := by decide +kernel
theorem dL_of_116 : decode cL_of 116 = .ok (.invokevirtual 63, 3) := by decide +kernel
theorem dL_of_119 : decode cL_of 119 = .ok (.ireturn, 1) := by decide +kernel
theorem dL_of_120 : decode cL_of 120 = .ok (.astore 4, 2) := by decide +kernel
theorem dL_of_122 : decode cL_of 122 = .ok (.sipush (-1021), 3) := by decide +kernel
theorem dL_of_125 : decode cL_of 125 = .ok (.ireturn, 1) := by decide +kernel
set_option maxRecDepth 20000 in
theorem ggL_all_X3_facts : GoodIn wsL_all wsX3_facts := goodIn_r _ [11, 12, 13, 14, 15, 16, 17, 18, 145, 146, 147, 148, 149, 150, 151, 152, 153] (by decide +kernel) (by decide +kernel)
set_option maxRecDepth 20000 in
theorem gL_all_X3_facts : GoodIn wsL_all (wsV RL 66 RX3 yX3_facts wsX3_facts) := goodIn_app (goodIn_of _ (by decide +kernel)) ggL_all_X3_facts
set_option maxRecDepth 20000 in
theorem ggL_all_X3_claims : GoodIn wsL_all wsX3_claims := goodIn_r _ [22, 23, 24, 25, 26, 27, 28, 29, 145, 146, 147, 148, 149, 154, 155, 156, 157, 158, 159, 160] (by decide +kernel) (by decide +kernel)
set_option maxRecDepth 20000 in
theorem gL_all_X3_claims : GoodIn wsL_all (wsV RL 72 RX3 yX3_claims wsX3_claims) := goodIn_app (goodIn_of _ (by decide +kernel)) ggL_all_X3_claims
set_option maxRecDepth 20000 in
theorem ggL_all_X3_turn : GoodIn wsL_all wsX3_turn := goodIn_r _ [33, 23, 34, 35, 36, 27, 37, 38, 145, 146, 147, 148, 149, 154, 155, 156, 157, 158, 159, 160] (by decide +kernel) (by decide +kernel)
set_option maxRecDepth 20000 in
theorem gL_all_X3_turn : GoodIn wsL_all (wsV RL 77 RX3 yX3_turn wsX3_turn) := goodIn_app (goodIn_of _ (by decide +kernel)) ggL_all_X3_turn
set_option maxRecDepth 20000 in
theorem ggL_all_X3_verdict : GoodIn wsL_all wsX3_verdict := goodIn_r _ [42, 43, 12, 23, 44, 45, 46, 16, 47, 18, 48, 49, 50, 51, 10, 52, 53, 54, 55, 56, 57, 58, 59, 60, 61, 62, 63, 64, 65, 66, 67, 68, 25, 26, 27, 28, 29, 69, 70, 71, 72, 73, 74, 75, 76, 77, 78, 79, 80, 81, 82, 83, 84, 85, 86, 87, 88, 89, 90, 91, 92, 93, 94, 95, 96, 97, 98, 99, 100, 101, 102, 103, 104, 145, 146, 147, 148, 149, 150, 151, 152, 153, 161, 162, 163, 164, 165, 166, 154, 155, 156, 157, 158, 159, 160] (by decide +kernel) (by decide +kernel)
set_option maxRecDepth 20000 in
theorem gL_all_X3_verdict : GoodIn wsL_all (wsV RL 82 RX3 yX3_verdict wsX3_verdict) := goodIn_app (goodIn_of _ (by decide +kernel)) ggL_all_X3_verdict
set_option maxRecDepth 20000 in
theorem ggL_all_X3_stateOf : GoodIn wsL_all wsX3_stateOf := goodIn_ca (goodIn_r _ [108, 43, 12, 109, 110, 111, 10, 112, 113, 114, 23, 24, 25, 26, 27, 28, 29, 44, 45, 46, 16, 47, 18, 48, 49, 50, 51, 52, 53, 54, 55, 56, 57, 58, 59, 60, 61, 62, 63, 64, 65, 66, 67, 68, 69, 70, 71, 72, 73, 74, 75, 76, 77, 78, 79, 80, 81, 82, 83, 84, 85, 86, 87, 88, 89, 90, 91, 92, 93, 94, 95, 115, 116, 117, 118, 145, 146, 147, 148, 149, 154, 155, 156, 157, 158, 159, 160, 150, 151, 152, 153, 161, 162, 163, 164, 165, 166] (by decide +kernel) (by decide +kernel)) (goodIn_sub (fun _ h => List.mem_cons_of_mem _ (List.mem_append_right _ h)) (by decide +kernel))
set_option maxRecDepth 20000 in
theorem gL_all_X3_stateOf : GoodIn wsL_all (wsV RL 48 RX3 yX3_stateOf wsX3_stateOf) := goodIn_app (goodIn_of _ (by decide +kernel)) ggL_all_X3_stateOf
set_option maxRecDepth 20000 in
theorem ggL_all_X3_bank : GoodIn wsL_all wsX3_bank := goodIn_ca (goodIn_r _ [122, 23, 123, 124, 125, 10, 126, 113, 114, 127, 128, 129, 27, 130, 131, 145, 146, 147, 148, 149, 154, 155, 156, 157, 158, 159, 160] (by decide +kernel) (by decide +kernel)) (goodIn_sub (fun _ h => List.mem_cons_of_mem _ (List.mem_append_right _ h)) (by decide +kernel))
set_option maxRecDepth 20000 in
theorem gL_all_X3_bank : GoodIn wsL_all (wsV RL 45 RX3 yX3_bank wsX3_bank) := goodIn_app (goodIn_of _ (by decide +kernel)) ggL_all_X3_bank
set_option maxRecDepth 20000 in
theorem ggL_all_X3_score : GoodIn wsL_all wsX3_score := goodIn_ca (goodIn_r _ [135, 12, 123, 124, 125, 10, 126, 113, 114, 44, 45, 46, 16, 47, 18, 48, 49, 50, 51, 52, 136, 137, 138, 139, 43, 23, 53, 54, 55, 56, 57, 58, 59, 60, 61, 62, 63, 64, 65, 66, 67, 68, 25, 26, 27, 28, 29, 69, 70, 71, 72, 73, 74, 75, 76, 77, 78, 79, 80, 81, 82, 83, 84, 85, 86, 87, 88, 89, 90, 91, 92, 93, 94, 95, 96, 97, 98, 99, 100, 101, 102, 103, 104, 145, 146, 147, 148, 149, 150, 151, 152, 153, 161, 162, 163, 164, 165, 166, 154, 155, 156, 157, 158, 159, 160] (by decide +kernel) (by decide +kernel)) (goodIn_sub (fun _ h => List.mem_cons_of_mem _ (List.mem_append_right _ h)) (by decide +kernel))
set_option maxRecDepth 20000 in
theorem gL_all_X3_score : GoodIn wsL_all (wsV RL 54 RX3 yX3_score wsX3_score) := goodIn_app (goodIn_of _ (by decide +kernel)) ggL_all_X3_score
set_option maxRecDepth 20000 in
theorem ggL_all_X3_reputation : GoodIn wsL_all wsX3_reputation := goodIn_ca (goodIn_r _ [143, 144, 123, 124, 125, 10, 126, 113, 114, 145, 146, 147, 148, 149] (by decide +kernel) (by decide +kernel)) (goodIn_sub (fun _ h => List.mem_cons_of_mem _ (List.mem_append_right _ h)) (by decide +kernel))
set_option maxRecDepth 20000 in
theorem gL_all_X3_reputation : GoodIn wsL_all (wsV RL 63 RX3 yX3_reputation wsX3_reputation) := goodIn_app (goodIn_of _ (by decide +kernel)) ggL_all_X3_reputation
theorem dL_all_0 : decode cL_all 0 = .ok (.aload_n 0, 1) := by decide +kernel
theorem dL_all_1 : decode cL_all 1 = .ok (.invokevirtual 66, 3) := by decide +kernel
theorem dL_all_4 : decode cL_all 4 = .ok (.i2l, 1) := by decide +kernel
theorem dL_all_5 : decode cL_all 5 = .ok (.ldc2_w 70, 3) := by decide +kernel
theorem dL_all_8 : decode cL_all 8 = .ok (.aload_n 0, 1) := by decide +kernel
theorem dL_all_9 : decode cL_all 9 = .ok (.invokevirtual 72, 3) := by decide +kernel
theorem dL_all_12 : decode cL_all 12 = .ok (.i2l, 1) := by decide +kernel
theorem dL_all_13 : decode cL_all 13 = .ok (.lmul, 1) := by decide +kernel
theorem dL_all_14 : decode cL_all 14 = .ok (.ladd, 1) := by decide +kernel
theorem dL_all_15 : decode cL_all 15 = .ok (.ldc2_w 75, 3) := by decide +kernel
theorem dL_all_18 : decode cL_all 18 = .ok (.aload_n 0, 1) := by decide +kernel
theorem dL_all_19 : decode cL_all 19 = .ok (.invokevirtual 77, 3) := by decide +kernel
theorem dL_all_22 : decode cL_all 22 = .ok (.i2l, 1) := by decide +kernel
theorem dL_all_23 : decode cL_all 23 = .ok (.lmul, 1) := by decide +kernel
theorem dL_all_24 : decode cL_all 24 = .ok (.ladd, 1) := by decide +kernel
theorem dL_all_25 : decode cL_all 25 = .ok (.ldc2_w 80, 3) := by decide +kernel
theorem dL_all_28 : decode cL_all 28 = .ok (.aload_n 0, 1) := by decide +kernel
theorem dL_all_29 : decode cL_all 29 = .ok (.invokevirtual 82, 3) := by decide +kernel
theorem dL_all_32 : decode cL_all 32 = .ok (.i2l, 1) := by decide +kernel
theorem dL_all_33 : decode cL_all 33 = .ok (.lmul, 1) := by decide +kernel
theorem dL_all_34 : decode cL_all 34 = .ok (.ladd, 1) := by decide +kernel
theorem dL_all_35 : decode cL_all 35 = .ok (.lstore_n 1, 1) := by decide +kernel
theorem dL_all_36 : decode cL_all 36 = .ok (.iconst 0, 1) := by decide +kernel
theorem dL_all_37 : decode cL_all 37 = .ok (.istore_n 3, 1) := by decide +kernel
theorem dL_all_38 : decode cL_all 38 = .ok (.iload_n 3, 1) := by decide +kernel
theorem dL_all_39 : decode cL_all 39 = .ok (.aload_n 0, 1) := by decide +kernel
theorem dL_all_40 : decode cL_all 40 = .ok (.invokevirtual 72, 3) := by decide +kernel
theorem dL_all_43 : decode cL_all 43 = .ok (.if_icmp .ge 22, 3) := by decide +kernel
theorem dL_all_46 : decode cL_all 46 = .ok (.ldc2_w 85, 3) := by decide +kernel
theorem dL_all_49 : decode cL_all 49 = .ok (.lload_n 1, 1) := by decide +kernel
theorem dL_all_50 : decode cL_all 50 = .ok (.lmul, 1) := by decide +kernel
theorem dL_all_51 : decode cL_all 51 = .ok (.aload_n 0, 1) := by decide +kernel
theorem dL_all_52 : decode cL_all 52 = .ok (.iload_n 3, 1) := by decide +kernel
theorem dL_all_53 : decode cL_all 53 = .ok (.invokevirtual 48, 3) := by decide +kernel
theorem dL_all_56 : decode cL_all 56 = .ok (.i2l, 1) := by decide +kernel
theorem dL_all_57 : decode cL_all 57 = .ok (.ladd, 1) := by decide +kernel
theorem dL_all_58 : decode cL_all 58 = .ok (.lstore_n 1, 1) := by decide +kernel
theorem dL_all_59 : decode cL_all 59 = .ok (.iinc 3 1, 3) := by decide +kernel
theorem dL_all_62 : decode cL_all 62 = .ok (.goto (-24), 3) := by decide +kernel
theorem dL_all_65 : decode cL_all 65 = .ok (.iconst 0, 1) := by decide +kernel
theorem dL_all_66 : decode cL_all 66 = .ok (.istore_n 3, 1) := by decide +kernel
theorem dL_all_67 : decode cL_all 67 = .ok (.iload_n 3, 1) := by decide +kernel
theorem dL_all_68 : decode cL_all 68 = .ok (.iconst 3, 1) := by decide +kernel
theorem dL_all_69 : decode cL_all 69 = .ok (.if_icmp .ge 44, 3) := by decide +kernel
theorem dL_all_72 : decode cL_all 72 = .ok (.ldc2_w 85, 3) := by decide +kernel
theorem dL_all_75 : decode cL_all 75 = .ok (.lload_n 1, 1) := by decide +kernel
theorem dL_all_76 : decode cL_all 76 = .ok (.lmul, 1) := by decide +kernel
theorem dL_all_77 : decode cL_all 77 = .ok (.aload_n 0, 1) := by decide +kernel
theorem dL_all_78 : decode cL_all 78 = .ok (.iload_n 3, 1) := by decide +kernel
theorem dL_all_79 : decode cL_all 79 = .ok (.invokevirtual 45, 3) := by decide +kernel
theorem dL_all_82 : decode cL_all 82 = .ok (.i2l, 1) := by decide +kernel
theorem dL_all_83 : decode cL_all 83 = .ok (.ladd, 1) := by decide +kernel
theorem dL_all_84 : decode cL_all 84 = .ok (.ldc2_w 87, 3) := by decide +kernel
theorem dL_all_87 : decode cL_all 87 = .ok (.aload_n 0, 1) := by decide +kernel
theorem dL_all_88 : decode cL_all 88 = .ok (.iload_n 3, 1) := by decide +kernel
theorem dL_all_89 : decode cL_all 89 = .ok (.invokevirtual 54, 3) := by decide +kernel
theorem dL_all_92 : decode cL_all 92 = .ok (.i2l, 1) := by decide +kernel
theorem dL_all_93 : decode cL_all 93 = .ok (.lmul, 1) := by decide +kernel
theorem dL_all_94 : decode cL_all 94 = .ok (.ladd, 1) := by decide +kernel
theorem dL_all_95 : decode cL_all 95 = .ok (.ldc2_w 89, 3) := by decide +kernel
theorem dL_all_98 : decode cL_all 98 = .ok (.aload_n 0, 1) := by decide +kernel
theorem dL_all_99 : decode cL_all 99 = .ok (.iload_n 3, 1) := by decide +kernel
theorem dL_all_100 : decode cL_all 100 = .ok (.invokevirtual 63, 3) := by decide +kernel
theorem dL_all_103 : decode cL_all 103 = .ok (.i2l, 1) := by decide +kernel
theorem dL_all_104 : decode cL_all 104 = .ok (.lmul, 1) := by decide +kernel
theorem dL_all_105 : decode cL_all 105 = .ok (.ladd, 1) := by decide +kernel
theorem dL_all_106 : decode cL_all 106 = .ok (.lstore_n 1, 1) := by decide +kernel
theorem dL_all_107 : decode cL_all 107 = .ok (.iinc 3 1, 3) := by decide +kernel
theorem dL_all_110 : decode cL_all 110 = .ok (.goto (-43), 3) := by decide +kernel
theorem dL_all_113 : decode cL_all 113 = .ok (.lload_n 1, 1) := by decide +kernel
theorem dL_all_114 : decode cL_all 114 = .ok (.lreturn, 1) := by decide +kernel
set_option maxRecDepth 20000 in
theorem ggL_standing_X3_facts : GoodIn wsL_standing wsX3_facts := goodIn_r _ [5, 6, 7, 8, 9, 10, 11, 12, 33, 34, 35, 36, 37, 38, 39, 40, 41] (by decide +kernel) (by decide +kernel)
set_option maxRecDepth 20000 in
theorem gL_standing_X3_facts : GoodIn wsL_standing (wsV RL 66 RX3 yX3_facts wsX3_facts) := goodIn_app (goodIn_of _ (by decide +kernel)) ggL_standing_X3_facts
set_option maxRecDepth 20000 in
theorem ggL_standing_X3_factStands : GoodIn wsL_standing wsX3_factStands := goodIn_ca (goodIn_r _ [16, 6, 17, 18, 19, 4, 20, 21, 22, 7, 8, 9, 10, 11, 12, 23, 24, 25, 26, 27, 28, 29, 30, 31, 32, 33, 34, 35, 36, 37, 38, 39, 40, 41] (by decide +kernel) (by decide +kernel)) (goodIn_sub (fun _ h => List.mem_cons_of_mem _ (List.mem_append_right _ h)) (by decide +kernel))
set_option maxRecDepth 20000 in
theorem gL_standing_X3_factStands : GoodIn wsL_standing (wsV RL 39 RX3 yX3_factStands wsX3_factStands) := goodIn_app (goodIn_of _ (by decide +kernel)) ggL_standing_X3_factStands
theorem dL_standing_0 : decode cL_standing 0 = .ok (.iconst 0, 1) := by decide +kernel
theorem dL_standing_1 : decode cL_standing 1 = .ok (.istore_n 1, 1) := by decide +kernel
theorem dL_standing_2 : decode cL_standing 2 = .ok (.iconst 0, 1) := by decide +kernel
theorem dL_standing_3 : decode cL_standing 3 = .ok (.istore_n 2, 1) := by decide +kernel
theorem dL_standing_4 : decode cL_standing 4 = .ok (.iload_n 2, 1) := by decide +kernel
theorem dL_standing_5 : decode cL_standing 5 = .ok (.aload_n 0, 1) := by decide +kernel
theorem dL_standing_6 : decode cL_standing 6 = .ok (.invokevirtual 66, 3) := by decide +kernel
theorem dL_standing_9 : decode cL_standing 9 = .ok (.if_icmp .ge 27, 3) := by decide +kernel
theorem dL_standing_12 : decode cL_standing 12 = .ok (.iload_n 1, 1) := by decide +kernel
theorem dL_standing_13 : decode cL_standing 13 = .ok (.aload_n 0, 1) := by decide +kernel
theorem dL_standing_14 : decode cL_standing 14 = .ok (.iload_n 2, 1) := by decide +kernel
theorem dL_standing_15 : decode cL_standing 15 = .ok (.invokevirtual 39, 3) := by decide +kernel
theorem dL_standing_18 : decode cL_standing 18 = .ok (.ifCond .eq 9, 3) := by decide +kernel
theorem dL_standing_21 : decode cL_standing 21 = .ok (.iconst 1, 1) := by decide +kernel
theorem dL_standing_22 : decode cL_standing 22 = .ok (.iload_n 2, 1) := by decide +kernel
theorem dL_standing_23 : decode cL_standing 23 = .ok (.ishl, 1) := by decide +kernel
theorem dL_standing_24 : decode cL_standing 24 = .ok (.goto 4, 3) := by decide +kernel
theorem dL_standing_27 : decode cL_standing 27 = .ok (.iconst 0, 1) := by decide +kernel
theorem dL_standing_28 : decode cL_standing 28 = .ok (.ior, 1) := by decide +kernel
theorem dL_standing_29 : decode cL_standing 29 = .ok (.istore_n 1, 1) := by decide +kernel
theorem dL_standing_30 : decode cL_standing 30 = .ok (.iinc 2 1, 3) := by decide +kernel
theorem dL_standing_33 : decode cL_standing 33 = .ok (.goto (-29), 3) := by decide +kernel
theorem dL_standing_36 : decode cL_standing 36 = .ok (.iload_n 1, 1) := by decide +kernel
theorem dL_standing_37 : decode cL_standing 37 = .ok (.ireturn, 1) := by decide +kernel
set_option maxRecDepth 20000 in
theorem ggL_areFacts_X3_facts : GoodIn wsL_areFacts wsX3_facts := goodIn_r _ [5, 6, 7, 8, 9, 10, 11, 12, 33, 34, 35, 36, 37, 38, 39, 40, 41] (by decide +kernel) (by decide +kernel)
set_option maxRecDepth 20000 in
theorem gL_areFacts_X3_facts : GoodIn wsL_areFacts (wsV RL 66 RX3 yX3_facts wsX3_facts) := goodIn_app (goodIn_of _ (by decide +kernel)) ggL_areFacts_X3_facts
set_option maxRecDepth 20000 in
theorem ggL_areFacts_X3_factStands : GoodIn wsL_areFacts wsX3_factStands := goodIn_ca (goodIn_r _ [16, 6, 17, 18, 19, 4, 20, 21, 22, 7, 8, 9, 10, 11, 12, 23, 24, 25, 26, 27, 28, 29, 30, 31, 32, 33, 34, 35, 36, 37, 38, 39, 40, 41] (by decide +kernel) (by decide +kernel)) (goodIn_sub (fun _ h => List.mem_cons_of_mem _ (List.mem_append_right _ h)) (by decide +kernel))
set_option maxRecDepth 20000 in
theorem gL_areFacts_X3_factStands : GoodIn wsL_areFacts (wsV RL 39 RX3 yX3_factStands wsX3_factStands) := goodIn_app (goodIn_of _ (by decide +kernel)) ggL_areFacts_X3_factStands
theorem dL_areFacts_0 : decode cL_areFacts 0 = .ok (.iconst 1, 1) := by decide +kernel
theorem dL_areFacts_1 : decode cL_areFacts 1 = .ok (.istore_n 3, 1) := by decide +kernel
theorem dL_areFacts_2 : decode cL_areFacts 2 = .ok (.iconst 0, 1) := by decide +kernel
theorem dL_areFacts_3 : decode cL_areFacts 3 = .ok (.istore 4, 2) := by decide +kernel
theorem dL_areFacts_5 : decode cL_areFacts 5 = .ok (.iload 4, 2) := by decide +kernel
theorem dL_areFacts_7 : decode cL_areFacts 7 = .ok (.aload_n 0, 1) := by decide +kernel
theorem dL_areFacts_8 : decode cL_areFacts 8 = .ok (.invokevirtual 66, 3) := by decide +kernel
theorem dL_areFacts_11 : decode cL_areFacts 11 = .ok (.if_icmp .ge 55, 3) := by decide +kernel
theorem dL_areFacts_14 : decode cL_areFacts 14 = .ok (.iload_n 3, 1) := by decide +kernel
theorem dL_areFacts_15 : decode cL_areFacts 15 = .ok (.ifCond .eq 51, 3) := by decide +kernel
theorem dL_areFacts_18 : decode cL_areFacts 18 = .ok (.aload_n 0, 1) := by decide +kernel
theorem dL_areFacts_19 : decode cL_areFacts 19 = .ok (.iload 4, 2) := by decide +kernel
theorem dL_areFacts_21 : decode cL_areFacts 21 = .ok (.invokevirtual 39, 3) := by decide +kernel
theorem dL_areFacts_24 : decode cL_areFacts 24 = .ok (.aload_n 1, 1) := by decide +kernel
theorem dL_areFacts_25 : decode cL_areFacts 25 = .ok (.iload 4, 2) := by decide +kernel
theorem dL_areFacts_27 : decode cL_areFacts 27 = .ok (.iaload, 1) := by decide +kernel
theorem dL_areFacts_28 : decode cL_areFacts 28 = .ok (.bipush 16, 2) := by decide +kernel
theorem dL_areFacts_30 : decode cL_areFacts 30 = .ok (.if_icmp .ge 20, 3) := by decide +kernel
theorem dL_areFacts_33 : decode cL_areFacts 33 = .ok (.aload_n 2, 1) := by decide +kernel
theorem dL_areFacts_34 : decode cL_areFacts 34 = .ok (.iconst 0, 1) := by decide +kernel
theorem dL_areFacts_35 : decode cL_areFacts 35 = .ok (.iaload, 1) := by decide +kernel
theorem dL_areFacts_36 : decode cL_areFacts 36 = .ok (.aload_n 1, 1) := by decide +kernel
theorem dL_areFacts_37 : decode cL_areFacts 37 = .ok (.iload 4, 2) := by decide +kernel
theorem dL_areFacts_39 : decode cL_areFacts 39 = .ok (.iaload, 1) := by decide +kernel
theorem dL_areFacts_40 : decode cL_areFacts 40 = .ok (.ishr, 1) := by decide +kernel
theorem dL_areFacts_41 : decode cL_areFacts 41 = .ok (.iconst 1, 1) := by decide +kernel
theorem dL_areFacts_42 : decode cL_areFacts 42 = .ok (.iand, 1) := by decide +kernel
theorem dL_areFacts_43 : decode cL_areFacts 43 = .ok (.ifCond .ne 7, 3) := by decide +kernel
theorem dL_areFacts_46 : decode cL_areFacts 46 = .ok (.iconst 1, 1) := by decide +kernel
theorem dL_areFacts_47 : decode cL_areFacts 47 = .ok (.goto 4, 3) := by decide +kernel
theorem dL_areFacts_50 : decode cL_areFacts 50 = .ok (.iconst 0, 1) := by decide +kernel
theorem dL_areFacts_51 : decode cL_areFacts 51 = .ok (.if_icmp .ne 7, 3) := by decide +kernel
theorem dL_areFacts_54 : decode cL_areFacts 54 = .ok (.iconst 1, 1) := by decide +kernel
theorem dL_areFacts_55 : decode cL_areFacts 55 = .ok (.goto 4, 3) := by decide +kernel
theorem dL_areFacts_58 : decode cL_areFacts 58 = .ok (.iconst 0, 1) := by decide +kernel
theorem dL_areFacts_59 : decode cL_areFacts 59 = .ok (.istore_n 3, 1) := by decide +kernel
theorem dL_areFacts_60 : decode cL_areFacts 60 = .ok (.iinc 4 1, 3) := by decide +kernel
theorem dL_areFacts_63 : decode cL_areFacts 63 = .ok (.goto (-58), 3) := by decide +kernel
theorem dL_areFacts_66 : decode cL_areFacts 66 = .ok (.iload_n 3, 1) := by decide +kernel
theorem dL_areFacts_67 : decode cL_areFacts 67 = .ok (.ireturn, 1) := by decide +kernel
set_option maxRecDepth 20000 in
theorem ggL_having_X3_claims : GoodIn wsL_having wsX3_claims := goodIn_r _ [5, 6, 7, 8, 9, 10, 11, 12, 83, 84, 85, 86, 87, 88, 89, 90, 91, 92, 93, 94] (by decide +kernel) (by decide +kernel)
set_option maxRecDepth 20000 in
theorem gL_having_X3_claims : GoodIn wsL_having (wsV RL 72 RX3 yX3_claims wsX3_claims) := goodIn_app (goodIn_of _ (by decide +kernel)) ggL_having_X3_claims
set_option maxRecDepth 20000 in
theorem ggL_having_X3_stateOf : GoodIn wsL_having wsX3_stateOf := goodIn_ca (goodIn_r _ [16, 17, 18, 19, 20, 21, 4, 22, 23, 24, 6, 7, 8, 9, 10, 11, 12, 25, 26, 27, 28, 29, 30, 31, 32, 33, 34, 35, 36, 37, 38, 39, 40, 41, 42, 43, 44, 45, 46, 47, 48, 49, 50, 51, 52, 53, 54, 55, 56, 57, 58, 59, 60, 61, 62, 63, 64, 65, 66, 67, 68, 69, 70, 71, 72, 73, 74, 75, 76, 77, 78, 79, 80, 81, 82, 83, 84, 85, 86, 87, 88, 89, 90, 91, 92, 93, 94, 95, 96, 97, 98, 99, 100, 101, 102, 103, 104] (by decide +kernel) (by decide +kernel)) (goodIn_sub (fun _ h => List.mem_cons_of_mem _ (List.mem_append_right _ h)) (by decide +kernel))
set_option maxRecDepth 20000 in
theorem gL_having_X3_stateOf : GoodIn wsL_having (wsV RL 48 RX3 yX3_stateOf wsX3_stateOf) := goodIn_app (goodIn_of _ (by decide +kernel)) ggL_having_X3_stateOf
theorem dL_having_0 : decode cL_having 0 = .ok (.iconst 0, 1) := by decide +kernel
theorem dL_having_1 : decode cL_having 1 = .ok (.istore_n 2, 1) := by decide +kernel
theorem dL_having_2 : decode cL_having 2 = .ok (.iconst 0, 1) := by decide +kernel
theorem dL_having_3 : decode cL_having 3 = .ok (.istore_n 3, 1) := by decide +kernel
theorem dL_having_4 : decode cL_having 4 = .ok (.iload_n 3, 1) := by decide +kernel
theorem dL_having_5 : decode cL_having 5 = .ok (.aload_n 0, 1) := by decide +kernel
theorem dL_having_6 : decode cL_having 6 = .ok (.invokevirtual 72, 3) := by decide +kernel
theorem dL_having_9 : decode cL_having 9 = .ok (.if_icmp .ge 28, 3) := by decide +kernel
theorem dL_having_12 : decode cL_having 12 = .ok (.iload_n 2, 1) := by decide +kernel
theorem dL_having_13 : decode cL_having 13 = .ok (.aload_n 0, 1) := by decide +kernel
theorem dL_having_14 : decode cL_having 14 = .ok (.iload_n 3, 1) := by decide +kernel
theorem dL_having_15 : decode cL_having 15 = .ok (.invokevirtual 48, 3) := by decide +kernel
theorem dL_having_18 : decode cL_having 18 = .ok (.iload_n 1, 1) := by decide +kernel
theorem dL_having_19 : decode cL_having 19 = .ok (.if_icmp .ne 9, 3) := by decide +kernel
theorem dL_having_22 : decode cL_having 22 = .ok (.iconst 1, 1) := by decide +kernel
theorem dL_having_23 : decode cL_having 23 = .ok (.iload_n 3, 1) := by decide +kernel
theorem dL_having_24 : decode cL_having 24 = .ok (.ishl, 1) := by decide +kernel
theorem dL_having_25 : decode cL_having 25 = .ok (.goto 4, 3) := by decide +kernel
theorem dL_having_28 : decode cL_having 28 = .ok (.iconst 0, 1) := by decide +kernel
theorem dL_having_29 : decode cL_having 29 = .ok (.ior, 1) := by decide +kernel
theorem dL_having_30 : decode cL_having 30 = .ok (.istore_n 2, 1) := by decide +kernel
theorem dL_having_31 : decode cL_having 31 = .ok (.iinc 3 1, 3) := by decide +kernel
theorem dL_having_34 : decode cL_having 34 = .ok (.goto (-30), 3) := by decide +kernel
theorem dL_having_37 : decode cL_having 37 = .ok (.iload_n 2, 1) := by decide +kernel
theorem dL_having_38 : decode cL_having 38 = .ok (.ireturn, 1) := by decide +kernel
