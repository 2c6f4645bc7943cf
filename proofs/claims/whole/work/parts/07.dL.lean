set_option maxRecDepth 20000 in
theorem ggL_addFact_X3_addFact : GoodIn wsL_addFact wsX3_addFact := goodIn_ca (goodIn_ca (goodIn_r _ [7, 8, 9, 10, 11, 12, 13, 6, 14, 15, 16, 17, 18, 19, 20, 21, 22, 23, 24, 25, 26, 27, 28, 29, 30, 31, 32] (by decide +kernel) (by decide +kernel)) (goodIn_sub (fun _ h => List.mem_cons_of_mem _ (List.mem_append_left _ (List.mem_append_right _ h))) (by decide +kernel))) (goodIn_sub (fun _ h => List.mem_cons_of_mem _ (List.mem_append_right _ h)) (by decide +kernel))
set_option maxRecDepth 20000 in
theorem gL_addFact_X3_addFact : GoodIn wsL_addFact (wsV RL 7 RX3 yX3_addFact wsX3_addFact) := goodIn_app (goodIn_of _ (by decide +kernel)) ggL_addFact_X3_addFact
theorem dL_addFact_0 : decode cL_addFact 0 = .ok (.aload_n 2, 1) := by decide +kernel
theorem dL_addFact_1 : decode cL_addFact 1 = .ok (.iconst 0, 1) := by decide +kernel
theorem dL_addFact_2 : decode cL_addFact 2 = .ok (.aload_n 0, 1) := by decide +kernel
theorem dL_addFact_3 : decode cL_addFact 3 = .ok (.iload_n 1, 1) := by decide +kernel
theorem dL_addFact_4 : decode cL_addFact 4 = .ok (.invokevirtual 7, 3) := by decide +kernel
theorem dL_addFact_7 : decode cL_addFact 7 = .ok (.i2l, 1) := by decide +kernel
theorem dL_addFact_8 : decode cL_addFact 8 = .ok (.lastore, 1) := by decide +kernel
theorem dL_addFact_9 : decode cL_addFact 9 = .ok (.goto 9, 3) := by decide +kernel
theorem dL_addFact_12 : decode cL_addFact 12 = .ok (.astore_n 3, 1) := by decide +kernel
theorem dL_addFact_13 : decode cL_addFact 13 = .ok (.iconst 1, 1) := by decide +kernel
theorem dL_addFact_14 : decode cL_addFact 14 = .ok (.ireturn, 1) := by decide +kernel
theorem dL_addFact_15 : decode cL_addFact 15 = .ok (.astore_n 3, 1) := by decide +kernel
theorem dL_addFact_16 : decode cL_addFact 16 = .ok (.iconst 2, 1) := by decide +kernel
theorem dL_addFact_17 : decode cL_addFact 17 = .ok (.ireturn, 1) := by decide +kernel
theorem dL_addFact_18 : decode cL_addFact 18 = .ok (.iconst 0, 1) := by decide +kernel
theorem dL_addFact_19 : decode cL_addFact 19 = .ok (.ireturn, 1) := by decide +kernel
set_option maxRecDepth 20000 in
theorem ggL_toggleSource_X3_toggleSource : GoodIn wsL_toggleSource wsX3_toggleSource := goodIn_ca (goodIn_r _ [6, 7, 8, 9, 10, 5, 11, 12, 13, 14, 15, 16, 17, 18, 19, 20, 21, 22, 23, 24, 25, 26, 27, 28, 29, 30] (by decide +kernel) (by decide +kernel)) (goodIn_sub (fun _ h => List.mem_cons_of_mem _ (List.mem_append_right _ h)) (by decide +kernel))
set_option maxRecDepth 20000 in
theorem gL_toggleSource_X3_toggleSource : GoodIn wsL_toggleSource (wsV RL 17 RX3 yX3_toggleSource wsX3_toggleSource) := goodIn_app (goodIn_of _ (by decide +kernel)) ggL_toggleSource_X3_toggleSource
theorem dL_toggleSource_0 : decode cL_toggleSource 0 = .ok (.aload_n 2, 1) := by decide +kernel
theorem dL_toggleSource_1 : decode cL_toggleSource 1 = .ok (.iconst 0, 1) := by decide +kernel
theorem dL_toggleSource_2 : decode cL_toggleSource 2 = .ok (.aload_n 0, 1) := by decide +kernel
theorem dL_toggleSource_3 : decode cL_toggleSource 3 = .ok (.iload_n 1, 1) := by decide +kernel
theorem dL_toggleSource_4 : decode cL_toggleSource 4 = .ok (.invokevirtual 17, 3) := by decide +kernel
theorem dL_toggleSource_7 : decode cL_toggleSource 7 = .ok (.ifCond .eq 7, 3) := by decide +kernel
theorem dL_toggleSource_10 : decode cL_toggleSource 10 = .ok (.lconst 1, 1) := by decide +kernel
theorem dL_toggleSource_11 : decode cL_toggleSource 11 = .ok (.goto 4, 3) := by decide +kernel
theorem dL_toggleSource_14 : decode cL_toggleSource 14 = .ok (.lconst 0, 1) := by decide +kernel
theorem dL_toggleSource_15 : decode cL_toggleSource 15 = .ok (.lastore, 1) := by decide +kernel
theorem dL_toggleSource_16 : decode cL_toggleSource 16 = .ok (.goto 6, 3) := by decide +kernel
theorem dL_toggleSource_19 : decode cL_toggleSource 19 = .ok (.astore_n 3, 1) := by decide +kernel
theorem dL_toggleSource_20 : decode cL_toggleSource 20 = .ok (.iconst 1, 1) := by decide +kernel
theorem dL_toggleSource_21 : decode cL_toggleSource 21 = .ok (.ireturn, 1) := by decide +kernel
theorem dL_toggleSource_22 : decode cL_toggleSource 22 = .ok (.iconst 0, 1) := by decide +kernel
theorem dL_toggleSource_23 : decode cL_toggleSource 23 = .ok (.ireturn, 1) := by decide +kernel
set_option maxRecDepth 20000 in
theorem ggL_withdraw_X3_withdraw : GoodIn wsL_withdraw wsX3_withdraw := goodIn_ca (goodIn_r _ [6, 7, 8, 9, 10, 5, 11, 12, 13, 14, 15, 16, 17, 18, 19, 20, 21, 22, 23, 24, 25, 26, 27, 28, 29, 30, 31, 32, 33, 34, 35] (by decide +kernel) (by decide +kernel)) (goodIn_sub (fun _ h => List.mem_cons_of_mem _ (List.mem_append_right _ h)) (by decide +kernel))
set_option maxRecDepth 20000 in
theorem gL_withdraw_X3_withdraw : GoodIn wsL_withdraw (wsV RL 21 RX3 yX3_withdraw wsX3_withdraw) := goodIn_app (goodIn_of _ (by decide +kernel)) ggL_withdraw_X3_withdraw
theorem dL_withdraw_0 : decode cL_withdraw 0 = .ok (.aload_n 2, 1) := by decide +kernel
theorem dL_withdraw_1 : decode cL_withdraw 1 = .ok (.iconst 0, 1) := by decide +kernel
theorem dL_withdraw_2 : decode cL_withdraw 2 = .ok (.aload_n 0, 1) := by decide +kernel
theorem dL_withdraw_3 : decode cL_withdraw 3 = .ok (.iload_n 1, 1) := by decide +kernel
theorem dL_withdraw_4 : decode cL_withdraw 4 = .ok (.invokevirtual 21, 3) := by decide +kernel
theorem dL_withdraw_7 : decode cL_withdraw 7 = .ok (.ifCond .eq 7, 3) := by decide +kernel
theorem dL_withdraw_10 : decode cL_withdraw 10 = .ok (.lconst 1, 1) := by decide +kernel
theorem dL_withdraw_11 : decode cL_withdraw 11 = .ok (.goto 4, 3) := by decide +kernel
theorem dL_withdraw_14 : decode cL_withdraw 14 = .ok (.lconst 0, 1) := by decide +kernel
theorem dL_withdraw_15 : decode cL_withdraw 15 = .ok (.lastore, 1) := by decide +kernel
theorem dL_withdraw_16 : decode cL_withdraw 16 = .ok (.goto 6, 3) := by decide +kernel
theorem dL_withdraw_19 : decode cL_withdraw 19 = .ok (.astore_n 3, 1) := by decide +kernel
theorem dL_withdraw_20 : decode cL_withdraw 20 = .ok (.iconst 1, 1) := by decide +kernel
theorem dL_withdraw_21 : decode cL_withdraw 21 = .ok (.ireturn, 1) := by decide +kernel
theorem dL_withdraw_22 : decode cL_withdraw 22 = .ok (.iconst 0, 1) := by decide +kernel
theorem dL_withdraw_23 : decode cL_withdraw 23 = .ok (.ireturn, 1) := by decide +kernel
set_option maxRecDepth 20000 in
theorem ggL_factStands_X3_factStands : GoodIn wsL_factStands wsX3_factStands := goodIn_ca (goodIn_r _ [6, 7, 8, 9, 10, 5, 11, 12, 13, 14, 15, 16, 17, 18, 19, 20, 21, 22, 23, 24, 25, 26, 27, 28, 29, 30, 31, 32, 33, 34, 35, 36, 37, 38] (by decide +kernel) (by decide +kernel)) (goodIn_sub (fun _ h => List.mem_cons_of_mem _ (List.mem_append_right _ h)) (by decide +kernel))
set_option maxRecDepth 20000 in
theorem gL_factStands_X3_factStands : GoodIn wsL_factStands (wsV RL 24 RX3 yX3_factStands wsX3_factStands) := goodIn_app (goodIn_of _ (by decide +kernel)) ggL_factStands_X3_factStands
theorem dL_factStands_0 : decode cL_factStands 0 = .ok (.aload_n 2, 1) := by decide +kernel
theorem dL_factStands_1 : decode cL_factStands 1 = .ok (.iconst 0, 1) := by decide +kernel
theorem dL_factStands_2 : decode cL_factStands 2 = .ok (.aload_n 0, 1) := by decide +kernel
theorem dL_factStands_3 : decode cL_factStands 3 = .ok (.iload_n 1, 1) := by decide +kernel
theorem dL_factStands_4 : decode cL_factStands 4 = .ok (.invokevirtual 24, 3) := by decide +kernel
theorem dL_factStands_7 : decode cL_factStands 7 = .ok (.ifCond .eq 7, 3) := by decide +kernel
theorem dL_factStands_10 : decode cL_factStands 10 = .ok (.lconst 1, 1) := by decide +kernel
theorem dL_factStands_11 : decode cL_factStands 11 = .ok (.goto 4, 3) := by decide +kernel
theorem dL_factStands_14 : decode cL_factStands 14 = .ok (.lconst 0, 1) := by decide +kernel
theorem dL_factStands_15 : decode cL_factStands 15 = .ok (.lastore, 1) := by decide +kernel
theorem dL_factStands_16 : decode cL_factStands 16 = .ok (.goto 6, 3) := by decide +kernel
theorem dL_factStands_19 : decode cL_factStands 19 = .ok (.astore_n 3, 1) := by decide +kernel
theorem dL_factStands_20 : decode cL_factStands 20 = .ok (.iconst 1, 1) := by decide +kernel
theorem dL_factStands_21 : decode cL_factStands 21 = .ok (.ireturn, 1) := by decide +kernel
theorem dL_factStands_22 : decode cL_factStands 22 = .ok (.iconst 0, 1) := by decide +kernel
theorem dL_factStands_23 : decode cL_factStands 23 = .ok (.ireturn, 1) := by decide +kernel
set_option maxRecDepth 20000 in
theorem ggL_claim_X3_claim : GoodIn wsL_claim wsX3_claim := goodIn_ca (goodIn_ca (goodIn_r _ [7, 8, 9, 10, 11, 12, 13, 14, 15, 16, 17, 18, 19, 20, 21, 22, 23, 24, 25, 26, 27, 28, 29, 30, 31, 32, 33, 34, 35, 36, 37, 38, 39, 40, 41, 42, 43, 44, 45, 46, 47, 48, 49, 50, 51] (by decide +kernel) (by decide +kernel)) (goodIn_sub (fun _ h => List.mem_cons_of_mem _ (List.mem_append_left _ (List.mem_append_right _ h))) (by decide +kernel))) (goodIn_sub (fun _ h => List.mem_cons_of_mem _ (List.mem_append_right _ h)) (by decide +kernel))
set_option maxRecDepth 20000 in
theorem gL_claim_X3_claim : GoodIn wsL_claim (wsV RL 27 RX3 yX3_claim wsX3_claim) := goodIn_app (goodIn_of _ (by decide +kernel)) ggL_claim_X3_claim
theorem dL_claim_0 : decode cL_claim 0 = .ok (.aload_n 3, 1) := by decide +kernel
theorem dL_claim_1 : decode cL_claim 1 = .ok (.iconst 0, 1) := by decide +kernel
theorem dL_claim_2 : decode cL_claim 2 = .ok (.aload_n 0, 1) := by decide +kernel
theorem dL_claim_3 : decode cL_claim 3 = .ok (.iload_n 1, 1) := by decide +kernel
theorem dL_claim_4 : decode cL_claim 4 = .ok (.iload_n 2, 1) := by decide +kernel
theorem dL_claim_5 : decode cL_claim 5 = .ok (.invokevirtual 27, 3) := by decide +kernel
theorem dL_claim_8 : decode cL_claim 8 = .ok (.i2l, 1) := by decide +kernel
theorem dL_claim_9 : decode cL_claim 9 = .ok (.lastore, 1) := by decide +kernel
theorem dL_claim_10 : decode cL_claim 10 = .ok (.goto 11, 3) := by decide +kernel
theorem dL_claim_13 : decode cL_claim 13 = .ok (.astore 4, 2) := by decide +kernel
theorem dL_claim_15 : decode cL_claim 15 = .ok (.iconst 1, 1) := by decide +kernel
theorem dL_claim_16 : decode cL_claim 16 = .ok (.ireturn, 1) := by decide +kernel
theorem dL_claim_17 : decode cL_claim 17 = .ok (.astore 4, 2) := by decide +kernel
theorem dL_claim_19 : decode cL_claim 19 = .ok (.iconst 2, 1) := by decide +kernel
theorem dL_claim_20 : decode cL_claim 20 = .ok (.ireturn, 1) := by decide +kernel
theorem dL_claim_21 : decode cL_claim 21 = .ok (.iconst 0, 1) := by decide +kernel
theorem dL_claim_22 : decode cL_claim 22 = .ok (.ireturn, 1) := by decide +kernel
set_option maxRecDepth 20000 in
theorem ggL_rest_X3_rest : GoodIn wsL_rest wsX3_rest := goodIn_ca (goodIn_ca (goodIn_r _ [7, 8, 9, 10, 11, 6, 12, 13, 14, 15, 16, 17, 18, 19, 20, 21, 22, 23, 24, 25, 26, 27, 28, 29, 30, 31, 32, 33, 34, 35, 36, 37, 38, 39, 40, 41, 42, 43, 44, 45] (by decide +kernel) (by decide +kernel)) (goodIn_sub (fun _ h => List.mem_cons_of_mem _ (List.mem_append_left _ (List.mem_append_right _ h))) (by decide +kernel))) (goodIn_sub (fun _ h => List.mem_cons_of_mem _ (List.mem_append_right _ h)) (by decide +kernel))
set_option maxRecDepth 20000 in
theorem gL_rest_X3_rest : GoodIn wsL_rest (wsV RL 33 RX3 yX3_rest wsX3_rest) := goodIn_app (goodIn_of _ (by decide +kernel)) ggL_rest_X3_rest
theorem dL_rest_0 : decode cL_rest 0 = .ok (.aload_n 3, 1) := by decide +kernel
theorem dL_rest_1 : decode cL_rest 1 = .ok (.iconst 0, 1) := by decide +kernel
theorem dL_rest_2 : decode cL_rest 2 = .ok (.aload_n 0, 1) := by decide +kernel
theorem dL_rest_3 : decode cL_rest 3 = .ok (.iload_n 1, 1) := by decide +kernel
theorem dL_rest_4 : decode cL_rest 4 = .ok (.iload_n 2, 1) := by decide +kernel
theorem dL_rest_5 : decode cL_rest 5 = .ok (.invokevirtual 33, 3) := by decide +kernel
theorem dL_rest_8 : decode cL_rest 8 = .ok (.ifCond .eq 7, 3) := by decide +kernel
theorem dL_rest_11 : decode cL_rest 11 = .ok (.lconst 1, 1) := by decide +kernel
theorem dL_rest_12 : decode cL_rest 12 = .ok (.goto 4, 3) := by decide +kernel
theorem dL_rest_15 : decode cL_rest 15 = .ok (.lconst 0, 1) := by decide +kernel
theorem dL_rest_16 : decode cL_rest 16 = .ok (.lastore, 1) := by decide +kernel
theorem dL_rest_17 : decode cL_rest 17 = .ok (.goto 11, 3) := by decide +kernel
theorem dL_rest_20 : decode cL_rest 20 = .ok (.astore 4, 2) := by decide +kernel
theorem dL_rest_22 : decode cL_rest 22 = .ok (.iconst 1, 1) := by decide +kernel
theorem dL_rest_23 : decode cL_rest 23 = .ok (.ireturn, 1) := by decide +kernel
theorem dL_rest_24 : decode cL_rest 24 = .ok (.astore 4, 2) := by decide +kernel
theorem dL_rest_26 : decode cL_rest 26 = .ok (.iconst 2, 1) := by decide +kernel
theorem dL_rest_27 : decode cL_rest 27 = .ok (.ireturn, 1) := by decide +kernel
theorem dL_rest_28 : decode cL_rest 28 = .ok (.iconst 0, 1) := by decide +kernel
theorem dL_rest_29 : decode cL_rest 29 = .ok (.ireturn, 1) := by decide +kernel
set_option maxRecDepth 20000 in
theorem ggL_attack_X3_attack : GoodIn wsL_attack wsX3_attack := goodIn_ca (goodIn_ca (goodIn_r _ [7, 8, 9, 10, 11, 6, 12, 13, 14, 15, 16, 17, 18, 19, 20, 21, 22, 23, 24, 25, 26, 27, 28, 29, 30, 31, 32, 33, 34, 35, 36, 37, 38, 39, 40, 41, 42, 43, 44, 45] (by decide +kernel) (by decide +kernel)) (goodIn_sub (fun _ h => List.mem_cons_of_mem _ (List.mem_append_left _ (List.mem_append_right _ h))) (by decide +kernel))) (goodIn_sub (fun _ h => List.mem_cons_of_mem _ (List.mem_append_right _ h)) (by decide +kernel))
set_option maxRecDepth 20000 in
theorem gL_attack_X3_attack : GoodIn wsL_attack (wsV RL 37 RX3 yX3_attack wsX3_attack) := goodIn_app (goodIn_of _ (by decide +kernel)) ggL_attack_X3_attack
theorem dL_attack_0 : decode cL_attack 0 = .ok (.aload_n 3, 1) := by decide +kernel
theorem dL_attack_1 : decode cL_attack 1 = .ok (.iconst 0, 1) := by decide +kernel
theorem dL_attack_2 : decode cL_attack 2 = .ok (.aload_n 0, 1) := by decide +kernel
theorem dL_attack_3 : decode cL_attack 3 = .ok (.iload_n 1, 1) := by decide +kernel
theorem dL_attack_4 : decode cL_attack 4 = .ok (.iload_n 2, 1) := by decide +kernel
theorem dL_attack_5 : decode cL_attack 5 = .ok (.invokevirtual 37, 3) := by decide +kernel
theorem dL_attack_8 : decode cL_attack 8 = .ok (.ifCond .eq 7, 3) := by decide +kernel
theorem dL_attack_11 : decode cL_attack 11 = .ok (.lconst 1, 1) := by decide +kernel
theorem dL_attack_12 : decode cL_attack 12 = .ok (.goto 4, 3) := by decide +kernel
theorem dL_attack_15 : decode cL_attack 15 = .ok (.lconst 0, 1) := by decide +kernel
theorem dL_attack_16 : decode cL_attack 16 = .ok (.lastore, 1) := by decide +kernel
theorem dL_attack_17 : decode cL_attack 17 = .ok (.goto 11, 3) := by decide +kernel
theorem dL_attack_20 : decode cL_attack 20 = .ok (.astore 4, 2) := by decide +kernel
theorem dL_attack_22 : decode cL_attack 22 = .ok (.iconst 1, 1) := by decide +kernel
theorem dL_attack_23 : decode cL_attack 23 = .ok (.ireturn, 1) := by decide +kernel
theorem dL_attack_24 : decode cL_attack 24 = .ok (.astore 4, 2) := by decide +kernel
theorem dL_attack_26 : decode cL_attack 26 = .ok (.iconst 2, 1) := by decide +kernel
theorem dL_attack_27 : decode cL_attack 27 = .ok (.ireturn, 1) := by decide +kernel
theorem dL_attack_28 : decode cL_attack 28 = .ok (.iconst 0, 1) := by decide +kernel
theorem dL_attack_29 : decode cL_attack 29 = .ok (.ireturn, 1) := by decide +kernel
set_option maxRecDepth 20000 in
theorem ggL_playerOf_X3_playerOf : GoodIn wsL_playerOf wsX3_playerOf := goodIn_ca (goodIn_r _ [6, 7, 8, 9, 10, 5, 11, 12, 13, 14, 15, 16, 17, 18, 19, 20, 21, 22, 23, 24, 25, 26, 27, 28, 29, 30, 31, 32, 33, 34, 35, 36] (by decide +kernel) (by decide +kernel)) (goodIn_sub (fun _ h => List.mem_cons_of_mem _ (List.mem_append_right _ h)) (by decide +kernel))
set_option maxRecDepth 20000 in
theorem gL_playerOf_X3_playerOf : GoodIn wsL_playerOf (wsV RL 40 RX3 yX3_playerOf wsX3_playerOf) := goodIn_app (goodIn_of _ (by decide +kernel)) ggL_playerOf_X3_playerOf
theorem dL_playerOf_0 : decode cL_playerOf 0 = .ok (.aload_n 2, 1) := by decide +kernel
theorem dL_playerOf_1 : decode cL_playerOf 1 = .ok (.iconst 0, 1) := by decide +kernel
theorem dL_playerOf_2 : decode cL_playerOf 2 = .ok (.aload_n 0, 1) := by decide +kernel
theorem dL_playerOf_3 : decode cL_playerOf 3 = .ok (.iload_n 1, 1) := by decide +kernel
theorem dL_playerOf_4 : decode cL_playerOf 4 = .ok (.invokevirtual 40, 3) := by decide +kernel
theorem dL_playerOf_7 : decode cL_playerOf 7 = .ok (.i2l, 1) := by decide +kernel
theorem dL_playerOf_8 : decode cL_playerOf 8 = .ok (.lastore, 1) := by decide +kernel
theorem dL_playerOf_9 : decode cL_playerOf 9 = .ok (.goto 6, 3) := by decide +kernel
theorem dL_playerOf_12 : decode cL_playerOf 12 = .ok (.astore_n 3, 1) := by decide +kernel
theorem dL_playerOf_13 : decode cL_playerOf 13 = .ok (.iconst 1, 1) := by decide +kernel
theorem dL_playerOf_14 : decode cL_playerOf 14 = .ok (.ireturn, 1) := by decide +kernel
theorem dL_playerOf_15 : decode cL_playerOf 15 = .ok (.iconst 0, 1) := by decide +kernel
theorem dL_playerOf_16 : decode cL_playerOf 16 = .ok (.ireturn, 1) := by decide +kernel
set_option maxRecDepth 20000 in
theorem ggL_bank_X3_bank : GoodIn wsL_bank wsX3_bank := goodIn_ca (goodIn_r _ [6, 7, 8, 9, 10, 5, 11, 12, 13, 14, 15, 16, 17, 18, 19, 20, 21, 22, 23, 24, 25, 26, 27, 28, 29, 30, 31] (by decide +kernel) (by decide +kernel)) (goodIn_sub (fun _ h => List.mem_cons_of_mem _ (List.mem_append_right _ h)) (by decide +kernel))
set_option maxRecDepth 20000 in
theorem gL_bank_X3_bank : GoodIn wsL_bank (wsV RL 43 RX3 yX3_bank wsX3_bank) := goodIn_app (goodIn_of _ (by decide +kernel)) ggL_bank_X3_bank
theorem dL_bank_0 : decode cL_bank 0 = .ok (.aload_n 2, 1) := by decide +kernel
theorem dL_bank_1 : decode cL_bank 1 = .ok (.iconst 0, 1) := by decide +kernel
theorem dL_bank_2 : decode cL_bank 2 = .ok (.aload_n 0, 1) := by decide +kernel
theorem dL_bank_3 : decode cL_bank 3 = .ok (.iload_n 1, 1) := by decide +kernel
theorem dL_bank_4 : decode cL_bank 4 = .ok (.invokevirtual 43, 3) := by decide +kernel
theorem dL_bank_7 : decode cL_bank 7 = .ok (.i2l, 1) := by decide +kernel
theorem dL_bank_8 : decode cL_bank 8 = .ok (.lastore, 1) := by decide +kernel
theorem dL_bank_9 : decode cL_bank 9 = .ok (.goto 6, 3) := by decide +kernel
theorem dL_bank_12 : decode cL_bank 12 = .ok (.astore_n 3, 1) := by decide +kernel
theorem dL_bank_13 : decode cL_bank 13 = .ok (.iconst 1, 1) := by decide +kernel
theorem dL_bank_14 : decode cL_bank 14 = .ok (.ireturn, 1) := by decide +kernel
theorem dL_bank_15 : decode cL_bank 15 = .ok (.iconst 0, 1) := by decide +kernel
theorem dL_bank_16 : decode cL_bank 16 = .ok (.ireturn, 1) := by decide +kernel
set_option maxRecDepth 20000 in
theorem ggL_stateOf_X3_stateOf : GoodIn wsL_stateOf wsX3_stateOf := goodIn_ca (goodIn_r _ [6, 7, 8, 9, 10, 11, 5, 12, 13, 14, 15, 16, 17, 18, 19, 20, 21, 22, 23, 24, 25, 26, 27, 28, 29, 30, 31, 32, 33, 34, 35, 36, 37, 38, 39, 40, 41, 42, 43, 44, 45, 46, 47, 48, 49, 50, 51, 52, 53, 54, 55, 56, 57, 58, 59, 60, 61, 62, 63, 64, 65, 66, 67, 68, 69, 70, 71, 72, 73, 74, 75, 76, 77, 78, 79, 80, 81, 82, 83, 84, 85, 86, 87, 88, 89, 90, 91, 92, 93, 94, 95, 96, 97, 98, 99, 100, 101] (by decide +kernel) (by decide +kernel)) (goodIn_sub (fun _ h => List.mem_cons_of_mem _ (List.mem_append_right _ h)) (by decide +kernel))
set_option maxRecDepth 20000 in
theorem gL_stateOf_X3_stateOf : GoodIn wsL_stateOf (wsV RL 46 RX3 yX3_stateOf wsX3_stateOf) := goodIn_app (goodIn_of _ (by decide +kernel)) ggL_stateOf_X3_stateOf
theorem dL_stateOf_0 : decode cL_stateOf 0 = .ok (.aload_n 2, 1) := by decide +kernel
theorem dL_stateOf_1 : decode cL_stateOf 1 = .ok (.iconst 0, 1) := by decide +kernel
theorem dL_stateOf_2 : decode cL_stateOf 2 = .ok (.aload_n 0, 1) := by decide +kernel
theorem dL_stateOf_3 : decode cL_stateOf 3 = .ok (.iload_n 1, 1) := by decide +kernel
theorem dL_stateOf_4 : decode cL_stateOf 4 = .ok (.invokevirtual 46, 3) := by decide +kernel
theorem dL_stateOf_7 : decode cL_stateOf 7 = .ok (.i2l, 1) := by decide +kernel
theorem dL_stateOf_8 : decode cL_stateOf 8 = .ok (.lastore, 1) := by decide +kernel
theorem dL_stateOf_9 : decode cL_stateOf 9 = .ok (.goto 6, 3) := by decide +kernel
theorem dL_stateOf_12 : decode cL_stateOf 12 = .ok (.astore_n 3, 1) := by decide +kernel
theorem dL_stateOf_13 : decode cL_stateOf 13 = .ok (.iconst 1, 1) := by decide +kernel
theorem dL_stateOf_14 : decode cL_stateOf 14 = .ok (.ireturn, 1) := by decide +kernel
theorem dL_stateOf_15 : decode cL_stateOf 15 = .ok (.iconst 0, 1) := by decide +kernel
theorem dL_stateOf_16 : decode cL_stateOf 16 = .ok (.ireturn, 1) := by decide +kernel
set_option maxRecDepth 20000 in
theorem ggL_stateByRounds_X3_stateByRounds : GoodIn wsL_stateByRounds wsX3_stateByRounds := goodIn_ca (goodIn_r _ [6, 7, 8, 9, 10, 11, 5, 12, 13, 14, 15, 16, 17, 18, 19, 20, 21, 22, 23, 24, 25, 26, 27, 28, 29, 30, 31, 32, 33, 34, 35, 36, 37, 38, 39, 40, 41, 42, 43, 44, 45, 46, 47, 48, 49, 50, 51, 52, 53, 54, 55, 56, 57, 58, 59, 60, 61, 62, 63, 64, 65, 66, 67, 68, 69, 70, 71, 72, 73, 74, 75, 76, 77, 78, 79, 80, 81, 82, 83, 84, 85, 86, 87, 88] (by decide +kernel) (by decide +kernel)) (goodIn_sub (fun _ h => List.mem_cons_of_mem _ (List.mem_append_right _ h)) (by decide +kernel))
set_option maxRecDepth 20000 in
theorem gL_stateByRounds_X3_stateByRounds : GoodIn wsL_stateByRounds (wsV RL 49 RX3 yX3_stateByRounds wsX3_stateByRounds) := goodIn_app (goodIn_of _ (by decide +kernel)) ggL_stateByRounds_X3_stateByRounds
theorem dL_stateByRounds_0 : decode cL_stateByRounds 0 = .ok (.aload_n 2, 1) := by decide +kernel
theorem dL_stateByRounds_1 : decode cL_stateByRounds 1 = .ok (.iconst 0, 1) := by decide +kernel
theorem dL_stateByRounds_2 : decode cL_stateByRounds 2 = .ok (.aload_n 0, 1) := by decide +kernel
theorem dL_stateByRounds_3 : decode cL_stateByRounds 3 = .ok (.iload_n 1, 1) := by decide +kernel
theorem dL_stateByRounds_4 : decode cL_stateByRounds 4 = .ok (.invokevirtual 49, 3) := by decide +kernel
theorem dL_stateByRounds_7 : decode cL_stateByRounds 7 = .ok (.i2l, 1) := by decide +kernel
theorem dL_stateByRounds_8 : decode cL_stateByRounds 8 = .ok (.lastore, 1) := by decide +kernel
theorem dL_stateByRounds_9 : decode cL_stateByRounds 9 = .ok (.goto 6, 3) := by decide +kernel
theorem dL_stateByRounds_12 : decode cL_stateByRounds 12 = .ok (.astore_n 3, 1) := by decide +kernel
theorem dL_stateByRounds_13 : decode cL_stateByRounds 13 = .ok (.iconst 1, 1) := by decide +kernel
theorem dL_stateByRounds_14 : decode cL_stateByRounds 14 = .ok (.ireturn, 1) := by decide +kernel
theorem dL_stateByRounds_15 : decode cL_stateByRounds 15 = .ok (.iconst 0, 1) := by decide +kernel
theorem dL_stateByRounds_16 : decode cL_stateByRounds 16 = .ok (.ireturn, 1) := by decide +kernel
set_option maxRecDepth 20000 in
theorem ggL_score_X3_score : GoodIn wsL_score wsX3_score := goodIn_ca (goodIn_r _ [6, 7, 8, 9, 10, 5, 11, 12, 13, 14, 15, 16, 17, 18, 19, 20, 21, 22, 23, 24, 25, 26, 27, 28, 29, 30, 31, 32, 33, 34, 35, 36, 37, 38, 39, 40, 41, 42, 43, 44, 45, 46, 47, 48, 49, 50, 51, 52, 53, 54, 55, 56, 57, 58, 59, 60, 61, 62, 63, 64, 65, 66, 67, 68, 69, 70, 71, 72, 73, 74, 75, 76, 77, 78, 79, 80, 81, 82, 83, 84, 85, 86, 87, 88, 89, 90, 91, 92, 93, 94, 95, 96, 97, 98, 99, 100, 101, 102, 103, 104, 105, 106, 107, 108, 109] (by decide +kernel) (by decide +kernel)) (goodIn_sub (fun _ h => List.mem_cons_of_mem _ (List.mem_append_right _ h)) (by decide +kernel))
set_option maxRecDepth 20000 in
theorem gL_score_X3_score : GoodIn wsL_score (wsV RL 52 RX3 yX3_score wsX3_score) := goodIn_app (goodIn_of _ (by decide +kernel)) ggL_score_X3_score
theorem dL_score_0 : decode cL_score 0 = .ok (.aload_n 2, 1) := by decide +kernel
theorem dL_score_1 : decode cL_score 1 = .ok (.iconst 0, 1) := by decide +kernel
theorem dL_score_2 : decode cL_score 2 = .ok (.aload_n 0, 1) := by decide +kernel
theorem dL_score_3 : decode cL_score 3 = .ok (.iload_n 1, 1) := by decide +kernel
theorem dL_score_4 : decode cL_score 4 = .ok (.invokevirtual 52, 3) := by decide +kernel
theorem dL_score_7 : decode cL_score 7 = .ok (.i2l, 1) := by decide +kernel
theorem dL_score_8 : decode cL_score 8 = .ok (.lastore, 1) := by decide +kernel
theorem dL_score_9 : decode cL_score 9 = .ok (.goto 6, 3) := by decide +kernel
theorem dL_score_12 : decode cL_score 12 = .ok (.astore_n 3, 1) := by decide +kernel
theorem dL_score_13 : decode cL_score 13 = .ok (.iconst 1, 1) := by decide +kernel
theorem dL_score_14 : decode cL_score 14 = .ok (.ireturn, 1) := by decide +kernel
theorem dL_score_15 : decode cL_score 15 = .ok (.iconst 0, 1) := by decide +kernel
theorem dL_score_16 : decode cL_score 16 = .ok (.ireturn, 1) := by decide +kernel
set_option maxRecDepth 20000 in
theorem ggL_scoreWithout_X3_scoreWithout : GoodIn wsL_scoreWithout wsX3_scoreWithout := goodIn_ca (goodIn_r _ [6, 7, 8, 9, 10, 5, 11, 12, 13, 14, 15, 16, 17, 18, 19, 20, 21, 22, 23, 24, 25, 26, 27, 28, 29, 30, 31, 32, 33, 34, 35, 36, 37, 38, 39, 40, 41, 42, 43, 44, 45, 46, 47, 48, 49, 50, 51, 52, 53, 54, 55, 56, 57, 58, 59, 60, 61, 62, 63, 64, 65, 66, 67, 68, 69, 70, 71, 72, 73, 74, 75, 76, 77, 78, 79, 80, 81, 82, 83, 84, 85, 86, 87, 88, 89, 90, 91, 92, 93, 94, 95, 96, 97, 98, 99, 100, 101, 102, 103, 104, 105, 106, 107, 108, 109, 110, 111, 112, 113, 114, 115, 116, 117, 118, 119, 120] (by decide +kernel) (by decide +kernel)) (goodIn_sub (fun _ h => List.mem_cons_of_mem _ (List.mem_append_right _ h)) (by decide +kernel))
set_option maxRecDepth 20000 in
theorem gL_scoreWithout_X3_scoreWithout : GoodIn wsL_scoreWithout (wsV RL 55 RX3 yX3_scoreWithout wsX3_scoreWithout) := goodIn_app (goodIn_of _ (by decide +kernel)) ggL_scoreWithout_X3_scoreWithout
theorem dL_scoreWithout_0 : decode cL_scoreWithout 0 = .ok (.aload_n 3, 1) := by decide +kernel
theorem dL_scoreWithout_1 : decode cL_scoreWithout 1 = .ok (.iconst 0, 1) := by decide +kernel
theorem dL_scoreWithout_2 : decode cL_scoreWithout 2 = .ok (.aload_n 0, 1) := by decide +kernel
theorem dL_scoreWithout_3 : decode cL_scoreWithout 3 = .ok (.iload_n 1, 1) := by decide +kernel
theorem dL_scoreWithout_4 : decode cL_scoreWithout 4 = .ok (.iload_n 2, 1) := by decide +kernel
theorem dL_scoreWithout_5 : decode cL_scoreWithout 5 = .ok (.invokevirtual 55, 3) := by decide +kernel
theorem dL_scoreWithout_8 : decode cL_scoreWithout 8 = .ok (.i2l, 1) := by decide +kernel
theorem dL_scoreWithout_9 : decode cL_scoreWithout 9 = .ok (.lastore, 1) := by decide +kernel
theorem dL_scoreWithout_10 : decode cL_scoreWithout 10 = .ok (.goto 7, 3) := by decide +kernel
theorem dL_scoreWithout_13 : decode cL_scoreWithout 13 = .ok (.astore 4, 2) := by decide +kernel
theorem dL_scoreWithout_15 : decode cL_scoreWithout 15 = .ok (.iconst 1, 1) := by decide +kernel
theorem dL_scoreWithout_16 : decode cL_scoreWithout 16 = .ok (.ireturn, 1) := by decide +kernel
theorem dL_scoreWithout_17 : decode cL_scoreWithout 17 = .ok (.iconst 0, 1) := by decide +kernel
theorem dL_scoreWithout_18 : decode cL_scoreWithout 18 = .ok (.ireturn, 1) := by decide +kernel
set_option maxRecDepth 20000 in
theorem ggL_keyFact_X3_keyFact : GoodIn wsL_keyFact wsX3_keyFact := goodIn_ca (goodIn_r _ [6, 7, 8, 9, 10, 5, 11, 12, 13, 14, 15, 16, 17, 18, 19, 20, 21, 22, 23, 24, 25, 26, 27, 28, 29, 30, 31, 32, 33, 34, 35, 36, 37, 38, 39, 40, 41, 42, 43, 44, 45, 46, 47, 48, 49, 50, 51, 52, 53, 54, 55, 56, 57, 58, 59, 60, 61, 62, 63, 64, 65, 66, 67, 68, 69, 70, 71, 72, 73, 74, 75, 76, 77, 78, 79, 80, 81, 82, 83, 84, 85, 86, 87, 88, 89, 90, 91, 92, 93, 94, 95, 96, 97, 98, 99, 100, 101, 102, 103, 104, 105, 106, 107, 108, 109, 110, 111, 112, 113] (by decide +kernel) (by decide +kernel)) (goodIn_sub (fun _ h => List.mem_cons_of_mem _ (List.mem_append_right _ h)) (by decide +kernel))
set_option maxRecDepth 20000 in
theorem gL_keyFact_X3_keyFact : GoodIn wsL_keyFact (wsV RL 58 RX3 yX3_keyFact wsX3_keyFact) := goodIn_app (goodIn_of _ (by decide +kernel)) ggL_keyFact_X3_keyFact
theorem dL_keyFact_0 : decode cL_keyFact 0 = .ok (.aload_n 2, 1) := by decide +kernel
theorem dL_keyFact_1 : decode cL_keyFact 1 = .ok (.iconst 0, 1) := by decide +kernel
theorem dL_keyFact_2 : decode cL_keyFact 2 = .ok (.aload_n 0, 1) := by decide +kernel
theorem dL_keyFact_3 : decode cL_keyFact 3 = .ok (.iload_n 1, 1) := by decide +kernel
theorem dL_keyFact_4 : decode cL_keyFact 4 = .ok (.invokevirtual 58, 3) := by decide +kernel
theorem dL_keyFact_7 : decode cL_keyFact 7 = .ok (.i2l, 1) := by decide +kernel
theorem dL_keyFact_8 : decode cL_keyFact 8 = .ok (.lastore, 1) := by decide +kernel
theorem dL_keyFact_9 : decode cL_keyFact 9 = .ok (.goto 6, 3) := by decide +kernel
theorem dL_keyFact_12 : decode cL_keyFact 12 = .ok (.astore_n 3, 1) := by decide +kernel
theorem dL_keyFact_13 : decode cL_keyFact 13 = .ok (.iconst 1, 1) := by decide +kernel
theorem dL_keyFact_14 : decode cL_keyFact 14 = .ok (.ireturn, 1) := by decide +kernel
theorem dL_keyFact_15 : decode cL_keyFact 15 = .ok (.iconst 0, 1) := by decide +kernel
theorem dL_keyFact_16 : decode cL_keyFact 16 = .ok (.ireturn, 1) := by decide +kernel
set_option maxRecDepth 20000 in
theorem ggL_reputation_X3_reputation : GoodIn wsL_reputation wsX3_reputation := goodIn_ca (goodIn_r _ [6, 7, 8, 9, 10, 5, 11, 12, 13, 14, 15, 16, 17, 18] (by decide +kernel) (by decide +kernel)) (goodIn_sub (fun _ h => List.mem_cons_of_mem _ (List.mem_append_right _ h)) (by decide +kernel))
set_option maxRecDepth 20000 in
theorem gL_reputation_X3_reputation : GoodIn wsL_reputation (wsV RL 61 RX3 yX3_reputation wsX3_reputation) := goodIn_app (goodIn_of _ (by decide +kernel)) ggL_reputation_X3_reputation
theorem dL_reputation_0 : decode cL_reputation 0 = .ok (.aload_n 2, 1) := by decide +kernel
theorem dL_reputation_1 : decode cL_reputation 1 = .ok (.iconst 0, 1) := by decide +kernel
theorem dL_reputation_2 : decode cL_reputation 2 = .ok (.aload_n 0, 1) := by decide +kernel
theorem dL_reputation_3 : decode cL_reputation 3 = .ok (.iload_n 1, 1) := by decide +kernel
theorem dL_reputation_4 : decode cL_reputation 4 = .ok (.invokevirtual 61, 3) := by decide +kernel
theorem dL_reputation_7 : decode cL_reputation 7 = .ok (.i2l, 1) := by decide +kernel
theorem dL_reputation_8 : decode cL_reputation 8 = .ok (.lastore, 1) := by decide +kernel
theorem dL_reputation_9 : decode cL_reputation 9 = .ok (.goto 6, 3) := by decide +kernel
theorem dL_reputation_12 : decode cL_reputation 12 = .ok (.astore_n 3, 1) := by decide +kernel
theorem dL_reputation_13 : decode cL_reputation 13 = .ok (.iconst 1, 1) := by decide +kernel
theorem dL_reputation_14 : decode cL_reputation 14 = .ok (.ireturn, 1) := by decide +kernel
theorem dL_reputation_15 : decode cL_reputation 15 = .ok (.iconst 0, 1) := by decide +kernel
theorem dL_reputation_16 : decode cL_reputation 16 = .ok (.ireturn, 1) := by decide +kernel
