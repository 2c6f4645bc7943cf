set_option maxRecDepth 20000 in
theorem ggX3_init_X1_init : GoodIn wsX3_init wsX1_init := goodIn_r _ [21, 22, 2, 3, 16, 23, 24, 25, 26, 52, 53, 54, 55] (by decide +kernel) (by decide +kernel)
set_option maxRecDepth 20000 in
theorem gX3_init_X1_init : GoodIn wsX3_init (wsX1_init) := ggX3_init_X1_init
set_option maxRecDepth 20000 in
theorem ggX3_init_X0_init : GoodIn wsX3_init wsX0_init := goodIn_r _ [29, 30, 2, 3, 16, 31, 32, 33, 34, 35, 36, 37, 38, 39, 40, 41, 61, 62, 63, 64, 65, 66, 67] (by decide +kernel) (by decide +kernel)
set_option maxRecDepth 20000 in
theorem gX3_init_X0_init : GoodIn wsX3_init (wsX0_init) := ggX3_init_X0_init
set_option maxRecDepth 20000 in
theorem ggX3_init_X2_init : GoodIn wsX3_init wsX2_init := goodIn_r _ [44, 45, 2, 3, 46, 16, 47, 48, 49, 50, 51, 68, 69, 70, 71, 72, 73] (by decide +kernel) (by decide +kernel)
set_option maxRecDepth 20000 in
theorem gX3_init_X2_init : GoodIn wsX3_init (wsX2_init) := ggX3_init_X2_init
theorem dX3_init_0 : decode cX3_init 0 = .ok (.aload_n 0, 1) := by decide +kernel
theorem dX3_init_1 : decode cX3_init 1 = .ok (.invokespecial 1, 3) := by decide +kernel
theorem dX3_init_4 : decode cX3_init 4 = .ok (.aload_n 0, 1) := by decide +kernel
theorem dX3_init_5 : decode cX3_init 5 = .ok (.new 7, 3) := by decide +kernel
theorem dX3_init_8 : decode cX3_init 8 = .ok (.dup, 1) := by decide +kernel
theorem dX3_init_9 : decode cX3_init 9 = .ok (.invokespecial 9, 3) := by decide +kernel
theorem dX3_init_12 : decode cX3_init 12 = .ok (.putfield 10, 3) := by decide +kernel
theorem dX3_init_15 : decode cX3_init 15 = .ok (.aload_n 0, 1) := by decide +kernel
theorem dX3_init_16 : decode cX3_init 16 = .ok (.new 16, 3) := by decide +kernel
theorem dX3_init_19 : decode cX3_init 19 = .ok (.dup, 1) := by decide +kernel
theorem dX3_init_20 : decode cX3_init 20 = .ok (.invokespecial 18, 3) := by decide +kernel
theorem dX3_init_23 : decode cX3_init 23 = .ok (.putfield 19, 3) := by decide +kernel
theorem dX3_init_26 : decode cX3_init 26 = .ok (.aload_n 0, 1) := by decide +kernel
theorem dX3_init_27 : decode cX3_init 27 = .ok (.new 23, 3) := by decide +kernel
theorem dX3_init_30 : decode cX3_init 30 = .ok (.dup, 1) := by decide +kernel
theorem dX3_init_31 : decode cX3_init 31 = .ok (.aload_n 0, 1) := by decide +kernel
theorem dX3_init_32 : decode cX3_init 32 = .ok (.getfield 19, 3) := by decide +kernel
theorem dX3_init_35 : decode cX3_init 35 = .ok (.invokespecial 25, 3) := by decide +kernel
theorem dX3_init_38 : decode cX3_init 38 = .ok (.putfield 28, 3) := by decide +kernel
theorem dX3_init_41 : decode cX3_init 41 = .ok (.aload_n 0, 1) := by decide +kernel
theorem dX3_init_42 : decode cX3_init 42 = .ok (.iconst 3, 1) := by decide +kernel
theorem dX3_init_43 : decode cX3_init 43 = .ok (.newarray .int, 2) := by decide +kernel
theorem dX3_init_45 : decode cX3_init 45 = .ok (.putfield 32, 3) := by decide +kernel
theorem dX3_init_48 : decode cX3_init 48 = .ok (.aload_n 0, 1) := by decide +kernel
theorem dX3_init_49 : decode cX3_init 49 = .ok (.iconst 0, 1) := by decide +kernel
theorem dX3_init_50 : decode cX3_init 50 = .ok (.putfield 36, 3) := by decide +kernel
theorem dX3_init_53 : decode cX3_init 53 = .ok (.return_, 1) := by decide +kernel
set_option maxRecDepth 20000 in
theorem ggX3_addFact_X3_checkSource : GoodIn wsX3_addFact wsX3_checkSource := goodIn_ca (goodIn_r _ [8, 9, 10] (by decide +kernel) (by decide +kernel)) (goodIn_sub (fun _ h => List.mem_cons_of_mem _ (List.mem_append_right _ h)) (by decide +kernel))
set_option maxRecDepth 20000 in
theorem gX3_addFact_X3_checkSource : GoodIn wsX3_addFact (wsV RX3 40 RX3 yX3_checkSource wsX3_checkSource) := goodIn_app (goodIn_of _ (by decide +kernel)) ggX3_addFact_X3_checkSource
set_option maxRecDepth 20000 in
theorem ggX3_addFact_X1_add : GoodIn wsX3_addFact wsX1_add := goodIn_r _ [15, 16, 17, 23, 24, 25, 26] (by decide +kernel) (by decide +kernel)
set_option maxRecDepth 20000 in
theorem gX3_addFact_X1_add : GoodIn wsX3_addFact (wsV RX3 44 RX1 yX1_add wsX1_add) := goodIn_app (goodIn_of _ (by decide +kernel)) ggX3_addFact_X1_add
theorem dX3_addFact_0 : decode cX3_addFact 0 = .ok (.aload_n 0, 1) := by decide +kernel
theorem dX3_addFact_1 : decode cX3_addFact 1 = .ok (.iload_n 1, 1) := by decide +kernel
theorem dX3_addFact_2 : decode cX3_addFact 2 = .ok (.invokevirtual 40, 3) := by decide +kernel
theorem dX3_addFact_5 : decode cX3_addFact 5 = .ok (.aload_n 0, 1) := by decide +kernel
theorem dX3_addFact_6 : decode cX3_addFact 6 = .ok (.getfield 10, 3) := by decide +kernel
theorem dX3_addFact_9 : decode cX3_addFact 9 = .ok (.iload_n 1, 1) := by decide +kernel
theorem dX3_addFact_10 : decode cX3_addFact 10 = .ok (.invokevirtual 44, 3) := by decide +kernel
theorem dX3_addFact_13 : decode cX3_addFact 13 = .ok (.istore_n 2, 1) := by decide +kernel
theorem dX3_addFact_14 : decode cX3_addFact 14 = .ok (.iload_n 2, 1) := by decide +kernel
theorem dX3_addFact_15 : decode cX3_addFact 15 = .ok (.iconst (-1), 1) := by decide +kernel
theorem dX3_addFact_16 : decode cX3_addFact 16 = .ok (.if_icmp .ne 13, 3) := by decide +kernel
theorem dX3_addFact_19 : decode cX3_addFact 19 = .ok (.new 48, 3) := by decide +kernel
theorem dX3_addFact_22 : decode cX3_addFact 22 = .ok (.dup, 1) := by decide +kernel
theorem dX3_addFact_23 : decode cX3_addFact 23 = .ok (.ldc 50, 2) := by decide +kernel
theorem dX3_addFact_25 : decode cX3_addFact 25 = .ok (.invokespecial 52, 3) := by decide +kernel
theorem dX3_addFact_28 : decode cX3_addFact 28 = .ok (.athrow, 1) := by decide +kernel
theorem dX3_addFact_29 : decode cX3_addFact 29 = .ok (.iload_n 2, 1) := by decide +kernel
theorem dX3_addFact_30 : decode cX3_addFact 30 = .ok (.ireturn, 1) := by decide +kernel
set_option maxRecDepth 20000 in
theorem ggX3_toggleSource_X3_checkSource : GoodIn wsX3_toggleSource wsX3_checkSource := goodIn_ca (goodIn_r _ [6, 7, 8] (by decide +kernel) (by decide +kernel)) (goodIn_sub (fun _ h => List.mem_cons_of_mem _ (List.mem_append_right _ h)) (by decide +kernel))
set_option maxRecDepth 20000 in
theorem gX3_toggleSource_X3_checkSource : GoodIn wsX3_toggleSource (wsV RX3 40 RX3 yX3_checkSource wsX3_checkSource) := goodIn_app (goodIn_of _ (by decide +kernel)) ggX3_toggleSource_X3_checkSource
set_option maxRecDepth 20000 in
theorem ggX3_toggleSource_X1_flipSource : GoodIn wsX3_toggleSource wsX1_flipSource := goodIn_r _ [13, 14, 15, 5, 16, 22, 23, 24, 25] (by decide +kernel) (by decide +kernel)
set_option maxRecDepth 20000 in
theorem gX3_toggleSource_X1_flipSource : GoodIn wsX3_toggleSource (wsV RX3 55 RX1 yX1_flipSource wsX1_flipSource) := goodIn_app (goodIn_of _ (by decide +kernel)) ggX3_toggleSource_X1_flipSource
theorem dX3_toggleSource_0 : decode cX3_toggleSource 0 = .ok (.aload_n 0, 1) := by decide +kernel
theorem dX3_toggleSource_1 : decode cX3_toggleSource 1 = .ok (.iload_n 1, 1) := by decide +kernel
theorem dX3_toggleSource_2 : decode cX3_toggleSource 2 = .ok (.invokevirtual 40, 3) := by decide +kernel
theorem dX3_toggleSource_5 : decode cX3_toggleSource 5 = .ok (.aload_n 0, 1) := by decide +kernel
theorem dX3_toggleSource_6 : decode cX3_toggleSource 6 = .ok (.getfield 10, 3) := by decide +kernel
theorem dX3_toggleSource_9 : decode cX3_toggleSource 9 = .ok (.iload_n 1, 1) := by decide +kernel
theorem dX3_toggleSource_10 : decode cX3_toggleSource 10 = .ok (.invokevirtual 55, 3) := by decide +kernel
theorem dX3_toggleSource_13 : decode cX3_toggleSource 13 = .ok (.ireturn, 1) := by decide +kernel
set_option maxRecDepth 20000 in
theorem ggX3_withdraw_X3_checkFact : GoodIn wsX3_withdraw wsX3_checkFact := goodIn_ca (goodIn_r _ [6, 7, 8, 1, 9, 10, 11, 12, 13, 14, 22, 23, 24, 25, 26, 27, 28, 29, 30] (by decide +kernel) (by decide +kernel)) (goodIn_sub (fun _ h => List.mem_cons_of_mem _ (List.mem_append_right _ h)) (by decide +kernel))
set_option maxRecDepth 20000 in
theorem gX3_withdraw_X3_checkFact : GoodIn wsX3_withdraw (wsV RX3 59 RX3 yX3_checkFact wsX3_checkFact) := goodIn_app (goodIn_of _ (by decide +kernel)) ggX3_withdraw_X3_checkFact
set_option maxRecDepth 20000 in
theorem ggX3_withdraw_X1_takeBack : GoodIn wsX3_withdraw wsX1_takeBack := goodIn_r _ [18, 19, 20, 5, 21, 27, 28, 29, 30] (by decide +kernel) (by decide +kernel)
set_option maxRecDepth 20000 in
theorem gX3_withdraw_X1_takeBack : GoodIn wsX3_withdraw (wsV RX3 62 RX1 yX1_takeBack wsX1_takeBack) := goodIn_app (goodIn_of _ (by decide +kernel)) ggX3_withdraw_X1_takeBack
theorem dX3_withdraw_0 : decode cX3_withdraw 0 = .ok (.aload_n 0, 1) := by decide +kernel
theorem dX3_withdraw_1 : decode cX3_withdraw 1 = .ok (.iload_n 1, 1) := by decide +kernel
theorem dX3_withdraw_2 : decode cX3_withdraw 2 = .ok (.invokevirtual 59, 3) := by decide +kernel
theorem dX3_withdraw_5 : decode cX3_withdraw 5 = .ok (.aload_n 0, 1) := by decide +kernel
theorem dX3_withdraw_6 : decode cX3_withdraw 6 = .ok (.getfield 10, 3) := by decide +kernel
theorem dX3_withdraw_9 : decode cX3_withdraw 9 = .ok (.iload_n 1, 1) := by decide +kernel
theorem dX3_withdraw_10 : decode cX3_withdraw 10 = .ok (.invokevirtual 62, 3) := by decide +kernel
theorem dX3_withdraw_13 : decode cX3_withdraw 13 = .ok (.ireturn, 1) := by decide +kernel
set_option maxRecDepth 20000 in
theorem ggX3_factStands_X3_checkFact : GoodIn wsX3_factStands wsX3_checkFact := goodIn_ca (goodIn_r _ [6, 7, 8, 1, 9, 10, 11, 12, 13, 14, 25, 26, 27, 28, 29, 30, 31, 32, 33] (by decide +kernel) (by decide +kernel)) (goodIn_sub (fun _ h => List.mem_cons_of_mem _ (List.mem_append_right _ h)) (by decide +kernel))
set_option maxRecDepth 20000 in
theorem gX3_factStands_X3_checkFact : GoodIn wsX3_factStands (wsV RX3 59 RX3 yX3_checkFact wsX3_checkFact) := goodIn_app (goodIn_of _ (by decide +kernel)) ggX3_factStands_X3_checkFact
set_option maxRecDepth 20000 in
theorem ggX3_factStands_X1_standing : GoodIn wsX3_factStands wsX1_standing := goodIn_r _ [18, 14, 19, 20, 21, 22, 5, 23, 30, 31, 32, 33] (by decide +kernel) (by decide +kernel)
set_option maxRecDepth 20000 in
theorem gX3_factStands_X1_standing : GoodIn wsX3_factStands (wsV RX3 65 RX1 yX1_standing wsX1_standing) := goodIn_app (goodIn_of _ (by decide +kernel)) ggX3_factStands_X1_standing
set_option maxRecDepth 20000 in
theorem ggX3_factStands_X3_contains : GoodIn wsX3_factStands wsX3_contains := goodIn_r _ [23] (by decide +kernel) (by decide +kernel)
set_option maxRecDepth 20000 in
theorem gX3_factStands_X3_contains : GoodIn wsX3_factStands (va_wsS RX3 69 yX3_contains wsX3_contains) := goodIn_app (goodIn_of _ (by decide +kernel)) ggX3_factStands_X3_contains
theorem dX3_factStands_0 : decode cX3_factStands 0 = .ok (.aload_n 0, 1) := by decide +kernel
theorem dX3_factStands_1 : decode cX3_factStands 1 = .ok (.iload_n 1, 1) := by decide +kernel
theorem dX3_factStands_2 : decode cX3_factStands 2 = .ok (.invokevirtual 59, 3) := by decide +kernel
theorem dX3_factStands_5 : decode cX3_factStands 5 = .ok (.aload_n 0, 1) := by decide +kernel
theorem dX3_factStands_6 : decode cX3_factStands 6 = .ok (.getfield 10, 3) := by decide +kernel
theorem dX3_factStands_9 : decode cX3_factStands 9 = .ok (.invokevirtual 65, 3) := by decide +kernel
theorem dX3_factStands_12 : decode cX3_factStands 12 = .ok (.iload_n 1, 1) := by decide +kernel
theorem dX3_factStands_13 : decode cX3_factStands 13 = .ok (.invokestatic 69, 3) := by decide +kernel
theorem dX3_factStands_16 : decode cX3_factStands 16 = .ok (.ireturn, 1) := by decide +kernel
set_option maxRecDepth 20000 in
theorem ggX3_facts_X1_size : GoodIn wsX3_facts wsX1_size := goodIn_r _ [6, 7, 13, 14, 15, 16] (by decide +kernel) (by decide +kernel)
set_option maxRecDepth 20000 in
theorem gX3_facts_X1_size : GoodIn wsX3_facts (wsV RX3 73 RX1 yX1_size wsX1_size) := goodIn_app (goodIn_of _ (by decide +kernel)) ggX3_facts_X1_size
theorem dX3_facts_0 : decode cX3_facts 0 = .ok (.aload_n 0, 1) := by decide +kernel
theorem dX3_facts_1 : decode cX3_facts 1 = .ok (.getfield 10, 3) := by decide +kernel
theorem dX3_facts_4 : decode cX3_facts 4 = .ok (.invokevirtual 73, 3) := by decide +kernel
theorem dX3_facts_7 : decode cX3_facts 7 = .ok (.ireturn, 1) := by decide +kernel
set_option maxRecDepth 20000 in
theorem ggX3_claim_X1_hasAll : GoodIn wsX3_claim wsX1_hasAll := goodIn_r _ [11, 12, 34, 35, 36, 37] (by decide +kernel) (by decide +kernel)
set_option maxRecDepth 20000 in
theorem gX3_claim_X1_hasAll : GoodIn wsX3_claim (wsV RX3 76 RX1 yX1_hasAll wsX1_hasAll) := goodIn_app (goodIn_of _ (by decide +kernel)) ggX3_claim_X1_hasAll
set_option maxRecDepth 20000 in
theorem ggX3_claim_X0_add : GoodIn wsX3_claim wsX0_add := goodIn_r _ [17, 18, 19, 20, 21, 22, 23, 24, 25, 26, 27, 16, 28, 38, 39, 40, 41, 42, 43, 44] (by decide +kernel) (by decide +kernel)
set_option maxRecDepth 20000 in
theorem gX3_claim_X0_add : GoodIn wsX3_claim (wsV RX3 86 RX0 yX0_add wsX0_add) := goodIn_app (goodIn_of _ (by decide +kernel)) ggX3_claim_X0_add
theorem dX3_claim_0 : decode cX3_claim 0 = .ok (.aload_n 0, 1) := by decide +kernel
theorem dX3_claim_1 : decode cX3_claim 1 = .ok (.getfield 10, 3) := by decide +kernel
theorem dX3_claim_4 : decode cX3_claim 4 = .ok (.iload_n 1, 1) := by decide +kernel
theorem dX3_claim_5 : decode cX3_claim 5 = .ok (.invokevirtual 76, 3) := by decide +kernel
theorem dX3_claim_8 : decode cX3_claim 8 = .ok (.ifCond .ne 13, 3) := by decide +kernel
theorem dX3_claim_11 : decode cX3_claim 11 = .ok (.new 79, 3) := by decide +kernel
theorem dX3_claim_14 : decode cX3_claim 14 = .ok (.dup, 1) := by decide +kernel
theorem dX3_claim_15 : decode cX3_claim 15 = .ok (.ldc 81, 2) := by decide +kernel
theorem dX3_claim_17 : decode cX3_claim 17 = .ok (.invokespecial 83, 3) := by decide +kernel
theorem dX3_claim_20 : decode cX3_claim 20 = .ok (.athrow, 1) := by decide +kernel
theorem dX3_claim_21 : decode cX3_claim 21 = .ok (.iload_n 2, 1) := by decide +kernel
theorem dX3_claim_22 : decode cX3_claim 22 = .ok (.iconst 1, 1) := by decide +kernel
theorem dX3_claim_23 : decode cX3_claim 23 = .ok (.if_icmp .lt 9, 3) := by decide +kernel
theorem dX3_claim_26 : decode cX3_claim 26 = .ok (.iload_n 2, 1) := by decide +kernel
theorem dX3_claim_27 : decode cX3_claim 27 = .ok (.bipush 100, 2) := by decide +kernel
theorem dX3_claim_29 : decode cX3_claim 29 = .ok (.if_icmp .le 13, 3) := by decide +kernel
theorem dX3_claim_32 : decode cX3_claim 32 = .ok (.new 79, 3) := by decide +kernel
theorem dX3_claim_35 : decode cX3_claim 35 = .ok (.dup, 1) := by decide +kernel
theorem dX3_claim_36 : decode cX3_claim 36 = .ok (.ldc 84, 2) := by decide +kernel
theorem dX3_claim_38 : decode cX3_claim 38 = .ok (.invokespecial 83, 3) := by decide +kernel
theorem dX3_claim_41 : decode cX3_claim 41 = .ok (.athrow, 1) := by decide +kernel
theorem dX3_claim_42 : decode cX3_claim 42 = .ok (.aload_n 0, 1) := by decide +kernel
theorem dX3_claim_43 : decode cX3_claim 43 = .ok (.getfield 19, 3) := by decide +kernel
theorem dX3_claim_46 : decode cX3_claim 46 = .ok (.iload_n 1, 1) := by decide +kernel
theorem dX3_claim_47 : decode cX3_claim 47 = .ok (.iload_n 2, 1) := by decide +kernel
theorem dX3_claim_48 : decode cX3_claim 48 = .ok (.invokevirtual 86, 3) := by decide +kernel
theorem dX3_claim_51 : decode cX3_claim 51 = .ok (.istore_n 3, 1) := by decide +kernel
theorem dX3_claim_52 : decode cX3_claim 52 = .ok (.iload_n 3, 1) := by decide +kernel
theorem dX3_claim_53 : decode cX3_claim 53 = .ok (.iconst (-1), 1) := by decide +kernel
theorem dX3_claim_54 : decode cX3_claim 54 = .ok (.if_icmp .ne 13, 3) := by decide +kernel
theorem dX3_claim_57 : decode cX3_claim 57 = .ok (.new 48, 3) := by decide +kernel
theorem dX3_claim_60 : decode cX3_claim 60 = .ok (.dup, 1) := by decide +kernel
theorem dX3_claim_61 : decode cX3_claim 61 = .ok (.ldc 89, 2) := by decide +kernel
theorem dX3_claim_63 : decode cX3_claim 63 = .ok (.invokespecial 52, 3) := by decide +kernel
theorem dX3_claim_66 : decode cX3_claim 66 = .ok (.athrow, 1) := by decide +kernel
theorem dX3_claim_67 : decode cX3_claim 67 = .ok (.iload_n 3, 1) := by decide +kernel
theorem dX3_claim_68 : decode cX3_claim 68 = .ok (.ireturn, 1) := by decide +kernel
set_option maxRecDepth 20000 in
theorem ggX3_skip_X0_passTurn : GoodIn wsX3_skip wsX0_passTurn := goodIn_r _ [6, 7, 17, 18, 19, 20, 21, 22, 23] (by decide +kernel) (by decide +kernel)
set_option maxRecDepth 20000 in
theorem gX3_skip_X0_passTurn : GoodIn wsX3_skip (wsV RX3 91 RX0 yX0_passTurn wsX0_passTurn) := goodIn_app (goodIn_of _ (by decide +kernel)) ggX3_skip_X0_passTurn
set_option maxRecDepth 20000 in
theorem ggX3_skip_X0_speaker : GoodIn wsX3_skip wsX0_speaker := goodIn_r _ [11, 7, 17, 18, 19, 20, 21, 22, 23] (by decide +kernel) (by decide +kernel)
set_option maxRecDepth 20000 in
theorem gX3_skip_X0_speaker : GoodIn wsX3_skip (wsV RX3 94 RX0 yX0_speaker wsX0_speaker) := goodIn_app (goodIn_of _ (by decide +kernel)) ggX3_skip_X0_speaker
theorem dX3_skip_0 : decode cX3_skip 0 = .ok (.aload_n 0, 1) := by decide +kernel
theorem dX3_skip_1 : decode cX3_skip 1 = .ok (.getfield 19, 3) := by decide +kernel
theorem dX3_skip_4 : decode cX3_skip 4 = .ok (.invokevirtual 91, 3) := by decide +kernel
theorem dX3_skip_7 : decode cX3_skip 7 = .ok (.aload_n 0, 1) := by decide +kernel
theorem dX3_skip_8 : decode cX3_skip 8 = .ok (.getfield 19, 3) := by decide +kernel
theorem dX3_skip_11 : decode cX3_skip 11 = .ok (.invokevirtual 94, 3) := by decide +kernel
theorem dX3_skip_14 : decode cX3_skip 14 = .ok (.ireturn, 1) := by decide +kernel
set_option maxRecDepth 20000 in
theorem ggX3_rest_X3_checkTwoClaims : GoodIn wsX3_rest wsX3_checkTwoClaims := goodIn_ca (goodIn_ca (goodIn_r _ [6, 7, 8, 9, 10, 11, 5, 12, 13, 14, 1, 15, 16, 17, 18, 19, 20, 28, 29, 30, 31, 32, 33, 34, 35, 36, 37, 38, 39] (by decide +kernel) (by decide +kernel)) (goodIn_sub (fun _ h => List.mem_cons_of_mem _ (List.mem_append_left _ (List.mem_append_right _ h))) (by decide +kernel))) (goodIn_sub (fun _ h => List.mem_cons_of_mem _ (List.mem_append_right _ h)) (by decide +kernel))
set_option maxRecDepth 20000 in
theorem gX3_rest_X3_checkTwoClaims : GoodIn wsX3_rest (wsV RX3 97 RX3 yX3_checkTwoClaims wsX3_checkTwoClaims) := goodIn_app (goodIn_of _ (by decide +kernel)) ggX3_rest_X3_checkTwoClaims
set_option maxRecDepth 20000 in
theorem ggX3_rest_X0_flipRest : GoodIn wsX3_rest wsX0_flipRest := goodIn_r _ [24, 25, 26, 5, 27, 33, 34, 35, 36, 37, 38, 39] (by decide +kernel) (by decide +kernel)
set_option maxRecDepth 20000 in
theorem gX3_rest_X0_flipRest : GoodIn wsX3_rest (wsV RX3 101 RX0 yX0_flipRest wsX0_flipRest) := goodIn_app (goodIn_of _ (by decide +kernel)) ggX3_rest_X0_flipRest
theorem dX3_rest_0 : decode cX3_rest 0 = .ok (.aload_n 0, 1) := by decide +kernel
theorem dX3_rest_1 : decode cX3_rest 1 = .ok (.iload_n 1, 1) := by decide +kernel
theorem dX3_rest_2 : decode cX3_rest 2 = .ok (.iload_n 2, 1) := by decide +kernel
theorem dX3_rest_3 : decode cX3_rest 3 = .ok (.invokevirtual 97, 3) := by decide +kernel
theorem dX3_rest_6 : decode cX3_rest 6 = .ok (.aload_n 0, 1) := by decide +kernel
theorem dX3_rest_7 : decode cX3_rest 7 = .ok (.getfield 19, 3) := by decide +kernel
theorem dX3_rest_10 : decode cX3_rest 10 = .ok (.iload_n 1, 1) := by decide +kernel
theorem dX3_rest_11 : decode cX3_rest 11 = .ok (.iload_n 2, 1) := by decide +kernel
theorem dX3_rest_12 : decode cX3_rest 12 = .ok (.invokevirtual 101, 3) := by decide +kernel
theorem dX3_rest_15 : decode cX3_rest 15 = .ok (.ireturn, 1) := by decide +kernel
set_option maxRecDepth 20000 in
theorem ggX3_attack_X3_checkTwoClaims : GoodIn wsX3_attack wsX3_checkTwoClaims := goodIn_ca (goodIn_ca (goodIn_r _ [6, 7, 8, 9, 10, 11, 5, 12, 13, 14, 1, 15, 16, 17, 18, 19, 20, 28, 29, 30, 31, 32, 33, 34, 35, 36, 37, 38, 39] (by decide +kernel) (by decide +kernel)) (goodIn_sub (fun _ h => List.mem_cons_of_mem _ (List.mem_append_left _ (List.mem_append_right _ h))) (by decide +kernel))) (goodIn_sub (fun _ h => List.mem_cons_of_mem _ (List.mem_append_right _ h)) (by decide +kernel))
set_option maxRecDepth 20000 in
theorem gX3_attack_X3_checkTwoClaims : GoodIn wsX3_attack (wsV RX3 97 RX3 yX3_checkTwoClaims wsX3_checkTwoClaims) := goodIn_app (goodIn_of _ (by decide +kernel)) ggX3_attack_X3_checkTwoClaims
set_option maxRecDepth 20000 in
theorem ggX3_attack_X0_flipAttack : GoodIn wsX3_attack wsX0_flipAttack := goodIn_r _ [24, 25, 26, 5, 27, 33, 34, 35, 36, 37, 38, 39] (by decide +kernel) (by decide +kernel)
set_option maxRecDepth 20000 in
theorem gX3_attack_X0_flipAttack : GoodIn wsX3_attack (wsV RX3 104 RX0 yX0_flipAttack wsX0_flipAttack) := goodIn_app (goodIn_of _ (by decide +kernel)) ggX3_attack_X0_flipAttack
theorem dX3_attack_0 : decode cX3_attack 0 = .ok (.aload_n 0, 1) := by decide +kernel
theorem dX3_attack_1 : decode cX3_attack 1 = .ok (.iload_n 1, 1) := by decide +kernel
theorem dX3_attack_2 : decode cX3_attack 2 = .ok (.iload_n 2, 1) := by decide +kernel
theorem dX3_attack_3 : decode cX3_attack 3 = .ok (.invokevirtual 97, 3) := by decide +kernel
theorem dX3_attack_6 : decode cX3_attack 6 = .ok (.aload_n 0, 1) := by decide +kernel
theorem dX3_attack_7 : decode cX3_attack 7 = .ok (.getfield 19, 3) := by decide +kernel
theorem dX3_attack_10 : decode cX3_attack 10 = .ok (.iload_n 1, 1) := by decide +kernel
theorem dX3_attack_11 : decode cX3_attack 11 = .ok (.iload_n 2, 1) := by decide +kernel
theorem dX3_attack_12 : decode cX3_attack 12 = .ok (.invokevirtual 104, 3) := by decide +kernel
theorem dX3_attack_15 : decode cX3_attack 15 = .ok (.ireturn, 1) := by decide +kernel
set_option maxRecDepth 20000 in
theorem ggX3_claims_X0_size : GoodIn wsX3_claims wsX0_size := goodIn_r _ [6, 7, 13, 14, 15, 16, 17, 18, 19] (by decide +kernel) (by decide +kernel)
set_option maxRecDepth 20000 in
theorem gX3_claims_X0_size : GoodIn wsX3_claims (wsV RX3 107 RX0 yX0_size wsX0_size) := goodIn_app (goodIn_of _ (by decide +kernel)) ggX3_claims_X0_size
theorem dX3_claims_0 : decode cX3_claims 0 = .ok (.aload_n 0, 1) := by decide +kernel
theorem dX3_claims_1 : decode cX3_claims 1 = .ok (.getfield 19, 3) := by decide +kernel
theorem dX3_claims_4 : decode cX3_claims 4 = .ok (.invokevirtual 107, 3) := by decide +kernel
theorem dX3_claims_7 : decode cX3_claims 7 = .ok (.ireturn, 1) := by decide +kernel
set_option maxRecDepth 20000 in
theorem ggX3_playerOf_X3_checkClaim : GoodIn wsX3_playerOf wsX3_checkClaim := goodIn_ca (goodIn_r _ [6, 7, 8, 1, 9, 10, 11, 12, 13, 14, 20, 21, 22, 23, 24, 25, 26, 27, 28, 29, 30, 31] (by decide +kernel) (by decide +kernel)) (goodIn_sub (fun _ h => List.mem_cons_of_mem _ (List.mem_append_right _ h)) (by decide +kernel))
set_option maxRecDepth 20000 in
theorem gX3_playerOf_X3_checkClaim : GoodIn wsX3_playerOf (wsV RX3 108 RX3 yX3_checkClaim wsX3_checkClaim) := goodIn_app (goodIn_of _ (by decide +kernel)) ggX3_playerOf_X3_checkClaim
set_option maxRecDepth 20000 in
theorem ggX3_playerOf_X0_ownerOf : GoodIn wsX3_playerOf wsX0_ownerOf := goodIn_r _ [18, 19, 25, 26, 27, 28, 29, 30, 31] (by decide +kernel) (by decide +kernel)
set_option maxRecDepth 20000 in
theorem gX3_playerOf_X0_ownerOf : GoodIn wsX3_playerOf (wsV RX3 111 RX0 yX0_ownerOf wsX0_ownerOf) := goodIn_app (goodIn_of _ (by decide +kernel)) ggX3_playerOf_X0_ownerOf
theorem dX3_playerOf_0 : decode cX3_playerOf 0 = .ok (.aload_n 0, 1) := by decide +kernel
theorem dX3_playerOf_1 : decode cX3_playerOf 1 = .ok (.iload_n 1, 1) := by decide +kernel
theorem dX3_playerOf_2 : decode cX3_playerOf 2 = .ok (.invokevirtual 108, 3) := by decide +kernel
theorem dX3_playerOf_5 : decode cX3_playerOf 5 = .ok (.aload_n 0, 1) := by decide +kernel
theorem dX3_playerOf_6 : decode cX3_playerOf 6 = .ok (.getfield 19, 3) := by decide +kernel
theorem dX3_playerOf_9 : decode cX3_playerOf 9 = .ok (.iload_n 1, 1) := by decide +kernel
theorem dX3_playerOf_10 : decode cX3_playerOf 10 = .ok (.invokevirtual 111, 3) := by decide +kernel
theorem dX3_playerOf_13 : decode cX3_playerOf 13 = .ok (.ireturn, 1) := by decide +kernel
set_option maxRecDepth 20000 in
theorem ggX3_turn_X0_speaker : GoodIn wsX3_turn wsX0_speaker := goodIn_r _ [6, 7, 13, 14, 15, 16, 17, 18, 19] (by decide +kernel) (by decide +kernel)
set_option maxRecDepth 20000 in
theorem gX3_turn_X0_speaker : GoodIn wsX3_turn (wsV RX3 94 RX0 yX0_speaker wsX0_speaker) := goodIn_app (goodIn_of _ (by decide +kernel)) ggX3_turn_X0_speaker
theorem dX3_turn_0 : decode cX3_turn 0 = .ok (.aload_n 0, 1) := by decide +kernel
theorem dX3_turn_1 : decode cX3_turn 1 = .ok (.getfield 19, 3) := by decide +kernel
theorem dX3_turn_4 : decode cX3_turn 4 = .ok (.invokevirtual 94, 3) := by decide +kernel
theorem dX3_turn_7 : decode cX3_turn 7 = .ok (.ireturn, 1) := by decide +kernel
set_option maxRecDepth 20000 in
theorem ggX3_bank_X3_checkPlayer : GoodIn wsX3_bank wsX3_checkPlayer := goodIn_ca (goodIn_r _ [6, 7, 8] (by decide +kernel) (by decide +kernel)) (goodIn_sub (fun _ h => List.mem_cons_of_mem _ (List.mem_append_right _ h)) (by decide +kernel))
set_option maxRecDepth 20000 in
theorem gX3_bank_X3_checkPlayer : GoodIn wsX3_bank (wsV RX3 114 RX3 yX3_checkPlayer wsX3_checkPlayer) := goodIn_app (goodIn_of _ (by decide +kernel)) ggX3_bank_X3_checkPlayer
set_option maxRecDepth 20000 in
theorem ggX3_bank_X0_secondsLeft : GoodIn wsX3_bank wsX0_secondsLeft := goodIn_r _ [13, 14, 20, 21, 22, 23, 24, 25, 26] (by decide +kernel) (by decide +kernel)
set_option maxRecDepth 20000 in
theorem gX3_bank_X0_secondsLeft : GoodIn wsX3_bank (wsV RX3 117 RX0 yX0_secondsLeft wsX0_secondsLeft) := goodIn_app (goodIn_of _ (by decide +kernel)) ggX3_bank_X0_secondsLeft
theorem dX3_bank_0 : decode cX3_bank 0 = .ok (.aload_n 0, 1) := by decide +kernel
theorem dX3_bank_1 : decode cX3_bank 1 = .ok (.iload_n 1, 1) := by decide +kernel
theorem dX3_bank_2 : decode cX3_bank 2 = .ok (.invokevirtual 114, 3) := by decide +kernel
theorem dX3_bank_5 : decode cX3_bank 5 = .ok (.aload_n 0, 1) := by decide +kernel
theorem dX3_bank_6 : decode cX3_bank 6 = .ok (.getfield 19, 3) := by decide +kernel
theorem dX3_bank_9 : decode cX3_bank 9 = .ok (.iload_n 1, 1) := by decide +kernel
theorem dX3_bank_10 : decode cX3_bank 10 = .ok (.invokevirtual 117, 3) := by decide +kernel
theorem dX3_bank_13 : decode cX3_bank 13 = .ok (.ireturn, 1) := by decide +kernel
set_option maxRecDepth 20000 in
theorem ggX3_stateOf_X3_checkClaim : GoodIn wsX3_stateOf wsX3_checkClaim := goodIn_ca (goodIn_r _ [7, 8, 9, 10, 11, 12, 13, 14, 15, 16, 75, 76, 77, 78, 79, 80, 81, 82, 83, 84, 85, 86] (by decide +kernel) (by decide +kernel)) (goodIn_sub (fun _ h => List.mem_cons_of_mem _ (List.mem_append_right _ h)) (by decide +kernel))
set_option maxRecDepth 20000 in
theorem gX3_stateOf_X3_checkClaim : GoodIn wsX3_stateOf (wsV RX3 108 RX3 yX3_checkClaim wsX3_checkClaim) := goodIn_app (goodIn_of _ (by decide +kernel)) ggX3_stateOf_X3_checkClaim
set_option maxRecDepth 20000 in
theorem ggX3_stateOf_X1_standing : GoodIn wsX3_stateOf wsX1_standing := goodIn_r _ [21, 22, 23, 24, 25, 26, 6, 27, 87, 88, 89, 90] (by decide +kernel) (by decide +kernel)
set_option maxRecDepth 20000 in
theorem gX3_stateOf_X1_standing : GoodIn wsX3_stateOf (wsV RX3 65 RX1 yX1_standing wsX1_standing) := goodIn_app (goodIn_of _ (by decide +kernel)) ggX3_stateOf_X1_standing
set_option maxRecDepth 20000 in
theorem ggX3_stateOf_X2_decideByGoingOn : GoodIn wsX3_stateOf wsX2_decideByGoingOn := goodIn_r _ [32, 33, 34, 35, 36, 37, 38, 31, 39, 40, 41, 42, 43, 12, 13, 14, 15, 16, 44, 45, 46, 47, 48, 49, 50, 51, 26, 6, 27, 52, 53, 54, 55, 56, 57, 58, 59, 60, 61, 62, 63, 64, 65, 66, 67, 68, 69, 70, 91, 92, 93, 94, 95, 96, 80, 81, 82, 83, 84, 85, 86] (by decide +kernel) (by decide +kernel)
set_option maxRecDepth 20000 in
theorem gX3_stateOf_X2_decideByGoingOn : GoodIn wsX3_stateOf (wsV RX3 120 RX2 yX2_decideByGoingOn wsX2_decideByGoingOn) := goodIn_app (goodIn_of _ (by decide +kernel)) ggX3_stateOf_X2_decideByGoingOn
set_option maxRecDepth 20000 in
theorem ggX3_stateOf_X2_decisionOn : GoodIn wsX3_stateOf wsX2_decisionOn := goodIn_r _ [74, 41, 42, 26, 6, 27, 91, 92, 93, 94, 95, 96] (by decide +kernel) (by decide +kernel)
set_option maxRecDepth 20000 in
theorem gX3_stateOf_X2_decisionOn : GoodIn wsX3_stateOf (wsV RX3 123 RX2 yX2_decisionOn wsX2_decisionOn) := goodIn_app (goodIn_of _ (by decide +kernel)) ggX3_stateOf_X2_decisionOn
theorem dX3_stateOf_0 : decode cX3_stateOf 0 = .ok (.aload_n 0, 1) := by decide +kernel
theorem dX3_stateOf_1 : decode cX3_stateOf 1 = .ok (.iload_n 1, 1) := by decide +kernel
theorem dX3_stateOf_2 : decode cX3_stateOf 2 = .ok (.invokevirtual 108, 3) := by decide +kernel
theorem dX3_stateOf_5 : decode cX3_stateOf 5 = .ok (.aload_n 0, 1) := by decide +kernel
theorem dX3_stateOf_6 : decode cX3_stateOf 6 = .ok (.getfield 28, 3) := by decide +kernel
theorem dX3_stateOf_9 : decode cX3_stateOf 9 = .ok (.aload_n 0, 1) := by decide +kernel
theorem dX3_stateOf_10 : decode cX3_stateOf 10 = .ok (.getfield 10, 3) := by decide +kernel
theorem dX3_stateOf_13 : decode cX3_stateOf 13 = .ok (.invokevirtual 65, 3) := by decide +kernel
theorem dX3_stateOf_16 : decode cX3_stateOf 16 = .ok (.invokevirtual 120, 3) := by decide +kernel
theorem dX3_stateOf_19 : decode cX3_stateOf 19 = .ok (.aload_n 0, 1) := by decide +kernel
theorem dX3_stateOf_20 : decode cX3_stateOf 20 = .ok (.getfield 28, 3) := by decide +kernel
theorem dX3_stateOf_23 : decode cX3_stateOf 23 = .ok (.iload_n 1, 1) := by decide +kernel
theorem dX3_stateOf_24 : decode cX3_stateOf 24 = .ok (.invokevirtual 123, 3) := by decide +kernel
theorem dX3_stateOf_27 : decode cX3_stateOf 27 = .ok (.ireturn, 1) := by decide +kernel
set_option maxRecDepth 20000 in
theorem ggX3_stateByRounds_X3_checkClaim : GoodIn wsX3_stateByRounds wsX3_checkClaim := goodIn_ca (goodIn_r _ [7, 8, 9, 10, 11, 12, 13, 14, 15, 16, 62, 63, 64, 65, 66, 67, 68, 69, 70, 71, 72, 73] (by decide +kernel) (by decide +kernel)) (goodIn_sub (fun _ h => List.mem_cons_of_mem _ (List.mem_append_right _ h)) (by decide +kernel))
set_option maxRecDepth 20000 in
theorem gX3_stateByRounds_X3_checkClaim : GoodIn wsX3_stateByRounds (wsV RX3 108 RX3 yX3_checkClaim wsX3_checkClaim) := goodIn_app (goodIn_of _ (by decide +kernel)) ggX3_stateByRounds_X3_checkClaim
set_option maxRecDepth 20000 in
theorem ggX3_stateByRounds_X1_standing : GoodIn wsX3_stateByRounds wsX1_standing := goodIn_r _ [21, 22, 23, 24, 25, 26, 6, 27, 74, 75, 76, 77] (by decide +kernel) (by decide +kernel)
set_option maxRecDepth 20000 in
theorem gX3_stateByRounds_X1_standing : GoodIn wsX3_stateByRounds (wsV RX3 65 RX1 yX1_standing wsX1_standing) := goodIn_app (goodIn_of _ (by decide +kernel)) ggX3_stateByRounds_X1_standing
set_option maxRecDepth 20000 in
theorem ggX3_stateByRounds_X2_decideInRounds : GoodIn wsX3_stateByRounds wsX2_decideInRounds := goodIn_r _ [32, 33, 34, 35, 36, 31, 37, 38, 39, 40, 41, 42, 12, 13, 14, 15, 16, 43, 44, 45, 46, 26, 6, 27, 47, 48, 49, 50, 51, 52, 53, 54, 55, 56, 57, 78, 79, 80, 81, 82, 83, 67, 68, 69, 70, 71, 72, 73] (by decide +kernel) (by decide +kernel)
set_option maxRecDepth 20000 in
theorem gX3_stateByRounds_X2_decideInRounds : GoodIn wsX3_stateByRounds (wsV RX3 126 RX2 yX2_decideInRounds wsX2_decideInRounds) := goodIn_app (goodIn_of _ (by decide +kernel)) ggX3_stateByRounds_X2_decideInRounds
set_option maxRecDepth 20000 in
theorem ggX3_stateByRounds_X2_decisionOn : GoodIn wsX3_stateByRounds wsX2_decisionOn := goodIn_r _ [61, 40, 41, 26, 6, 27, 78, 79, 80, 81, 82, 83] (by decide +kernel) (by decide +kernel)
set_option maxRecDepth 20000 in
theorem gX3_stateByRounds_X2_decisionOn : GoodIn wsX3_stateByRounds (wsV RX3 123 RX2 yX2_decisionOn wsX2_decisionOn) := goodIn_app (goodIn_of _ (by decide +kernel)) ggX3_stateByRounds_X2_decisionOn
theorem dX3_stateByRounds_0 : decode cX3_stateByRounds 0 = .ok (.aload_n 0, 1) := by decide +kernel
theorem dX3_stateByRounds_1 : decode cX3_stateByRounds 1 = .ok (.iload_n 1, 1) := by decide +kernel
theorem dX3_stateByRounds_2 : decode cX3_stateByRounds 2 = .ok (.invokevirtual 108, 3) := by decide +kernel
theorem dX3_stateByRounds_5 : decode cX3_stateByRounds 5 = .ok (.aload_n 0, 1) := by decide +kernel
theorem dX3_stateByRounds_6 : decode cX3_stateByRounds 6 = .ok (.getfield 28, 3) := by decide +kernel
theorem dX3_stateByRounds_9 : decode cX3_stateByRounds 9 = .ok (.aload_n 0, 1) := by decide +kernel
theorem dX3_stateByRounds_10 : decode cX3_stateByRounds 10 = .ok (.getfield 10, 3) := by decide +kernel
theorem dX3_stateByRounds_13 : decode cX3_stateByRounds 13 = .ok (.invokevirtual 65, 3) := by decide +kernel
theorem dX3_stateByRounds_16 : decode cX3_stateByRounds 16 = .ok (.invokevirtual 126, 3) := by decide +kernel
theorem dX3_stateByRounds_19 : decode cX3_stateByRounds 19 = .ok (.aload_n 0, 1) := by decide +kernel
theorem dX3_stateByRounds_20 : decode cX3_stateByRounds 20 = .ok (.getfield 28, 3) := by decide +kernel
theorem dX3_stateByRounds_23 : decode cX3_stateByRounds 23 = .ok (.iload_n 1, 1) := by decide +kernel
theorem dX3_stateByRounds_24 : decode cX3_stateByRounds 24 = .ok (.invokevirtual 123, 3) := by decide +kernel
theorem dX3_stateByRounds_27 : decode cX3_stateByRounds 27 = .ok (.ireturn, 1) := by decide +kernel
set_option maxRecDepth 20000 in
theorem ggX3_score_X3_checkPlayer : GoodIn wsX3_score wsX3_checkPlayer := goodIn_ca (goodIn_r _ [6, 7, 8] (by decide +kernel) (by decide +kernel)) (goodIn_sub (fun _ h => List.mem_cons_of_mem _ (List.mem_append_right _ h)) (by decide +kernel))
set_option maxRecDepth 20000 in
theorem gX3_score_X3_checkPlayer : GoodIn wsX3_score (wsV RX3 114 RX3 yX3_checkPlayer wsX3_checkPlayer) := goodIn_app (goodIn_of _ (by decide +kernel)) ggX3_score_X3_checkPlayer
set_option maxRecDepth 20000 in
theorem ggX3_score_X1_standing : GoodIn wsX3_score wsX1_standing := goodIn_r _ [13, 14, 15, 16, 17, 18, 5, 19, 88, 89, 90, 91] (by decide +kernel) (by decide +kernel)
set_option maxRecDepth 20000 in
theorem gX3_score_X1_standing : GoodIn wsX3_score (wsV RX3 65 RX1 yX1_standing wsX1_standing) := goodIn_app (goodIn_of _ (by decide +kernel)) ggX3_score_X1_standing
set_option maxRecDepth 20000 in
theorem ggX3_score_X3_scoreIf : GoodIn wsX3_score wsX3_scoreIf := goodIn_r _ [23, 24, 25, 26, 27, 28, 29, 30, 31, 32, 33, 34, 35, 36, 37, 38, 39, 40, 41, 42, 43, 44, 45, 46, 47, 48, 49, 50, 51, 52, 53, 54, 18, 5, 19, 55, 56, 57, 58, 59, 60, 61, 62, 63, 64, 65, 66, 67, 68, 69, 70, 71, 72, 73, 74, 75, 76, 77, 78, 79, 80, 81, 82, 83, 84, 85, 86, 87, 92, 93, 94, 95, 96, 97, 98, 99, 100, 101, 102, 103, 104] (by decide +kernel) (by decide +kernel)
set_option maxRecDepth 20000 in
theorem gX3_score_X3_scoreIf : GoodIn wsX3_score (wsV RX3 129 RX3 yX3_scoreIf wsX3_scoreIf) := goodIn_app (goodIn_of _ (by decide +kernel)) ggX3_score_X3_scoreIf
theorem dX3_score_0 : decode cX3_score 0 = .ok (.aload_n 0, 1) := by decide +kernel
theorem dX3_score_1 : decode cX3_score 1 = .ok (.iload_n 1, 1) := by decide +kernel
theorem dX3_score_2 : decode cX3_score 2 = .ok (.invokevirtual 114, 3) := by decide +kernel
theorem dX3_score_5 : decode cX3_score 5 = .ok (.aload_n 0, 1) := by decide +kernel
theorem dX3_score_6 : decode cX3_score 6 = .ok (.iload_n 1, 1) := by decide +kernel
theorem dX3_score_7 : decode cX3_score 7 = .ok (.aload_n 0, 1) := by decide +kernel
theorem dX3_score_8 : decode cX3_score 8 = .ok (.getfield 10, 3) := by decide +kernel
theorem dX3_score_11 : decode cX3_score 11 = .ok (.invokevirtual 65, 3) := by decide +kernel
theorem dX3_score_14 : decode cX3_score 14 = .ok (.invokevirtual 129, 3) := by decide +kernel
theorem dX3_score_17 : decode cX3_score 17 = .ok (.ireturn, 1) := by decide +kernel
set_option maxRecDepth 20000 in
theorem ggX3_scoreWithout_X3_checkPlayer : GoodIn wsX3_scoreWithout wsX3_checkPlayer := goodIn_ca (goodIn_r _ [6, 7, 8] (by decide +kernel) (by decide +kernel)) (goodIn_sub (fun _ h => List.mem_cons_of_mem _ (List.mem_append_right _ h)) (by decide +kernel))
set_option maxRecDepth 20000 in
theorem gX3_scoreWithout_X3_checkPlayer : GoodIn wsX3_scoreWithout (wsV RX3 114 RX3 yX3_checkPlayer wsX3_checkPlayer) := goodIn_app (goodIn_of _ (by decide +kernel)) ggX3_scoreWithout_X3_checkPlayer
set_option maxRecDepth 20000 in
theorem ggX3_scoreWithout_X3_checkFact : GoodIn wsX3_scoreWithout wsX3_checkFact := goodIn_ca (goodIn_r _ [12, 7, 8, 1, 13, 14, 15, 16, 17, 18, 94, 95, 96, 97, 98, 99, 100, 101, 102] (by decide +kernel) (by decide +kernel)) (goodIn_sub (fun _ h => List.mem_cons_of_mem _ (List.mem_append_right _ h)) (by decide +kernel))
set_option maxRecDepth 20000 in
theorem gX3_scoreWithout_X3_checkFact : GoodIn wsX3_scoreWithout (wsV RX3 59 RX3 yX3_checkFact wsX3_checkFact) := goodIn_app (goodIn_of _ (by decide +kernel)) ggX3_scoreWithout_X3_checkFact
set_option maxRecDepth 20000 in
theorem ggX3_scoreWithout_X1_standing : GoodIn wsX3_scoreWithout wsX1_standing := goodIn_r _ [22, 18, 23, 24, 25, 26, 5, 27, 99, 100, 101, 102] (by decide +kernel) (by decide +kernel)
set_option maxRecDepth 20000 in
theorem gX3_scoreWithout_X1_standing : GoodIn wsX3_scoreWithout (wsV RX3 65 RX1 yX1_standing wsX1_standing) := goodIn_app (goodIn_of _ (by decide +kernel)) ggX3_scoreWithout_X1_standing
set_option maxRecDepth 20000 in
theorem ggX3_scoreWithout_X3_without : GoodIn wsX3_scoreWithout wsX3_without := goodIn_r _ [30] (by decide +kernel) (by decide +kernel)
set_option maxRecDepth 20000 in
theorem gX3_scoreWithout_X3_without : GoodIn wsX3_scoreWithout (va_wsS RX3 132 yX3_without wsX3_without) := goodIn_app (goodIn_of _ (by decide +kernel)) ggX3_scoreWithout_X3_without
set_option maxRecDepth 20000 in
theorem ggX3_scoreWithout_X3_scoreIf : GoodIn wsX3_scoreWithout wsX3_scoreIf := goodIn_r _ [34, 35, 36, 37, 38, 39, 40, 41, 42, 43, 44, 45, 46, 47, 48, 49, 50, 51, 52, 53, 54, 55, 56, 57, 58, 59, 60, 61, 62, 63, 64, 65, 26, 5, 27, 66, 67, 68, 69, 70, 71, 72, 73, 74, 75, 76, 77, 78, 79, 80, 81, 82, 83, 84, 85, 86, 87, 88, 89, 90, 91, 92, 93, 94, 95, 96, 97, 98, 103, 104, 105, 106, 107, 108, 109, 110, 111, 112, 113, 114, 115] (by decide +kernel) (by decide +kernel)
set_option maxRecDepth 20000 in
theorem gX3_scoreWithout_X3_scoreIf : GoodIn wsX3_scoreWithout (wsV RX3 129 RX3 yX3_scoreIf wsX3_scoreIf) := goodIn_app (goodIn_of _ (by decide +kernel)) ggX3_scoreWithout_X3_scoreIf
theorem dX3_scoreWithout_0 : decode cX3_scoreWithout 0 = .ok (.aload_n 0, 1) := by decide +kernel
theorem dX3_scoreWithout_1 : decode cX3_scoreWithout 1 = .ok (.iload_n 1, 1) := by decide +kernel
theorem dX3_scoreWithout_2 : decode cX3_scoreWithout 2 = .ok (.invokevirtual 114, 3) := by decide +kernel
theorem dX3_scoreWithout_5 : decode cX3_scoreWithout 5 = .ok (.aload_n 0, 1) := by decide +kernel
theorem dX3_scoreWithout_6 : decode cX3_scoreWithout 6 = .ok (.iload_n 2, 1) := by decide +kernel
theorem dX3_scoreWithout_7 : decode cX3_scoreWithout 7 = .ok (.invokevirtual 59, 3) := by decide +kernel
theorem dX3_scoreWithout_10 : decode cX3_scoreWithout 10 = .ok (.aload_n 0, 1) := by decide +kernel
theorem dX3_scoreWithout_11 : decode cX3_scoreWithout 11 = .ok (.iload_n 1, 1) := by decide +kernel
theorem dX3_scoreWithout_12 : decode cX3_scoreWithout 12 = .ok (.aload_n 0, 1) := by decide +kernel
theorem dX3_scoreWithout_13 : decode cX3_scoreWithout 13 = .ok (.getfield 10, 3) := by decide +kernel
theorem dX3_scoreWithout_16 : decode cX3_scoreWithout 16 = .ok (.invokevirtual 65, 3) := by decide +kernel
theorem dX3_scoreWithout_19 : decode cX3_scoreWithout 19 = .ok (.iload_n 2, 1) := by decide +kernel
theorem dX3_scoreWithout_20 : decode cX3_scoreWithout 20 = .ok (.invokestatic 132, 3) := by decide +kernel
theorem dX3_scoreWithout_23 : decode cX3_scoreWithout 23 = .ok (.invokevirtual 129, 3) := by decide +kernel
theorem dX3_scoreWithout_26 : decode cX3_scoreWithout 26 = .ok (.ireturn, 1) := by decide +kernel
set_option maxRecDepth 20000 in
theorem ggX3_keyFact_X3_checkPlayer : GoodIn wsX3_keyFact wsX3_checkPlayer := goodIn_ca (goodIn_r _ [6, 7, 8] (by decide +kernel) (by decide +kernel)) (goodIn_sub (fun _ h => List.mem_cons_of_mem _ (List.mem_append_right _ h)) (by decide +kernel))
set_option maxRecDepth 20000 in
theorem gX3_keyFact_X3_checkPlayer : GoodIn wsX3_keyFact (wsV RX3 114 RX3 yX3_checkPlayer wsX3_checkPlayer) := goodIn_app (goodIn_of _ (by decide +kernel)) ggX3_keyFact_X3_checkPlayer
set_option maxRecDepth 20000 in
theorem ggX3_keyFact_X1_standing : GoodIn wsX3_keyFact wsX1_standing := goodIn_r _ [13, 14, 15, 16, 17, 18, 5, 19, 92, 93, 94, 95] (by decide +kernel) (by decide +kernel)
set_option maxRecDepth 20000 in
theorem gX3_keyFact_X1_standing : GoodIn wsX3_keyFact (wsV RX3 65 RX1 yX1_standing wsX1_standing) := goodIn_app (goodIn_of _ (by decide +kernel)) ggX3_keyFact_X1_standing
set_option maxRecDepth 20000 in
theorem ggX3_keyFact_X3_contains : GoodIn wsX3_keyFact wsX3_contains := goodIn_r _ [19] (by decide +kernel) (by decide +kernel)
set_option maxRecDepth 20000 in
theorem gX3_keyFact_X3_contains : GoodIn wsX3_keyFact (va_wsS RX3 69 yX3_contains wsX3_contains) := goodIn_app (goodIn_of _ (by decide +kernel)) ggX3_keyFact_X3_contains
set_option maxRecDepth 20000 in
theorem ggX3_keyFact_X3_without : GoodIn wsX3_keyFact wsX3_without := goodIn_r _ [23] (by decide +kernel) (by decide +kernel)
set_option maxRecDepth 20000 in
theorem gX3_keyFact_X3_without : GoodIn wsX3_keyFact (va_wsS RX3 132 yX3_without wsX3_without) := goodIn_app (goodIn_of _ (by decide +kernel)) ggX3_keyFact_X3_without
set_option maxRecDepth 20000 in
theorem ggX3_keyFact_X3_scoreIf : GoodIn wsX3_keyFact wsX3_scoreIf := goodIn_r _ [27, 28, 29, 30, 31, 32, 33, 34, 35, 36, 37, 38, 39, 40, 41, 42, 43, 44, 45, 46, 47, 48, 49, 50, 51, 52, 53, 54, 55, 56, 57, 58, 18, 5, 19, 59, 60, 61, 62, 63, 64, 65, 66, 67, 68, 69, 70, 71, 72, 73, 74, 75, 76, 77, 78, 79, 80, 81, 82, 83, 84, 85, 86, 87, 88, 89, 90, 91, 96, 97, 98, 99, 100, 101, 102, 103, 104, 105, 106, 107, 108] (by decide +kernel) (by decide +kernel)
set_option maxRecDepth 20000 in
theorem gX3_keyFact_X3_scoreIf : GoodIn wsX3_keyFact (wsV RX3 129 RX3 yX3_scoreIf wsX3_scoreIf) := goodIn_app (goodIn_of _ (by decide +kernel)) ggX3_keyFact_X3_scoreIf
theorem dX3_keyFact_0 : decode cX3_keyFact 0 = .ok (.aload_n 0, 1) := by decide +kernel
theorem dX3_keyFact_1 : decode cX3_keyFact 1 = .ok (.iload_n 1, 1) := by decide +kernel
theorem dX3_keyFact_2 : decode cX3_keyFact 2 = .ok (.invokevirtual 114, 3) := by decide +kernel
theorem dX3_keyFact_5 : decode cX3_keyFact 5 = .ok (.aload_n 0, 1) := by decide +kernel
theorem dX3_keyFact_6 : decode cX3_keyFact 6 = .ok (.getfield 10, 3) := by decide +kernel
theorem dX3_keyFact_9 : decode cX3_keyFact 9 = .ok (.invokevirtual 65, 3) := by decide +kernel
theorem dX3_keyFact_12 : decode cX3_keyFact 12 = .ok (.istore_n 2, 1) := by decide +kernel
theorem dX3_keyFact_13 : decode cX3_keyFact 13 = .ok (.iconst (-1), 1) := by decide +kernel
theorem dX3_keyFact_14 : decode cX3_keyFact 14 = .ok (.istore_n 3, 1) := by decide +kernel
theorem dX3_keyFact_15 : decode cX3_keyFact 15 = .ok (.iconst 0, 1) := by decide +kernel
theorem dX3_keyFact_16 : decode cX3_keyFact 16 = .ok (.istore 4, 2) := by decide +kernel
theorem dX3_keyFact_18 : decode cX3_keyFact 18 = .ok (.iconst 0, 1) := by decide +kernel
theorem dX3_keyFact_19 : decode cX3_keyFact 19 = .ok (.istore 5, 2) := by decide +kernel
theorem dX3_keyFact_21 : decode cX3_keyFact 21 = .ok (.iload 5, 2) := by decide +kernel
theorem dX3_keyFact_23 : decode cX3_keyFact 23 = .ok (.bipush 14, 2) := by decide +kernel
theorem dX3_keyFact_25 : decode cX3_keyFact 25 = .ok (.if_icmp .ge 50, 3) := by decide +kernel
theorem dX3_keyFact_28 : decode cX3_keyFact 28 = .ok (.iload_n 2, 1) := by decide +kernel
theorem dX3_keyFact_29 : decode cX3_keyFact 29 = .ok (.iload 5, 2) := by decide +kernel
theorem dX3_keyFact_31 : decode cX3_keyFact 31 = .ok (.invokestatic 69, 3) := by decide +kernel
theorem dX3_keyFact_34 : decode cX3_keyFact 34 = .ok (.ifCond .eq 35, 3) := by decide +kernel
theorem dX3_keyFact_37 : decode cX3_keyFact 37 = .ok (.aload_n 0, 1) := by decide +kernel
theorem dX3_keyFact_38 : decode cX3_keyFact 38 = .ok (.iload_n 1, 1) := by decide +kernel
theorem dX3_keyFact_39 : decode cX3_keyFact 39 = .ok (.iload_n 2, 1) := by decide +kernel
theorem dX3_keyFact_40 : decode cX3_keyFact 40 = .ok (.iload 5, 2) := by decide +kernel
theorem dX3_keyFact_42 : decode cX3_keyFact 42 = .ok (.invokestatic 132, 3) := by decide +kernel
theorem dX3_keyFact_45 : decode cX3_keyFact 45 = .ok (.invokevirtual 129, 3) := by decide +kernel
theorem dX3_keyFact_48 : decode cX3_keyFact 48 = .ok (.istore 6, 2) := by decide +kernel
theorem dX3_keyFact_50 : decode cX3_keyFact 50 = .ok (.iload_n 3, 1) := by decide +kernel
theorem dX3_keyFact_51 : decode cX3_keyFact 51 = .ok (.iconst (-1), 1) := by decide +kernel
theorem dX3_keyFact_52 : decode cX3_keyFact 52 = .ok (.if_icmp .eq 10, 3) := by decide +kernel
theorem dX3_keyFact_55 : decode cX3_keyFact 55 = .ok (.iload 6, 2) := by decide +kernel
theorem dX3_keyFact_57 : decode cX3_keyFact 57 = .ok (.iload 4, 2) := by decide +kernel
theorem dX3_keyFact_59 : decode cX3_keyFact 59 = .ok (.if_icmp .ge 10, 3) := by decide +kernel
theorem dX3_keyFact_62 : decode cX3_keyFact 62 = .ok (.iload 5, 2) := by decide +kernel
theorem dX3_keyFact_64 : decode cX3_keyFact 64 = .ok (.istore_n 3, 1) := by decide +kernel
theorem dX3_keyFact_65 : decode cX3_keyFact 65 = .ok (.iload 6, 2) := by decide +kernel
theorem dX3_keyFact_67 : decode cX3_keyFact 67 = .ok (.istore 4, 2) := by decide +kernel
theorem dX3_keyFact_69 : decode cX3_keyFact 69 = .ok (.iinc 5 1, 3) := by decide +kernel
theorem dX3_keyFact_72 : decode cX3_keyFact 72 = .ok (.goto (-51), 3) := by decide +kernel
theorem dX3_keyFact_75 : decode cX3_keyFact 75 = .ok (.iload_n 3, 1) := by decide +kernel
theorem dX3_keyFact_76 : decode cX3_keyFact 76 = .ok (.ireturn, 1) := by decide +kernel
set_option maxRecDepth 20000 in
theorem ggX3_verdict_X1_standing : GoodIn wsX3_verdict wsX1_standing := goodIn_r _ [8, 9, 10, 11, 12, 13, 14, 15, 78, 79, 80, 81] (by decide +kernel) (by decide +kernel)
set_option maxRecDepth 20000 in
theorem gX3_verdict_X1_standing : GoodIn wsX3_verdict (wsV RX3 65 RX1 yX1_standing wsX1_standing) := goodIn_app (goodIn_of _ (by decide +kernel)) ggX3_verdict_X1_standing
set_option maxRecDepth 20000 in
theorem ggX3_verdict_X2_decideByGoingOn : GoodIn wsX3_verdict wsX2_decideByGoingOn := goodIn_r _ [20, 21, 22, 23, 24, 25, 26, 19, 27, 28, 29, 30, 31, 32, 33, 34, 35, 36, 37, 38, 39, 40, 41, 42, 43, 44, 13, 14, 15, 45, 46, 47, 48, 49, 50, 51, 52, 53, 54, 55, 56, 57, 58, 59, 60, 61, 62, 63, 82, 83, 84, 85, 86, 87, 88, 89, 90, 91, 92, 93, 94] (by decide +kernel) (by decide +kernel)
set_option maxRecDepth 20000 in
theorem gX3_verdict_X2_decideByGoingOn : GoodIn wsX3_verdict (wsV RX3 120 RX2 yX2_decideByGoingOn wsX2_decideByGoingOn) := goodIn_app (goodIn_of _ (by decide +kernel)) ggX3_verdict_X2_decideByGoingOn
set_option maxRecDepth 20000 in
theorem ggX3_verdict_X2_claimsIn : GoodIn wsX3_verdict wsX2_claimsIn := goodIn_r _ [67, 29, 82, 83, 84, 85, 86, 87] (by decide +kernel) (by decide +kernel)
set_option maxRecDepth 20000 in
theorem gX3_verdict_X2_claimsIn : GoodIn wsX3_verdict (wsV RX3 135 RX2 yX2_claimsIn wsX2_claimsIn) := goodIn_app (goodIn_of _ (by decide +kernel)) ggX3_verdict_X2_claimsIn
set_option maxRecDepth 20000 in
theorem ggX3_verdict_X0_countOf : GoodIn wsX3_verdict wsX0_countOf := goodIn_r _ [71, 36, 72, 13, 14, 15, 88, 89, 90, 91, 92, 93, 94] (by decide +kernel) (by decide +kernel)
set_option maxRecDepth 20000 in
theorem gX3_verdict_X0_countOf : GoodIn wsX3_verdict (wsV RX3 138 RX0 yX0_countOf wsX0_countOf) := goodIn_app (goodIn_of _ (by decide +kernel)) ggX3_verdict_X0_countOf
theorem dX3_verdict_0 : decode cX3_verdict 0 = .ok (.aload_n 0, 1) := by decide +kernel
theorem dX3_verdict_1 : decode cX3_verdict 1 = .ok (.getfield 28, 3) := by decide +kernel
theorem dX3_verdict_4 : decode cX3_verdict 4 = .ok (.aload_n 0, 1) := by decide +kernel
theorem dX3_verdict_5 : decode cX3_verdict 5 = .ok (.getfield 10, 3) := by decide +kernel
theorem dX3_verdict_8 : decode cX3_verdict 8 = .ok (.invokevirtual 65, 3) := by decide +kernel
theorem dX3_verdict_11 : decode cX3_verdict 11 = .ok (.invokevirtual 120, 3) := by decide +kernel
theorem dX3_verdict_14 : decode cX3_verdict 14 = .ok (.iconst (-1), 1) := by decide +kernel
theorem dX3_verdict_15 : decode cX3_verdict 15 = .ok (.istore_n 1, 1) := by decide +kernel
theorem dX3_verdict_16 : decode cX3_verdict 16 = .ok (.iconst (-1), 1) := by decide +kernel
theorem dX3_verdict_17 : decode cX3_verdict 17 = .ok (.istore_n 2, 1) := by decide +kernel
theorem dX3_verdict_18 : decode cX3_verdict 18 = .ok (.iconst 0, 1) := by decide +kernel
theorem dX3_verdict_19 : decode cX3_verdict 19 = .ok (.istore_n 3, 1) := by decide +kernel
theorem dX3_verdict_20 : decode cX3_verdict 20 = .ok (.iload_n 3, 1) := by decide +kernel
theorem dX3_verdict_21 : decode cX3_verdict 21 = .ok (.iconst 3, 1) := by decide +kernel
theorem dX3_verdict_22 : decode cX3_verdict 22 = .ok (.if_icmp .ge 48, 3) := by decide +kernel
theorem dX3_verdict_25 : decode cX3_verdict 25 = .ok (.aload_n 0, 1) := by decide +kernel
theorem dX3_verdict_26 : decode cX3_verdict 26 = .ok (.getfield 19, 3) := by decide +kernel
theorem dX3_verdict_29 : decode cX3_verdict 29 = .ok (.iload_n 3, 1) := by decide +kernel
theorem dX3_verdict_30 : decode cX3_verdict 30 = .ok (.aload_n 0, 1) := by decide +kernel
theorem dX3_verdict_31 : decode cX3_verdict 31 = .ok (.getfield 28, 3) := by decide +kernel
theorem dX3_verdict_34 : decode cX3_verdict 34 = .ok (.invokevirtual 135, 3) := by decide +kernel
theorem dX3_verdict_37 : decode cX3_verdict 37 = .ok (.invokevirtual 138, 3) := by decide +kernel
theorem dX3_verdict_40 : decode cX3_verdict 40 = .ok (.istore 4, 2) := by decide +kernel
theorem dX3_verdict_42 : decode cX3_verdict 42 = .ok (.iload 4, 2) := by decide +kernel
theorem dX3_verdict_44 : decode cX3_verdict 44 = .ok (.iload_n 2, 1) := by decide +kernel
theorem dX3_verdict_45 : decode cX3_verdict 45 = .ok (.if_icmp .le 11, 3) := by decide +kernel
theorem dX3_verdict_48 : decode cX3_verdict 48 = .ok (.iload_n 3, 1) := by decide +kernel
theorem dX3_verdict_49 : decode cX3_verdict 49 = .ok (.istore_n 1, 1) := by decide +kernel
theorem dX3_verdict_50 : decode cX3_verdict 50 = .ok (.iload 4, 2) := by decide +kernel
theorem dX3_verdict_52 : decode cX3_verdict 52 = .ok (.istore_n 2, 1) := by decide +kernel
theorem dX3_verdict_53 : decode cX3_verdict 53 = .ok (.goto 11, 3) := by decide +kernel
theorem dX3_verdict_56 : decode cX3_verdict 56 = .ok (.iload 4, 2) := by decide +kernel
theorem dX3_verdict_58 : decode cX3_verdict 58 = .ok (.iload_n 2, 1) := by decide +kernel
theorem dX3_verdict_59 : decode cX3_verdict 59 = .ok (.if_icmp .ne 5, 3) := by decide +kernel
theorem dX3_verdict_62 : decode cX3_verdict 62 = .ok (.iconst (-1), 1) := by decide +kernel
theorem dX3_verdict_63 : decode cX3_verdict 63 = .ok (.istore_n 1, 1) := by decide +kernel
theorem dX3_verdict_64 : decode cX3_verdict 64 = .ok (.iinc 3 1, 3) := by decide +kernel
theorem dX3_verdict_67 : decode cX3_verdict 67 = .ok (.goto (-47), 3) := by decide +kernel
theorem dX3_verdict_70 : decode cX3_verdict 70 = .ok (.iload_n 1, 1) := by decide +kernel
theorem dX3_verdict_71 : decode cX3_verdict 71 = .ok (.ireturn, 1) := by decide +kernel
set_option maxRecDepth 20000 in
theorem ggX3_close_X1_standing : GoodIn wsX3_close wsX1_standing := goodIn_r _ [10, 11, 12, 13, 14, 15, 16, 17, 94, 95, 96, 97] (by decide +kernel) (by decide +kernel)
set_option maxRecDepth 20000 in
theorem gX3_close_X1_standing : GoodIn wsX3_close (wsV RX3 65 RX1 yX1_standing wsX1_standing) := goodIn_app (goodIn_of _ (by decide +kernel)) ggX3_close_X1_standing
set_option maxRecDepth 20000 in
theorem ggX3_close_X2_decideByGoingOn : GoodIn wsX3_close wsX2_decideByGoingOn := goodIn_r _ [22, 23, 24, 25, 26, 27, 28, 21, 29, 30, 31, 32, 33, 34, 35, 36, 37, 38, 39, 40, 41, 42, 43, 44, 45, 46, 15, 16, 17, 47, 48, 49, 50, 51, 52, 53, 54, 55, 56, 57, 58, 59, 60, 61, 62, 63, 64, 65, 98, 99, 100, 101, 102, 103, 104, 105, 106, 107, 108, 109, 110] (by decide +kernel) (by decide +kernel)
set_option maxRecDepth 20000 in
theorem gX3_close_X2_decideByGoingOn : GoodIn wsX3_close (wsV RX3 120 RX2 yX2_decideByGoingOn wsX2_decideByGoingOn) := goodIn_app (goodIn_of _ (by decide +kernel)) ggX3_close_X2_decideByGoingOn
set_option maxRecDepth 20000 in
theorem ggX3_close_X0_illFounded : GoodIn wsX3_close wsX0_illFounded := goodIn_r _ [69, 38, 51, 104, 105, 106, 107, 108, 109, 110] (by decide +kernel) (by decide +kernel)
set_option maxRecDepth 20000 in
theorem gX3_close_X0_illFounded : GoodIn wsX3_close (wsV RX3 141 RX0 yX0_illFounded wsX0_illFounded) := goodIn_app (goodIn_of _ (by decide +kernel)) ggX3_close_X0_illFounded
set_option maxRecDepth 20000 in
theorem ggX3_close_X2_claimsIn : GoodIn wsX3_close wsX2_claimsIn := goodIn_r _ [73, 31, 98, 99, 100, 101, 102, 103] (by decide +kernel) (by decide +kernel)
set_option maxRecDepth 20000 in
theorem gX3_close_X2_claimsIn : GoodIn wsX3_close (wsV RX3 135 RX2 yX2_claimsIn wsX2_claimsIn) := goodIn_app (goodIn_of _ (by decide +kernel)) ggX3_close_X2_claimsIn
set_option maxRecDepth 20000 in
theorem ggX3_close_X0_countOf : GoodIn wsX3_close wsX0_countOf := goodIn_r _ [77, 38, 78, 15, 16, 17, 104, 105, 106, 107, 108, 109, 110] (by decide +kernel) (by decide +kernel)
set_option maxRecDepth 20000 in
theorem gX3_close_X0_countOf : GoodIn wsX3_close (wsV RX3 138 RX0 yX0_countOf wsX0_countOf) := goodIn_app (goodIn_of _ (by decide +kernel)) ggX3_close_X0_countOf
set_option maxRecDepth 20000 in
theorem ggX3_close_X0_beginAgain : GoodIn wsX3_close wsX0_beginAgain := goodIn_r _ [82, 83, 38, 84, 85, 86, 87, 88, 104, 105, 106, 107, 108, 109, 110] (by decide +kernel) (by decide +kernel)
set_option maxRecDepth 20000 in
theorem gX3_close_X0_beginAgain : GoodIn wsX3_close (wsV RX3 144 RX0 yX0_beginAgain wsX0_beginAgain) := goodIn_app (goodIn_of _ (by decide +kernel)) ggX3_close_X0_beginAgain
theorem dX3_close_0 : decode cX3_close 0 = .ok (.aload_n 0, 1) := by decide +kernel
theorem dX3_close_1 : decode cX3_close 1 = .ok (.getfield 10, 3) := by decide +kernel
theorem dX3_close_4 : decode cX3_close 4 = .ok (.invokevirtual 65, 3) := by decide +kernel
theorem dX3_close_7 : decode cX3_close 7 = .ok (.istore_n 1, 1) := by decide +kernel
theorem dX3_close_8 : decode cX3_close 8 = .ok (.aload_n 0, 1) := by decide +kernel
theorem dX3_close_9 : decode cX3_close 9 = .ok (.getfield 28, 3) := by decide +kernel
theorem dX3_close_12 : decode cX3_close 12 = .ok (.iload_n 1, 1) := by decide +kernel
theorem dX3_close_13 : decode cX3_close 13 = .ok (.invokevirtual 120, 3) := by decide +kernel
theorem dX3_close_16 : decode cX3_close 16 = .ok (.aload_n 0, 1) := by decide +kernel
theorem dX3_close_17 : decode cX3_close 17 = .ok (.getfield 19, 3) := by decide +kernel
theorem dX3_close_20 : decode cX3_close 20 = .ok (.iload_n 1, 1) := by decide +kernel
theorem dX3_close_21 : decode cX3_close 21 = .ok (.invokevirtual 141, 3) := by decide +kernel
theorem dX3_close_24 : decode cX3_close 24 = .ok (.istore_n 2, 1) := by decide +kernel
theorem dX3_close_25 : decode cX3_close 25 = .ok (.iconst 0, 1) := by decide +kernel
theorem dX3_close_26 : decode cX3_close 26 = .ok (.istore_n 3, 1) := by decide +kernel
theorem dX3_close_27 : decode cX3_close 27 = .ok (.iload_n 3, 1) := by decide +kernel
theorem dX3_close_28 : decode cX3_close 28 = .ok (.iconst 3, 1) := by decide +kernel
theorem dX3_close_29 : decode cX3_close 29 = .ok (.if_icmp .ge 43, 3) := by decide +kernel
theorem dX3_close_32 : decode cX3_close 32 = .ok (.aload_n 0, 1) := by decide +kernel
theorem dX3_close_33 : decode cX3_close 33 = .ok (.getfield 32, 3) := by decide +kernel
theorem dX3_close_36 : decode cX3_close 36 = .ok (.iload_n 3, 1) := by decide +kernel
theorem dX3_close_37 : decode cX3_close 37 = .ok (.dup2, 1) := by decide +kernel
theorem dX3_close_38 : decode cX3_close 38 = .ok (.iaload, 1) := by decide +kernel
theorem dX3_close_39 : decode cX3_close 39 = .ok (.aload_n 0, 1) := by decide +kernel
theorem dX3_close_40 : decode cX3_close 40 = .ok (.getfield 19, 3) := by decide +kernel
theorem dX3_close_43 : decode cX3_close 43 = .ok (.iload_n 3, 1) := by decide +kernel
theorem dX3_close_44 : decode cX3_close 44 = .ok (.aload_n 0, 1) := by decide +kernel
theorem dX3_close_45 : decode cX3_close 45 = .ok (.getfield 28, 3) := by decide +kernel
theorem dX3_close_48 : decode cX3_close 48 = .ok (.invokevirtual 135, 3) := by decide +kernel
theorem dX3_close_51 : decode cX3_close 51 = .ok (.invokevirtual 138, 3) := by decide +kernel
theorem dX3_close_54 : decode cX3_close 54 = .ok (.aload_n 0, 1) := by decide +kernel
theorem dX3_close_55 : decode cX3_close 55 = .ok (.getfield 19, 3) := by decide +kernel
theorem dX3_close_58 : decode cX3_close 58 = .ok (.iload_n 3, 1) := by decide +kernel
theorem dX3_close_59 : decode cX3_close 59 = .ok (.iload_n 2, 1) := by decide +kernel
theorem dX3_close_60 : decode cX3_close 60 = .ok (.invokevirtual 138, 3) := by decide +kernel
theorem dX3_close_63 : decode cX3_close 63 = .ok (.isub, 1) := by decide +kernel
theorem dX3_close_64 : decode cX3_close 64 = .ok (.iadd, 1) := by decide +kernel
theorem dX3_close_65 : decode cX3_close 65 = .ok (.iastore, 1) := by decide +kernel
theorem dX3_close_66 : decode cX3_close 66 = .ok (.iinc 3 1, 3) := by decide +kernel
theorem dX3_close_69 : decode cX3_close 69 = .ok (.goto (-42), 3) := by decide +kernel
theorem dX3_close_72 : decode cX3_close 72 = .ok (.aload_n 0, 1) := by decide +kernel
theorem dX3_close_73 : decode cX3_close 73 = .ok (.getfield 19, 3) := by decide +kernel
theorem dX3_close_76 : decode cX3_close 76 = .ok (.invokevirtual 144, 3) := by decide +kernel
theorem dX3_close_79 : decode cX3_close 79 = .ok (.aload_n 0, 1) := by decide +kernel
theorem dX3_close_80 : decode cX3_close 80 = .ok (.dup, 1) := by decide +kernel
theorem dX3_close_81 : decode cX3_close 81 = .ok (.getfield 36, 3) := by decide +kernel
theorem dX3_close_84 : decode cX3_close 84 = .ok (.iconst 1, 1) := by decide +kernel
theorem dX3_close_85 : decode cX3_close 85 = .ok (.iadd, 1) := by decide +kernel
theorem dX3_close_86 : decode cX3_close 86 = .ok (.putfield 36, 3) := by decide +kernel
theorem dX3_close_89 : decode cX3_close 89 = .ok (.aload_n 0, 1) := by decide +kernel
theorem dX3_close_90 : decode cX3_close 90 = .ok (.getfield 36, 3) := by decide +kernel
theorem dX3_close_93 : decode cX3_close 93 = .ok (.ireturn, 1) := by decide +kernel
set_option maxRecDepth 20000 in
theorem ggX3_reputation_X3_checkPlayer : GoodIn wsX3_reputation wsX3_checkPlayer := goodIn_ca (goodIn_r _ [6, 7, 8] (by decide +kernel) (by decide +kernel)) (goodIn_sub (fun _ h => List.mem_cons_of_mem _ (List.mem_append_right _ h)) (by decide +kernel))
set_option maxRecDepth 20000 in
theorem gX3_reputation_X3_checkPlayer : GoodIn wsX3_reputation (wsV RX3 114 RX3 yX3_checkPlayer wsX3_checkPlayer) := goodIn_app (goodIn_of _ (by decide +kernel)) ggX3_reputation_X3_checkPlayer
theorem dX3_reputation_0 : decode cX3_reputation 0 = .ok (.aload_n 0, 1) := by decide +kernel
theorem dX3_reputation_1 : decode cX3_reputation 1 = .ok (.iload_n 1, 1) := by decide +kernel
theorem dX3_reputation_2 : decode cX3_reputation 2 = .ok (.invokevirtual 114, 3) := by decide +kernel
theorem dX3_reputation_5 : decode cX3_reputation 5 = .ok (.aload_n 0, 1) := by decide +kernel
theorem dX3_reputation_6 : decode cX3_reputation 6 = .ok (.getfield 32, 3) := by decide +kernel
theorem dX3_reputation_9 : decode cX3_reputation 9 = .ok (.iload_n 1, 1) := by decide +kernel
theorem dX3_reputation_10 : decode cX3_reputation 10 = .ok (.iaload, 1) := by decide +kernel
theorem dX3_reputation_11 : decode cX3_reputation 11 = .ok (.ireturn, 1) := by decide +kernel
set_option maxRecDepth 20000 in
theorem ggX3_scoreIf_X2_decideByGoingOn : GoodIn wsX3_scoreIf wsX2_decideByGoingOn := goodIn_r _ [7, 8, 9, 10, 11, 12, 13, 6, 14, 15, 16, 17, 18, 19, 20, 21, 22, 23, 24, 25, 26, 27, 28, 29, 30, 31, 32, 33, 34, 35, 36, 37, 38, 39, 40, 41, 42, 43, 44, 45, 46, 47, 48, 49, 50, 51, 52, 53, 68, 69, 70, 71, 72, 73, 74, 75, 76, 77, 78, 79, 80] (by decide +kernel) (by decide +kernel)
set_option maxRecDepth 20000 in
theorem gX3_scoreIf_X2_decideByGoingOn : GoodIn wsX3_scoreIf (wsV RX3 120 RX2 yX2_decideByGoingOn wsX2_decideByGoingOn) := goodIn_app (goodIn_of _ (by decide +kernel)) ggX3_scoreIf_X2_decideByGoingOn
set_option maxRecDepth 20000 in
theorem ggX3_scoreIf_X2_claimsIn : GoodIn wsX3_scoreIf wsX2_claimsIn := goodIn_r _ [57, 16, 68, 69, 70, 71, 72, 73] (by decide +kernel) (by decide +kernel)
set_option maxRecDepth 20000 in
theorem gX3_scoreIf_X2_claimsIn : GoodIn wsX3_scoreIf (wsV RX3 135 RX2 yX2_claimsIn wsX2_claimsIn) := goodIn_app (goodIn_of _ (by decide +kernel)) ggX3_scoreIf_X2_claimsIn
set_option maxRecDepth 20000 in
theorem ggX3_scoreIf_X0_countOf : GoodIn wsX3_scoreIf wsX0_countOf := goodIn_r _ [61, 23, 62, 32, 33, 34, 74, 75, 76, 77, 78, 79, 80] (by decide +kernel) (by decide +kernel)
set_option maxRecDepth 20000 in
theorem gX3_scoreIf_X0_countOf : GoodIn wsX3_scoreIf (wsV RX3 138 RX0 yX0_countOf wsX0_countOf) := goodIn_app (goodIn_of _ (by decide +kernel)) ggX3_scoreIf_X0_countOf
theorem dX3_scoreIf_0 : decode cX3_scoreIf 0 = .ok (.aload_n 0, 1) := by decide +kernel
theorem dX3_scoreIf_1 : decode cX3_scoreIf 1 = .ok (.getfield 28, 3) := by decide +kernel
theorem dX3_scoreIf_4 : decode cX3_scoreIf 4 = .ok (.iload_n 2, 1) := by decide +kernel
theorem dX3_scoreIf_5 : decode cX3_scoreIf 5 = .ok (.invokevirtual 120, 3) := by decide +kernel
theorem dX3_scoreIf_8 : decode cX3_scoreIf 8 = .ok (.aload_n 0, 1) := by decide +kernel
theorem dX3_scoreIf_9 : decode cX3_scoreIf 9 = .ok (.getfield 19, 3) := by decide +kernel
theorem dX3_scoreIf_12 : decode cX3_scoreIf 12 = .ok (.iload_n 1, 1) := by decide +kernel
theorem dX3_scoreIf_13 : decode cX3_scoreIf 13 = .ok (.aload_n 0, 1) := by decide +kernel
theorem dX3_scoreIf_14 : decode cX3_scoreIf 14 = .ok (.getfield 28, 3) := by decide +kernel
theorem dX3_scoreIf_17 : decode cX3_scoreIf 17 = .ok (.invokevirtual 135, 3) := by decide +kernel
theorem dX3_scoreIf_20 : decode cX3_scoreIf 20 = .ok (.invokevirtual 138, 3) := by decide +kernel
theorem dX3_scoreIf_23 : decode cX3_scoreIf 23 = .ok (.ireturn, 1) := by decide +kernel
theorem dX3_checkSource_0 : decode cX3_checkSource 0 = .ok (.iload_n 1, 1) := by decide +kernel
theorem dX3_checkSource_1 : decode cX3_checkSource 1 = .ok (.ifCond .lt 9, 3) := by decide +kernel
theorem dX3_checkSource_4 : decode cX3_checkSource 4 = .ok (.iload_n 1, 1) := by decide +kernel
theorem dX3_checkSource_5 : decode cX3_checkSource 5 = .ok (.bipush 6, 2) := by decide +kernel
theorem dX3_checkSource_7 : decode cX3_checkSource 7 = .ok (.if_icmp .lt 13, 3) := by decide +kernel
theorem dX3_checkSource_10 : decode cX3_checkSource 10 = .ok (.new 147, 3) := by decide +kernel
theorem dX3_checkSource_13 : decode cX3_checkSource 13 = .ok (.dup, 1) := by decide +kernel
theorem dX3_checkSource_14 : decode cX3_checkSource 14 = .ok (.ldc 149, 2) := by decide +kernel
theorem dX3_checkSource_16 : decode cX3_checkSource 16 = .ok (.invokespecial 151, 3) := by decide +kernel
theorem dX3_checkSource_19 : decode cX3_checkSource 19 = .ok (.athrow, 1) := by decide +kernel
theorem dX3_checkSource_20 : decode cX3_checkSource 20 = .ok (.return_, 1) := by decide +kernel
set_option maxRecDepth 20000 in
theorem ggX3_checkFact_X1_size : GoodIn wsX3_checkFact wsX1_size := goodIn_r _ [8, 9, 15, 16, 17, 18] (by decide +kernel) (by decide +kernel)
set_option maxRecDepth 20000 in
theorem gX3_checkFact_X1_size : GoodIn wsX3_checkFact (wsV RX3 73 RX1 yX1_size wsX1_size) := goodIn_app (goodIn_of _ (by decide +kernel)) ggX3_checkFact_X1_size
theorem dX3_checkFact_0 : decode cX3_checkFact 0 = .ok (.iload_n 1, 1) := by decide +kernel
theorem dX3_checkFact_1 : decode cX3_checkFact 1 = .ok (.ifCond .lt 14, 3) := by decide +kernel
theorem dX3_checkFact_4 : decode cX3_checkFact 4 = .ok (.iload_n 1, 1) := by decide +kernel
theorem dX3_checkFact_5 : decode cX3_checkFact 5 = .ok (.aload_n 0, 1) := by decide +kernel
theorem dX3_checkFact_6 : decode cX3_checkFact 6 = .ok (.getfield 10, 3) := by decide +kernel
theorem dX3_checkFact_9 : decode cX3_checkFact 9 = .ok (.invokevirtual 73, 3) := by decide +kernel
theorem dX3_checkFact_12 : decode cX3_checkFact 12 = .ok (.if_icmp .lt 13, 3) := by decide +kernel
theorem dX3_checkFact_15 : decode cX3_checkFact 15 = .ok (.new 147, 3) := by decide +kernel
theorem dX3_checkFact_18 : decode cX3_checkFact 18 = .ok (.dup, 1) := by decide +kernel
theorem dX3_checkFact_19 : decode cX3_checkFact 19 = .ok (.ldc 81, 2) := by decide +kernel
theorem dX3_checkFact_21 : decode cX3_checkFact 21 = .ok (.invokespecial 151, 3) := by decide +kernel
theorem dX3_checkFact_24 : decode cX3_checkFact 24 = .ok (.athrow, 1) := by decide +kernel
theorem dX3_checkFact_25 : decode cX3_checkFact 25 = .ok (.return_, 1) := by decide +kernel
theorem dX3_checkPlayer_0 : decode cX3_checkPlayer 0 = .ok (.iload_n 1, 1) := by decide +kernel
theorem dX3_checkPlayer_1 : decode cX3_checkPlayer 1 = .ok (.ifCond .lt 8, 3) := by decide +kernel
theorem dX3_checkPlayer_4 : decode cX3_checkPlayer 4 = .ok (.iload_n 1, 1) := by decide +kernel
theorem dX3_checkPlayer_5 : decode cX3_checkPlayer 5 = .ok (.iconst 3, 1) := by decide +kernel
theorem dX3_checkPlayer_6 : decode cX3_checkPlayer 6 = .ok (.if_icmp .lt 13, 3) := by decide +kernel
theorem dX3_checkPlayer_9 : decode cX3_checkPlayer 9 = .ok (.new 147, 3) := by decide +kernel
theorem dX3_checkPlayer_12 : decode cX3_checkPlayer 12 = .ok (.dup, 1) := by decide +kernel
theorem dX3_checkPlayer_13 : decode cX3_checkPlayer 13 = .ok (.ldc 152, 2) := by decide +kernel
theorem dX3_checkPlayer_15 : decode cX3_checkPlayer 15 = .ok (.invokespecial 151, 3) := by decide +kernel
theorem dX3_checkPlayer_18 : decode cX3_checkPlayer 18 = .ok (.athrow, 1) := by decide +kernel
theorem dX3_checkPlayer_19 : decode cX3_checkPlayer 19 = .ok (.return_, 1) := by decide +kernel
set_option maxRecDepth 20000 in
theorem ggX3_checkClaim_X0_size : GoodIn wsX3_checkClaim wsX0_size := goodIn_r _ [8, 9, 15, 16, 17, 18, 19, 20, 21] (by decide +kernel) (by decide +kernel)
set_option maxRecDepth 20000 in
theorem gX3_checkClaim_X0_size : GoodIn wsX3_checkClaim (wsV RX3 107 RX0 yX0_size wsX0_size) := goodIn_app (goodIn_of _ (by decide +kernel)) ggX3_checkClaim_X0_size
theorem dX3_checkClaim_0 : decode cX3_checkClaim 0 = .ok (.iload_n 1, 1) := by decide +kernel
theorem dX3_checkClaim_1 : decode cX3_checkClaim 1 = .ok (.ifCond .lt 14, 3) := by decide +kernel
theorem dX3_checkClaim_4 : decode cX3_checkClaim 4 = .ok (.iload_n 1, 1) := by decide +kernel
theorem dX3_checkClaim_5 : decode cX3_checkClaim 5 = .ok (.aload_n 0, 1) := by decide +kernel
theorem dX3_checkClaim_6 : decode cX3_checkClaim 6 = .ok (.getfield 19, 3) := by decide +kernel
theorem dX3_checkClaim_9 : decode cX3_checkClaim 9 = .ok (.invokevirtual 107, 3) := by decide +kernel
theorem dX3_checkClaim_12 : decode cX3_checkClaim 12 = .ok (.if_icmp .lt 13, 3) := by decide +kernel
theorem dX3_checkClaim_15 : decode cX3_checkClaim 15 = .ok (.new 147, 3) := by decide +kernel
theorem dX3_checkClaim_18 : decode cX3_checkClaim 18 = .ok (.dup, 1) := by decide +kernel
theorem dX3_checkClaim_19 : decode cX3_checkClaim 19 = .ok (.ldc 154, 2) := by decide +kernel
theorem dX3_checkClaim_21 : decode cX3_checkClaim 21 = .ok (.invokespecial 151, 3) := by decide +kernel
theorem dX3_checkClaim_24 : decode cX3_checkClaim 24 = .ok (.athrow, 1) := by decide +kernel
theorem dX3_checkClaim_25 : decode cX3_checkClaim 25 = .ok (.return_, 1) := by decide +kernel
set_option maxRecDepth 20000 in
theorem ggX3_checkTwoClaims_X3_checkClaim : GoodIn wsX3_checkTwoClaims wsX3_checkClaim := goodIn_ca (goodIn_r _ [7, 8, 9, 10, 11, 12, 13, 14, 15, 16, 17, 18, 19, 20, 21, 22, 23, 24, 25, 26, 27, 28] (by decide +kernel) (by decide +kernel)) (goodIn_sub (fun _ h => List.mem_cons_of_mem _ (List.mem_append_right _ h)) (by decide +kernel))
set_option maxRecDepth 20000 in
theorem gX3_checkTwoClaims_X3_checkClaim : GoodIn wsX3_checkTwoClaims (wsV RX3 108 RX3 yX3_checkClaim wsX3_checkClaim) := goodIn_app (goodIn_of _ (by decide +kernel)) ggX3_checkTwoClaims_X3_checkClaim
theorem dX3_checkTwoClaims_0 : decode cX3_checkTwoClaims 0 = .ok (.aload_n 0, 1) := by decide +kernel
theorem dX3_checkTwoClaims_1 : decode cX3_checkTwoClaims 1 = .ok (.iload_n 1, 1) := by decide +kernel
theorem dX3_checkTwoClaims_2 : decode cX3_checkTwoClaims 2 = .ok (.invokevirtual 108, 3) := by decide +kernel
theorem dX3_checkTwoClaims_5 : decode cX3_checkTwoClaims 5 = .ok (.aload_n 0, 1) := by decide +kernel
theorem dX3_checkTwoClaims_6 : decode cX3_checkTwoClaims 6 = .ok (.iload_n 2, 1) := by decide +kernel
theorem dX3_checkTwoClaims_7 : decode cX3_checkTwoClaims 7 = .ok (.invokevirtual 108, 3) := by decide +kernel
theorem dX3_checkTwoClaims_10 : decode cX3_checkTwoClaims 10 = .ok (.iload_n 1, 1) := by decide +kernel
theorem dX3_checkTwoClaims_11 : decode cX3_checkTwoClaims 11 = .ok (.iload_n 2, 1) := by decide +kernel
theorem dX3_checkTwoClaims_12 : decode cX3_checkTwoClaims 12 = .ok (.if_icmp .ne 13, 3) := by decide +kernel
theorem dX3_checkTwoClaims_15 : decode cX3_checkTwoClaims 15 = .ok (.new 79, 3) := by decide +kernel
theorem dX3_checkTwoClaims_18 : decode cX3_checkTwoClaims 18 = .ok (.dup, 1) := by decide +kernel
theorem dX3_checkTwoClaims_19 : decode cX3_checkTwoClaims 19 = .ok (.ldc 156, 2) := by decide +kernel
theorem dX3_checkTwoClaims_21 : decode cX3_checkTwoClaims 21 = .ok (.invokespecial 83, 3) := by decide +kernel
theorem dX3_checkTwoClaims_24 : decode cX3_checkTwoClaims 24 = .ok (.athrow, 1) := by decide +kernel
theorem dX3_checkTwoClaims_25 : decode cX3_checkTwoClaims 25 = .ok (.return_, 1) := by decide +kernel
theorem dX3_contains_0 : decode cX3_contains 0 = .ok (.iload_n 0, 1) := by decide +kernel
theorem dX3_contains_1 : decode cX3_contains 1 = .ok (.iconst 1, 1) := by decide +kernel
theorem dX3_contains_2 : decode cX3_contains 2 = .ok (.iload_n 1, 1) := by decide +kernel
theorem dX3_contains_3 : decode cX3_contains 3 = .ok (.ishl, 1) := by decide +kernel
theorem dX3_contains_4 : decode cX3_contains 4 = .ok (.iand, 1) := by decide +kernel
theorem dX3_contains_5 : decode cX3_contains 5 = .ok (.ifCond .eq 7, 3) := by decide +kernel
theorem dX3_contains_8 : decode cX3_contains 8 = .ok (.iconst 1, 1) := by decide +kernel
theorem dX3_contains_9 : decode cX3_contains 9 = .ok (.goto 4, 3) := by decide +kernel
theorem dX3_contains_12 : decode cX3_contains 12 = .ok (.iconst 0, 1) := by decide +kernel
theorem dX3_contains_13 : decode cX3_contains 13 = .ok (.ireturn, 1) := by decide +kernel
theorem dX3_without_0 : decode cX3_without 0 = .ok (.iload_n 0, 1) := by decide +kernel
theorem dX3_without_1 : decode cX3_without 1 = .ok (.iconst 1, 1) := by decide +kernel
theorem dX3_without_2 : decode cX3_without 2 = .ok (.iload_n 1, 1) := by decide +kernel
theorem dX3_without_3 : decode cX3_without 3 = .ok (.ishl, 1) := by decide +kernel
theorem dX3_without_4 : decode cX3_without 4 = .ok (.iconst (-1), 1) := by decide +kernel
theorem dX3_without_5 : decode cX3_without 5 = .ok (.ixor, 1) := by decide +kernel
theorem dX3_without_6 : decode cX3_without 6 = .ok (.iand, 1) := by decide +kernel
theorem dX3_without_7 : decode cX3_without 7 = .ok (.ireturn, 1) := by decide +kernel
