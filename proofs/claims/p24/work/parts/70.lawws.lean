def wsL_law0_r1 : List Cond := [Cond.classLink RL 10 RX3, Cond.instantiable RX3 5, Cond.initialized RX3, Cond.arrayClass .int, Cond.methodLink RL 115 yX3_init, Cond.instanceMethod yX3_init, Cond.code yX3_init cX3_init 1 none, Cond.methodLink RX3 1 objectInit, Cond.instanceMethod objectInit, Cond.code objectInit ⟨#[0xb1]⟩ 1 none, Cond.classLink RX3 7 RX1, Cond.instantiable RX1 4, Cond.initialized RX1, Cond.fieldLink RX3 10 "Quarrelboard" "book" "LQuarrelboard$FactBook;", Cond.classLink RX3 16 RX0, Cond.instantiable RX0 7, Cond.initialized RX0, Cond.fieldLink RX3 19 "Quarrelboard" "debate" "LQuarrelboard$Debate;", Cond.classLink RX3 23 RX2, Cond.instantiable RX2 6, Cond.initialized RX2, Cond.fieldLink RX3 28 "Quarrelboard" "judge" "LQuarrelboard$Judge;", Cond.fieldLink RX3 32 "Quarrelboard" "reputations" "[I", Cond.fieldLink RX3 36 "Quarrelboard" "closedDebates" "I"]
def wsL_law0_r2 : List Cond := [Cond.methodLink RX3 9 yX1_init, Cond.instanceMethod yX1_init, Cond.code yX1_init cX1_init 1 none, Cond.methodLink RX1 3 objectInit, Cond.fieldLink RX1 9 "Quarrelboard$FactBook" "sources" "[I", Cond.fieldLink RX1 15 "Quarrelboard$FactBook" "count" "I", Cond.fieldLink RX1 19 "Quarrelboard$FactBook" "withdrawn" "I", Cond.fieldLink RX1 22 "Quarrelboard$FactBook" "fallenSources" "I", Cond.methodLink RX3 18 yX0_init, Cond.instanceMethod yX0_init, Cond.code yX0_init cX0_init 1 none, Cond.methodLink RX0 3 objectInit, Cond.fieldLink RX0 9 "Quarrelboard$Debate" "owners" "[I", Cond.fieldLink RX0 15 "Quarrelboard$Debate" "groundFacts" "[I", Cond.fieldLink RX0 18 "Quarrelboard$Debate" "groundClaims" "[I", Cond.fieldLink RX0 21 "Quarrelboard$Debate" "attackers" "[I", Cond.fieldLink RX0 24 "Quarrelboard$Debate" "banks" "[I", Cond.fieldLink RX0 33 "Quarrelboard$Debate" "count" "I", Cond.fieldLink RX0 37 "Quarrelboard$Debate" "speaker" "I", Cond.methodLink RX0 27 yJ7_fill_53178, Cond.static yJ7_fill_53178, Cond.initialized RJ7, Cond.code yJ7_fill_53178 cJ7_fill_53178 4 none, Cond.methodLink RX3 25 yX2_init]
def wsL_law0_r3 : List Cond := [Cond.instanceMethod yX2_init, Cond.code yX2_init cX2_init 2 none, Cond.methodLink RX2 3 objectInit, Cond.fieldLink RX2 9 "Quarrelboard$Judge" "debate" "LQuarrelboard$Debate;", Cond.fieldLink RX2 15 "Quarrelboard$Judge" "queue" "[I", Cond.fieldLink RX2 19 "Quarrelboard$Judge" "queued" "I", Cond.fieldLink RX2 23 "Quarrelboard$Judge" "standingFacts" "I", Cond.fieldLink RX2 26 "Quarrelboard$Judge" "claimsIn" "I", Cond.fieldLink RX2 29 "Quarrelboard$Judge" "claimsOut" "I", Cond.methodLink RL 116 yL_isRefused, Cond.static yL_isRefused, Cond.initialized RL, Cond.code yL_isRefused cL_isRefused 12 (some .boolean), Cond.methodLink RL 66 yX3_facts, Cond.instanceMethod yX3_facts, Cond.selects RX3 yX3_facts yX3_facts, Cond.code yX3_facts cX3_facts 1 (some .int), Cond.methodLink RX3 73 yX1_size, Cond.instanceMethod yX1_size, Cond.selects RX1 yX1_size yX1_size, Cond.code yX1_size cX1_size 1 (some .int), Cond.methodLink RL 72 yX3_claims, Cond.instanceMethod yX3_claims, Cond.selects RX3 yX3_claims yX3_claims]
def wsL_law0_r4 : List Cond := [Cond.code yX3_claims cX3_claims 1 (some .int), Cond.methodLink RX3 107 yX0_size, Cond.instanceMethod yX0_size, Cond.selects RX0 yX0_size yX0_size, Cond.code yX0_size cX0_size 1 (some .int), Cond.methodLink RL 77 yX3_turn, Cond.instanceMethod yX3_turn, Cond.selects RX3 yX3_turn yX3_turn, Cond.code yX3_turn cX3_turn 1 (some .int), Cond.methodLink RX3 94 yX0_speaker, Cond.instanceMethod yX0_speaker, Cond.selects RX0 yX0_speaker yX0_speaker, Cond.code yX0_speaker cX0_speaker 1 (some .int), Cond.methodLink RL 45 yX3_bank, Cond.instanceMethod yX3_bank, Cond.selects RX3 yX3_bank yX3_bank, Cond.code yX3_bank cX3_bank 2 (some .int), Cond.methodLink RX3 114 yX3_checkPlayer, Cond.instanceMethod yX3_checkPlayer, Cond.selects RX3 yX3_checkPlayer yX3_checkPlayer, Cond.code yX3_checkPlayer cX3_checkPlayer 2 none, Cond.classLink RX3 147 "java/lang/IndexOutOfBoundsException", Cond.initialized "java/lang/IndexOutOfBoundsException", Cond.methodLink RX3 117 yX0_secondsLeft]
def wsL_law0_r5 : List Cond := [Cond.instanceMethod yX0_secondsLeft, Cond.selects RX0 yX0_secondsLeft yX0_secondsLeft, Cond.code yX0_secondsLeft cX0_secondsLeft 2 (some .int), Cond.methodLink RL 101 yL_all, Cond.static yL_all, Cond.code yL_all cL_all 4 (some .long), Cond.constantLong RL 70 (31), Cond.constantLong RL 75 (7), Cond.constantLong RL 80 (1009), Cond.constantLong RL 85 (1000003), Cond.constantLong RL 87 (257), Cond.constantLong RL 89 (65537), Cond.methodLink RL 82 yX3_verdict, Cond.instanceMethod yX3_verdict, Cond.selects RX3 yX3_verdict yX3_verdict, Cond.code yX3_verdict cX3_verdict 5 (some .int), Cond.methodLink RX3 65 yX1_standing, Cond.instanceMethod yX1_standing, Cond.selects RX1 yX1_standing yX1_standing, Cond.code yX1_standing cX1_standing 3 (some .int), Cond.static yX3_contains, Cond.code yX3_contains cX3_contains 2 (some .boolean), Cond.methodLink RX3 120 yX2_decideByGoingOn, Cond.instanceMethod yX2_decideByGoingOn]
def wsL_law0_r6 : List Cond := [Cond.selects RX2 yX2_decideByGoingOn yX2_decideByGoingOn, Cond.code yX2_decideByGoingOn cX2_decideByGoingOn 3 none, Cond.methodLink RX2 36 yX2_openAll, Cond.instanceMethod yX2_openAll, Cond.selects RX2 yX2_openAll yX2_openAll, Cond.code yX2_openAll cX2_openAll 2 none, Cond.methodLink RX2 40 yX0_size, Cond.methodLink RX2 46 yX2_decideAndQueue, Cond.instanceMethod yX2_decideAndQueue, Cond.selects RX2 yX2_decideAndQueue yX2_decideAndQueue, Cond.code yX2_decideAndQueue cX2_decideAndQueue 2 none, Cond.methodLink RX2 52 yX2_decide, Cond.instanceMethod yX2_decide, Cond.selects RX2 yX2_decide yX2_decide, Cond.code yX2_decide cX2_decide 2 (some .boolean), Cond.methodLink RX2 59 yX0_fails, Cond.instanceMethod yX0_fails, Cond.selects RX0 yX0_fails yX0_fails, Cond.code yX0_fails cX0_fails 5 (some .boolean), Cond.methodLink RX2 63 yX0_holds, Cond.instanceMethod yX0_holds, Cond.selects RX0 yX0_holds yX0_holds, Cond.code yX0_holds cX0_holds 5 (some .boolean), Cond.methodLink RX2 49 yX2_goOnFrom]
def wsL_law0_r7 : List Cond := [Cond.instanceMethod yX2_goOnFrom, Cond.selects RX2 yX2_goOnFrom yX2_goOnFrom, Cond.code yX2_goOnFrom cX2_goOnFrom 3 none, Cond.methodLink RX2 56 yX0_matters, Cond.instanceMethod yX0_matters, Cond.selects RX0 yX0_matters yX0_matters, Cond.code yX0_matters cX0_matters 3 (some .boolean), Cond.methodLink RX3 135 yX2_claimsIn, Cond.instanceMethod yX2_claimsIn, Cond.selects RX2 yX2_claimsIn yX2_claimsIn, Cond.code yX2_claimsIn cX2_claimsIn 1 (some .int), Cond.methodLink RX3 138 yX0_countOf, Cond.instanceMethod yX0_countOf, Cond.selects RX0 yX0_countOf yX0_countOf, Cond.code yX0_countOf cX0_countOf 5 (some .int), Cond.methodLink RL 48 yX3_stateOf, Cond.instanceMethod yX3_stateOf, Cond.selects RX3 yX3_stateOf yX3_stateOf, Cond.code yX3_stateOf cX3_stateOf 2 (some .int), Cond.methodLink RX3 108 yX3_checkClaim, Cond.instanceMethod yX3_checkClaim, Cond.selects RX3 yX3_checkClaim yX3_checkClaim, Cond.code yX3_checkClaim cX3_checkClaim 2 none, Cond.methodLink RX3 123 yX2_decisionOn]
def wsL_law0_r8 : List Cond := [Cond.instanceMethod yX2_decisionOn, Cond.selects RX2 yX2_decisionOn yX2_decisionOn, Cond.code yX2_decisionOn cX2_decisionOn 2 (some .int), Cond.methodLink RL 54 yX3_score, Cond.instanceMethod yX3_score, Cond.selects RX3 yX3_score yX3_score, Cond.code yX3_score cX3_score 2 (some .int), Cond.methodLink RX3 129 yX3_scoreIf, Cond.instanceMethod yX3_scoreIf, Cond.selects RX3 yX3_scoreIf yX3_scoreIf, Cond.code yX3_scoreIf cX3_scoreIf 3 (some .int), Cond.methodLink RL 63 yX3_reputation, Cond.instanceMethod yX3_reputation, Cond.selects RX3 yX3_reputation yX3_reputation, Cond.code yX3_reputation cX3_reputation 2 (some .int), Cond.methodLink RL 105 yL_act, Cond.static yL_act, Cond.codeWith yL_act cL_act 5 (some .int) [(0, 104, 105, 33), (0, 104, 111, 35), (0, 104, 117, 37)], Cond.classLink RL 33 "java/lang/IndexOutOfBoundsException", Cond.classLink RL 35 "java/lang/IllegalArgumentException", Cond.classLink RL 37 "java/lang/IllegalStateException", Cond.methodLink RL 9 yX3_addFact, Cond.instanceMethod yX3_addFact, Cond.selects RX3 yX3_addFact yX3_addFact]
def wsL_law0_r9 : List Cond := [Cond.code yX3_addFact cX3_addFact 3 (some .int), Cond.classLink RX3 48 "java/lang/IllegalStateException", Cond.initialized "java/lang/IllegalStateException", Cond.methodLink RX3 40 yX3_checkSource, Cond.instanceMethod yX3_checkSource, Cond.selects RX3 yX3_checkSource yX3_checkSource, Cond.code yX3_checkSource cX3_checkSource 2 none, Cond.methodLink RX3 44 yX1_add, Cond.instanceMethod yX1_add, Cond.selects RX1 yX1_add yX1_add, Cond.code yX1_add cX1_add 3 (some .int), Cond.methodLink RL 15 yX3_toggleSource, Cond.instanceMethod yX3_toggleSource, Cond.selects RX3 yX3_toggleSource yX3_toggleSource, Cond.code yX3_toggleSource cX3_toggleSource 2 (some .boolean), Cond.methodLink RX3 55 yX1_flipSource, Cond.instanceMethod yX1_flipSource, Cond.selects RX1 yX1_flipSource yX1_flipSource, Cond.code yX1_flipSource cX1_flipSource 2 (some .boolean), Cond.methodLink RL 19 yX3_withdraw, Cond.instanceMethod yX3_withdraw, Cond.selects RX3 yX3_withdraw yX3_withdraw, Cond.code yX3_withdraw cX3_withdraw 2 (some .boolean), Cond.methodLink RX3 59 yX3_checkFact]
def wsL_law0_r10 : List Cond := [Cond.instanceMethod yX3_checkFact, Cond.selects RX3 yX3_checkFact yX3_checkFact, Cond.code yX3_checkFact cX3_checkFact 2 none, Cond.methodLink RX3 62 yX1_takeBack, Cond.instanceMethod yX1_takeBack, Cond.selects RX1 yX1_takeBack yX1_takeBack, Cond.code yX1_takeBack cX1_takeBack 3 (some .boolean), Cond.methodLink RL 22 yX3_claim, Cond.instanceMethod yX3_claim, Cond.selects RX3 yX3_claim yX3_claim, Cond.code yX3_claim cX3_claim 4 (some .int), Cond.classLink RX3 79 "java/lang/IllegalArgumentException", Cond.initialized "java/lang/IllegalArgumentException", Cond.methodLink RX3 76 yX1_hasAll, Cond.instanceMethod yX1_hasAll, Cond.selects RX1 yX1_hasAll yX1_hasAll, Cond.code yX1_hasAll cX1_hasAll 2 (some .boolean), Cond.methodLink RX3 86 yX0_add, Cond.instanceMethod yX0_add, Cond.selects RX0 yX0_add yX0_add, Cond.code yX0_add cX0_add 4 (some .int), Cond.methodLink RX0 40 yX0_passTurn, Cond.instanceMethod yX0_passTurn, Cond.selects RX0 yX0_passTurn yX0_passTurn]
def wsL_law0_r11 : List Cond := [Cond.code yX0_passTurn cX0_passTurn 1 none, Cond.methodLink RL 26 yX3_rest, Cond.instanceMethod yX3_rest, Cond.selects RX3 yX3_rest yX3_rest, Cond.code yX3_rest cX3_rest 3 (some .boolean), Cond.methodLink RX3 97 yX3_checkTwoClaims, Cond.instanceMethod yX3_checkTwoClaims, Cond.selects RX3 yX3_checkTwoClaims yX3_checkTwoClaims, Cond.code yX3_checkTwoClaims cX3_checkTwoClaims 3 none, Cond.methodLink RX3 101 yX0_flipRest, Cond.instanceMethod yX0_flipRest, Cond.selects RX0 yX0_flipRest yX0_flipRest, Cond.code yX0_flipRest cX0_flipRest 3 (some .boolean), Cond.methodLink RL 30 yX3_attack, Cond.instanceMethod yX3_attack, Cond.selects RX3 yX3_attack yX3_attack, Cond.code yX3_attack cX3_attack 3 (some .boolean), Cond.methodLink RX3 104 yX0_flipAttack, Cond.instanceMethod yX0_flipAttack, Cond.selects RX0 yX0_flipAttack yX0_flipAttack, Cond.code yX0_flipAttack cX0_flipAttack 3 (some .boolean), Cond.methodLink RL 109 yL_of, Cond.static yL_of, Cond.codeWith yL_of cL_of 5 (some .int) [(0, 119, 120, 33)]]
def wsL_law0_r12 : List Cond := [Cond.methodLink RL 39 yX3_factStands, Cond.instanceMethod yX3_factStands, Cond.selects RX3 yX3_factStands yX3_factStands, Cond.code yX3_factStands cX3_factStands 2 (some .boolean), Cond.methodLink RX3 69 yX3_contains, Cond.methodLink RL 42 yX3_playerOf, Cond.instanceMethod yX3_playerOf, Cond.selects RX3 yX3_playerOf yX3_playerOf, Cond.code yX3_playerOf cX3_playerOf 2 (some .int), Cond.methodLink RX3 111 yX0_ownerOf, Cond.instanceMethod yX0_ownerOf, Cond.selects RX0 yX0_ownerOf yX0_ownerOf, Cond.code yX0_ownerOf cX0_ownerOf 2 (some .int), Cond.methodLink RL 51 yX3_stateByRounds, Cond.instanceMethod yX3_stateByRounds, Cond.selects RX3 yX3_stateByRounds yX3_stateByRounds, Cond.code yX3_stateByRounds cX3_stateByRounds 2 (some .int), Cond.methodLink RX3 126 yX2_decideInRounds, Cond.instanceMethod yX2_decideInRounds, Cond.selects RX2 yX2_decideInRounds yX2_decideInRounds, Cond.code yX2_decideInRounds cX2_decideInRounds 5 none, Cond.methodLink RL 57 yX3_scoreWithout, Cond.instanceMethod yX3_scoreWithout, Cond.selects RX3 yX3_scoreWithout yX3_scoreWithout]
def wsL_law0_r13 : List Cond := [Cond.code yX3_scoreWithout cX3_scoreWithout 3 (some .int), Cond.methodLink RX3 132 yX3_without, Cond.static yX3_without, Cond.code yX3_without cX3_without 2 (some .int), Cond.methodLink RL 60 yX3_keyFact, Cond.instanceMethod yX3_keyFact, Cond.selects RX3 yX3_keyFact yX3_keyFact, Cond.code yX3_keyFact cX3_keyFact 7 (some .int), Cond.methodLink RL 120 yL_areScores, Cond.static yL_areScores, Cond.code yL_areScores cL_areScores 9 (some .boolean), Cond.methodLink RL 97 yL_having, Cond.static yL_having, Cond.code yL_having cL_having 4 (some .int), Cond.methodLink RL 124 yL_areKeys, Cond.static yL_areKeys, Cond.code yL_areKeys cL_areKeys 7 (some .boolean), Cond.methodLink RL 91 yL_standing, Cond.static yL_standing, Cond.code yL_standing cL_standing 3 (some .int), Cond.methodLink RL 127 yL_dice, Cond.static yL_dice, Cond.code yL_dice cL_dice 2 (some .int), Cond.constant RL 7 (2135587861)]
def wsL_law0_r14 : List Cond := [Cond.constant RL 8 (2147483647), Cond.methodLink RL 131 yL_isClaimed, Cond.static yL_isClaimed, Cond.code yL_isClaimed cL_isClaimed 9 (some .boolean), Cond.methodLink RL 135 yX3_skip, Cond.instanceMethod yX3_skip, Cond.selects RX3 yX3_skip yX3_skip, Cond.code yX3_skip cX3_skip 1 (some .int), Cond.methodLink RX3 91 yX0_passTurn, Cond.methodLink RL 138 yL_isClosed, Cond.static yL_isClosed, Cond.code yL_isClosed cL_isClosed 8 (some .boolean), Cond.methodLink RL 112 yX3_close, Cond.instanceMethod yX3_close, Cond.selects RX3 yX3_close yX3_close, Cond.code yX3_close cX3_close 4 (some .int), Cond.methodLink RX3 141 yX0_illFounded, Cond.instanceMethod yX0_illFounded, Cond.selects RX0 yX0_illFounded yX0_illFounded, Cond.code yX0_illFounded cX0_illFounded 4 (some .int), Cond.methodLink RX3 144 yX0_beginAgain, Cond.instanceMethod yX0_beginAgain, Cond.selects RX0 yX0_beginAgain yX0_beginAgain, Cond.code yX0_beginAgain cX0_beginAgain 1 none]
def wsL_law0_r15 : List Cond := [Cond.methodLink RL 142 yL_areFacts, Cond.static yL_areFacts, Cond.code yL_areFacts cL_areFacts 5 (some .boolean), Cond.methodLink RL 146 yL_areStates, Cond.static yL_areStates, Cond.code yL_areStates cL_areStates 11 (some .boolean), Cond.methodLink RL 150 yL_isFallen, Cond.static yL_isFallen, Cond.code yL_isFallen cL_isFallen 9 (some .boolean)]
def wsL_law0 : List Cond := (wsL_law0_r1 ++ (wsL_law0_r2 ++ (wsL_law0_r3 ++ (wsL_law0_r4 ++ (wsL_law0_r5 ++ (wsL_law0_r6 ++ (wsL_law0_r7 ++ (wsL_law0_r8 ++ (wsL_law0_r9 ++ (wsL_law0_r10 ++ (wsL_law0_r11 ++ (wsL_law0_r12 ++ (wsL_law0_r13 ++ (wsL_law0_r14 ++ wsL_law0_r15)))))))))))))) ++ wsX30 ++ wsX10 ++ wsX00 ++ wsX20 ++ ([] : List Cond)
def wsL_law : List Cond := wsL_law0 ++ (vx_atS RX3 151 "java/lang/IndexOutOfBoundsException" ["java/lang/RuntimeException", "java/lang/Exception"]).filter goodWord ++ (vx_atS RX3 52 "java/lang/IllegalStateException" ["java/lang/RuntimeException", "java/lang/Exception"]).filter goodWord ++ (vx_atS RX3 83 "java/lang/IllegalArgumentException" ["java/lang/RuntimeException", "java/lang/Exception"]).filter goodWord
set_option maxRecDepth 20000 in
theorem lw_pl {ws : List Cond} (ps : List Nat) (h : ws = ps.filterMap (fun i => lw_tbl[i]?)) : ∀ w ∈ ws, w ∈ lw_tbl := fun w hw => by
  rw [h] at hw
  obtain ⟨i, -, hi⟩ := List.mem_filterMap.mp hw
  exact List.mem_of_getElem? hi
set_option maxRecDepth 100000 in
theorem wsL_law0_r1_i : ∀ w ∈ wsL_law0_r1, w ∈ lw_tbl := lw_pl [23, 24, 12, 50, 25, 26, 27, 28, 29, 30, 31, 32, 13, 107, 51, 52, 14, 108, 82, 83, 16, 109, 110, 111] (by decide +kernel)
set_option maxRecDepth 100000 in
theorem wsL_law0_r2_i : ∀ w ∈ wsL_law0_r2, w ∈ lw_tbl := lw_pl [33, 34, 35, 36, 37, 38, 39, 40, 53, 54, 55, 56, 60, 61, 62, 63, 64, 65, 66, 57, 58, 15, 59, 84] (by decide +kernel)
set_option maxRecDepth 100000 in
theorem wsL_law0_r3_i : ∀ w ∈ wsL_law0_r3, w ∈ lw_tbl := lw_pl [85, 86, 87, 88, 89, 90, 91, 92, 93, 488, 489, 11, 490, 123, 124, 125, 126, 127, 128, 129, 130, 143, 144, 145] (by decide +kernel)
set_option maxRecDepth 100000 in
theorem wsL_law0_r4_i : ∀ w ∈ wsL_law0_r4, w ∈ lw_tbl := lw_pl [146, 147, 148, 149, 150, 151, 152, 153, 154, 139, 140, 141, 142, 474, 475, 476, 477, 429, 431, 9, 432, 174, 20, 478] (by decide +kernel)
set_option maxRecDepth 100000 in
theorem wsL_law0_r5_i : ∀ w ∈ wsL_law0_r5, w ∈ lw_tbl := lw_pl [479, 480, 481, 467, 468, 469, 470, 471, 472, 473, 482, 483, 446, 447, 448, 449, 350, 351, 352, 353, 271, 272, 368, 369] (by decide +kernel)
set_option maxRecDepth 100000 in
theorem wsL_law0_r6_i : ∀ w ∈ wsL_law0_r6, w ∈ lw_tbl := lw_pl [370, 371, 372, 374, 5, 375, 376, 377, 379, 6, 380, 381, 383, 7, 384, 386, 387, 388, 389, 390, 391, 392, 393, 394] (by decide +kernel)
set_option maxRecDepth 100000 in
theorem wsL_law0_r7_i : ∀ w ∈ wsL_law0_r7, w ∈ lw_tbl := lw_pl [396, 8, 397, 398, 399, 400, 401, 438, 439, 440, 441, 442, 443, 444, 445, 364, 365, 366, 367, 324, 326, 4, 327, 402] (by decide +kernel)
set_option maxRecDepth 100000 in
theorem wsL_law0_r8_i : ∀ w ∈ wsL_law0_r8, w ∈ lw_tbl := lw_pl [403, 404, 405, 425, 426, 427, 428, 434, 436, 10, 437, 484, 485, 486, 487, 160, 161, 162, 163, 164, 165, 166, 167, 168] (by decide +kernel)
set_option maxRecDepth 100000 in
theorem wsL_law0_r9_i : ∀ w ∈ wsL_law0_r9, w ∈ lw_tbl := lw_pl [169, 246, 21, 170, 172, 0, 173, 242, 243, 244, 245, 262, 263, 264, 265, 266, 267, 268, 269, 273, 274, 275, 276, 277] (by decide +kernel)
set_option maxRecDepth 100000 in
theorem wsL_law0_r10_i : ∀ w ∈ wsL_law0_r10, w ∈ lw_tbl := lw_pl [279, 2, 280, 282, 283, 284, 285, 286, 287, 288, 289, 294, 22, 290, 291, 292, 293, 310, 311, 312, 313, 314, 136, 137] (by decide +kernel)
set_option maxRecDepth 100000 in
theorem wsL_law0_r11_i : ∀ w ∈ wsL_law0_r11, w ∈ lw_tbl := lw_pl [138, 316, 317, 318, 319, 320, 322, 3, 323, 330, 331, 332, 333, 335, 336, 337, 338, 339, 340, 341, 342, 491, 492, 493] (by decide +kernel)
set_option maxRecDepth 100000 in
theorem wsL_law0_r12_i : ∀ w ∈ wsL_law0_r12, w ∈ lw_tbl := lw_pl [346, 347, 348, 349, 354, 417, 418, 419, 420, 421, 422, 423, 424, 406, 407, 408, 409, 410, 411, 412, 413, 460, 461, 462] (by decide +kernel)
set_option maxRecDepth 100000 in
theorem wsL_law0_r13_i : ∀ w ∈ wsL_law0_r13, w ∈ lw_tbl := lw_pl [463, 457, 458, 459, 453, 454, 455, 456, 414, 415, 416, 361, 362, 363, 450, 451, 452, 358, 359, 360, 155, 156, 157, 158] (by decide +kernel)
set_option maxRecDepth 100000 in
theorem wsL_law0_r14_i : ∀ w ∈ wsL_law0_r14, w ∈ lw_tbl := lw_pl [159, 494, 495, 496, 131, 132, 133, 134, 135, 497, 498, 499, 500, 501, 502, 503, 504, 505, 506, 507, 508, 509, 510, 511] (by decide +kernel)
set_option maxRecDepth 100000 in
theorem wsL_law0_r15_i : ∀ w ∈ wsL_law0_r15, w ∈ lw_tbl := lw_pl [343, 344, 345, 355, 356, 357, 464, 465, 466] (by decide +kernel)
set_option maxRecDepth 100000 in
theorem wsX30_i : ∀ w ∈ wsX30, w ∈ lw_tbl := lw_pl [112, 114, 116, 118, 120] (by decide +kernel)
set_option maxRecDepth 100000 in
theorem wsX10_i : ∀ w ∈ wsX10, w ∈ lw_tbl := lw_pl [41, 43, 45, 47] (by decide +kernel)
set_option maxRecDepth 100000 in
theorem wsX00_i : ∀ w ∈ wsX00, w ∈ lw_tbl := lw_pl [67, 69, 71, 73, 75, 77, 79] (by decide +kernel)
set_option maxRecDepth 100000 in
theorem wsX20_i : ∀ w ∈ wsX20, w ∈ lw_tbl := lw_pl [94, 96, 98, 100, 102, 104] (by decide +kernel)
theorem wsL_law_in0 : ∀ w ∈ wsL_law0, w ∈ lw_tbl := fun w h => by
  unfold wsL_law0 at h
  rcases List.mem_append.mp h with h | h
  rotate_left
  · cases h
  rcases List.mem_append.mp h with h | h
  rotate_left
  · exact wsX20_i w h
  rcases List.mem_append.mp h with h | h
  rotate_left
  · exact wsX00_i w h
  rcases List.mem_append.mp h with h | h
  rotate_left
  · exact wsX10_i w h
  rcases List.mem_append.mp h with h | h
  rotate_left
  · exact wsX30_i w h
  rcases List.mem_append.mp h with h | h
  · exact wsL_law0_r1_i w h
  rcases List.mem_append.mp h with h | h
  · exact wsL_law0_r2_i w h
  rcases List.mem_append.mp h with h | h
  · exact wsL_law0_r3_i w h
  rcases List.mem_append.mp h with h | h
  · exact wsL_law0_r4_i w h
  rcases List.mem_append.mp h with h | h
  · exact wsL_law0_r5_i w h
  rcases List.mem_append.mp h with h | h
  · exact wsL_law0_r6_i w h
  rcases List.mem_append.mp h with h | h
  · exact wsL_law0_r7_i w h
  rcases List.mem_append.mp h with h | h
  · exact wsL_law0_r8_i w h
  rcases List.mem_append.mp h with h | h
  · exact wsL_law0_r9_i w h
  rcases List.mem_append.mp h with h | h
  · exact wsL_law0_r10_i w h
  rcases List.mem_append.mp h with h | h
  · exact wsL_law0_r11_i w h
  rcases List.mem_append.mp h with h | h
  · exact wsL_law0_r12_i w h
  rcases List.mem_append.mp h with h | h
  · exact wsL_law0_r13_i w h
  rcases List.mem_append.mp h with h | h
  · exact wsL_law0_r14_i w h
  exact wsL_law0_r15_i w h
theorem wsL_law_x0 : ∀ w ∈ (vx_atS RX3 151 "java/lang/IndexOutOfBoundsException" ["java/lang/RuntimeException", "java/lang/Exception"]).filter goodWord, w ∈ lw_tbl := by decide +kernel
theorem wsL_law_x1 : ∀ w ∈ (vx_atS RX3 52 "java/lang/IllegalStateException" ["java/lang/RuntimeException", "java/lang/Exception"]).filter goodWord, w ∈ lw_tbl := by decide +kernel
theorem wsL_law_x2 : ∀ w ∈ (vx_atS RX3 83 "java/lang/IllegalArgumentException" ["java/lang/RuntimeException", "java/lang/Exception"]).filter goodWord, w ∈ lw_tbl := by decide +kernel
theorem wsL_law_in : ∀ w ∈ wsL_law, w ∈ lw_tbl := fun w h => (List.mem_append.mp h).elim (fun h => (List.mem_append.mp h).elim (fun h => (List.mem_append.mp h).elim (fun h => wsL_law_in0 w h) (fun h => wsL_law_x0 w h)) (fun h => wsL_law_x1 w h)) (fun h => wsL_law_x2 w h)
theorem inlX0 : ∀ w ∈ wsX00, w ∈ wsL_law := fun _ h => List.mem_append_left _ (List.mem_append_left _ (List.mem_append_left _ (List.mem_append_left _ (List.mem_append_left _ (List.mem_append_right _ h)))))
theorem inX0 : ∀ w ∈ wsX00, w ∈ lw_tbl := fun w h => wsL_law_in w (inlX0 w h)
theorem inlX1 : ∀ w ∈ wsX10, w ∈ wsL_law := fun _ h => List.mem_append_left _ (List.mem_append_left _ (List.mem_append_left _ (List.mem_append_left _ (List.mem_append_left _ (List.mem_append_left _ (List.mem_append_right _ h))))))
theorem inX1 : ∀ w ∈ wsX10, w ∈ lw_tbl := fun w h => wsL_law_in w (inlX1 w h)
theorem inlX2 : ∀ w ∈ wsX20, w ∈ wsL_law := fun _ h => List.mem_append_left _ (List.mem_append_left _ (List.mem_append_left _ (List.mem_append_left _ (List.mem_append_right _ h))))
theorem inX2 : ∀ w ∈ wsX20, w ∈ lw_tbl := fun w h => wsL_law_in w (inlX2 w h)
theorem inlX3 : ∀ w ∈ wsX30, w ∈ wsL_law := fun _ h => List.mem_append_left _ (List.mem_append_left _ (List.mem_append_left _ (List.mem_append_left _ (List.mem_append_left _ (List.mem_append_left _ (List.mem_append_left _ (List.mem_append_right _ h)))))))
theorem inX3 : ∀ w ∈ wsX30, w ∈ lw_tbl := fun w h => wsL_law_in w (inlX3 w h)
theorem inX4 : ∀ w ∈ wsX40, w ∈ lw_tbl := by decide +kernel
theorem inJx145de : ∀ w ∈ wsJx145de0, w ∈ lw_tbl := by decide +kernel
theorem inJ0 : ∀ w ∈ wsJ00, w ∈ lw_tbl := by decide +kernel
theorem inJ7 : ∀ w ∈ wsJ70, w ∈ lw_tbl := by decide +kernel
