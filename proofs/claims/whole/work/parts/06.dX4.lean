theorem dX4_init_0 : decode cX4_init 0 = .ok (.aload_n 0, 1) := by decide +kernel
theorem dX4_init_1 : decode cX4_init 1 = .ok (.invokespecial 1, 3) := by decide +kernel
theorem dX4_init_4 : decode cX4_init 4 = .ok (.aload_n 0, 1) := by decide +kernel
theorem dX4_init_5 : decode cX4_init 5 = .ok (.bipush 6, 2) := by decide +kernel
theorem dX4_init_7 : decode cX4_init 7 = .ok (.newarray .boolean, 2) := by decide +kernel
theorem dX4_init_9 : decode cX4_init 9 = .ok (.putfield 7, 3) := by decide +kernel
theorem dX4_init_12 : decode cX4_init 12 = .ok (.aload_n 0, 1) := by decide +kernel
theorem dX4_init_13 : decode cX4_init 13 = .ok (.bipush 14, 2) := by decide +kernel
theorem dX4_init_15 : decode cX4_init 15 = .ok (.newarray .int, 2) := by decide +kernel
theorem dX4_init_17 : decode cX4_init 17 = .ok (.putfield 13, 3) := by decide +kernel
theorem dX4_init_20 : decode cX4_init 20 = .ok (.aload_n 0, 1) := by decide +kernel
theorem dX4_init_21 : decode cX4_init 21 = .ok (.bipush 14, 2) := by decide +kernel
theorem dX4_init_23 : decode cX4_init 23 = .ok (.newarray .boolean, 2) := by decide +kernel
theorem dX4_init_25 : decode cX4_init 25 = .ok (.putfield 17, 3) := by decide +kernel
theorem dX4_init_28 : decode cX4_init 28 = .ok (.aload_n 0, 1) := by decide +kernel
theorem dX4_init_29 : decode cX4_init 29 = .ok (.iconst 3, 1) := by decide +kernel
theorem dX4_init_30 : decode cX4_init 30 = .ok (.newarray .int, 2) := by decide +kernel
theorem dX4_init_32 : decode cX4_init 32 = .ok (.putfield 20, 3) := by decide +kernel
theorem dX4_init_35 : decode cX4_init 35 = .ok (.aload_n 0, 1) := by decide +kernel
theorem dX4_init_36 : decode cX4_init 36 = .ok (.bipush 16, 2) := by decide +kernel
theorem dX4_init_38 : decode cX4_init 38 = .ok (.newarray .int, 2) := by decide +kernel
theorem dX4_init_40 : decode cX4_init 40 = .ok (.putfield 23, 3) := by decide +kernel
theorem dX4_init_43 : decode cX4_init 43 = .ok (.aload_n 0, 1) := by decide +kernel
theorem dX4_init_44 : decode cX4_init 44 = .ok (.bipush 16, 2) := by decide +kernel
theorem dX4_init_46 : decode cX4_init 46 = .ok (.newarray .int, 2) := by decide +kernel
theorem dX4_init_48 : decode cX4_init 48 = .ok (.putfield 26, 3) := by decide +kernel
theorem dX4_init_51 : decode cX4_init 51 = .ok (.aload_n 0, 1) := by decide +kernel
theorem dX4_init_52 : decode cX4_init 52 = .ok (.bipush 16, 2) := by decide +kernel
theorem dX4_init_54 : decode cX4_init 54 = .ok (.newarray .int, 2) := by decide +kernel
theorem dX4_init_56 : decode cX4_init 56 = .ok (.putfield 29, 3) := by decide +kernel
theorem dX4_init_59 : decode cX4_init 59 = .ok (.aload_n 0, 1) := by decide +kernel
theorem dX4_init_60 : decode cX4_init 60 = .ok (.bipush 16, 2) := by decide +kernel
theorem dX4_init_62 : decode cX4_init 62 = .ok (.newarray .int, 2) := by decide +kernel
theorem dX4_init_64 : decode cX4_init 64 = .ok (.putfield 32, 3) := by decide +kernel
theorem dX4_init_67 : decode cX4_init 67 = .ok (.aload_n 0, 1) := by decide +kernel
theorem dX4_init_68 : decode cX4_init 68 = .ok (.bipush 16, 2) := by decide +kernel
theorem dX4_init_70 : decode cX4_init 70 = .ok (.newarray .int, 2) := by decide +kernel
theorem dX4_init_72 : decode cX4_init 72 = .ok (.putfield 35, 3) := by decide +kernel
theorem dX4_init_75 : decode cX4_init 75 = .ok (.aload_n 0, 1) := by decide +kernel
theorem dX4_init_76 : decode cX4_init 76 = .ok (.iconst 3, 1) := by decide +kernel
theorem dX4_init_77 : decode cX4_init 77 = .ok (.newarray .int, 2) := by decide +kernel
theorem dX4_init_79 : decode cX4_init 79 = .ok (.putfield 38, 3) := by decide +kernel
theorem dX4_init_82 : decode cX4_init 82 = .ok (.aload_n 0, 1) := by decide +kernel
theorem dX4_init_83 : decode cX4_init 83 = .ok (.getfield 20, 3) := by decide +kernel
theorem dX4_init_86 : decode cX4_init 86 = .ok (.iconst 0, 1) := by decide +kernel
theorem dX4_init_87 : decode cX4_init 87 = .ok (.sipush 300, 3) := by decide +kernel
theorem dX4_init_90 : decode cX4_init 90 = .ok (.iastore, 1) := by decide +kernel
theorem dX4_init_91 : decode cX4_init 91 = .ok (.aload_n 0, 1) := by decide +kernel
theorem dX4_init_92 : decode cX4_init 92 = .ok (.getfield 20, 3) := by decide +kernel
theorem dX4_init_95 : decode cX4_init 95 = .ok (.iconst 1, 1) := by decide +kernel
theorem dX4_init_96 : decode cX4_init 96 = .ok (.sipush 300, 3) := by decide +kernel
theorem dX4_init_99 : decode cX4_init 99 = .ok (.iastore, 1) := by decide +kernel
theorem dX4_init_100 : decode cX4_init 100 = .ok (.aload_n 0, 1) := by decide +kernel
theorem dX4_init_101 : decode cX4_init 101 = .ok (.getfield 20, 3) := by decide +kernel
theorem dX4_init_104 : decode cX4_init 104 = .ok (.iconst 2, 1) := by decide +kernel
theorem dX4_init_105 : decode cX4_init 105 = .ok (.sipush 300, 3) := by decide +kernel
theorem dX4_init_108 : decode cX4_init 108 = .ok (.iastore, 1) := by decide +kernel
theorem dX4_init_109 : decode cX4_init 109 = .ok (.return_, 1) := by decide +kernel
theorem dX4_thrown_0 : decode cX4_thrown 0 = .ok (.aload_n 0, 1) := by decide +kernel
theorem dX4_thrown_1 : decode cX4_thrown 1 = .ok (.getfield 41, 3) := by decide +kernel
theorem dX4_thrown_4 : decode cX4_thrown 4 = .ok (.ireturn, 1) := by decide +kernel
theorem dX4_goes_0 : decode cX4_goes 0 = .ok (.aload_n 0, 1) := by decide +kernel
theorem dX4_goes_1 : decode cX4_goes 1 = .ok (.iload_n 1, 1) := by decide +kernel
theorem dX4_goes_2 : decode cX4_goes 2 = .ok (.putfield 41, 3) := by decide +kernel
theorem dX4_goes_5 : decode cX4_goes 5 = .ok (.iload_n 1, 1) := by decide +kernel
theorem dX4_goes_6 : decode cX4_goes 6 = .ok (.ifCond .ne 7, 3) := by decide +kernel
theorem dX4_goes_9 : decode cX4_goes 9 = .ok (.iconst 1, 1) := by decide +kernel
theorem dX4_goes_10 : decode cX4_goes 10 = .ok (.goto 4, 3) := by decide +kernel
theorem dX4_goes_13 : decode cX4_goes 13 = .ok (.iconst 0, 1) := by decide +kernel
theorem dX4_goes_14 : decode cX4_goes 14 = .ok (.ireturn, 1) := by decide +kernel
theorem dX4_isIn_0 : decode cX4_isIn 0 = .ok (.iload_n 0, 1) := by decide +kernel
theorem dX4_isIn_1 : decode cX4_isIn 1 = .ok (.iload_n 1, 1) := by decide +kernel
theorem dX4_isIn_2 : decode cX4_isIn 2 = .ok (.if_icmp .lt 12, 3) := by decide +kernel
theorem dX4_isIn_5 : decode cX4_isIn 5 = .ok (.iload_n 0, 1) := by decide +kernel
theorem dX4_isIn_6 : decode cX4_isIn 6 = .ok (.iload_n 2, 1) := by decide +kernel
theorem dX4_isIn_7 : decode cX4_isIn 7 = .ok (.if_icmp .gt 7, 3) := by decide +kernel
theorem dX4_isIn_10 : decode cX4_isIn 10 = .ok (.iconst 1, 1) := by decide +kernel
theorem dX4_isIn_11 : decode cX4_isIn 11 = .ok (.goto 4, 3) := by decide +kernel
theorem dX4_isIn_14 : decode cX4_isIn 14 = .ok (.iconst 0, 1) := by decide +kernel
theorem dX4_isIn_15 : decode cX4_isIn 15 = .ok (.ireturn, 1) := by decide +kernel
set_option maxRecDepth 20000 in
theorem ggX4_isSource_X4_isIn : GoodIn wsX4_isSource wsX4_isIn := goodIn_r _ [4] (by decide +kernel) (by decide +kernel)
set_option maxRecDepth 20000 in
theorem gX4_isSource_X4_isIn : GoodIn wsX4_isSource (va_wsS RX4 45 yX4_isIn wsX4_isIn) := goodIn_app (goodIn_of _ (by decide +kernel)) ggX4_isSource_X4_isIn
theorem dX4_isSource_0 : decode cX4_isSource 0 = .ok (.iload_n 0, 1) := by decide +kernel
theorem dX4_isSource_1 : decode cX4_isSource 1 = .ok (.iconst 0, 1) := by decide +kernel
theorem dX4_isSource_2 : decode cX4_isSource 2 = .ok (.iconst 5, 1) := by decide +kernel
theorem dX4_isSource_3 : decode cX4_isSource 3 = .ok (.invokestatic 45, 3) := by decide +kernel
theorem dX4_isSource_6 : decode cX4_isSource 6 = .ok (.ireturn, 1) := by decide +kernel
set_option maxRecDepth 20000 in
theorem ggX4_isFact_X4_isIn : GoodIn wsX4_isFact wsX4_isIn := goodIn_r _ [5] (by decide +kernel) (by decide +kernel)
set_option maxRecDepth 20000 in
theorem gX4_isFact_X4_isIn : GoodIn wsX4_isFact (va_wsS RX4 45 yX4_isIn wsX4_isIn) := goodIn_app (goodIn_of _ (by decide +kernel)) ggX4_isFact_X4_isIn
theorem dX4_isFact_0 : decode cX4_isFact 0 = .ok (.iload_n 1, 1) := by decide +kernel
theorem dX4_isFact_1 : decode cX4_isFact 1 = .ok (.iconst 0, 1) := by decide +kernel
theorem dX4_isFact_2 : decode cX4_isFact 2 = .ok (.aload_n 0, 1) := by decide +kernel
theorem dX4_isFact_3 : decode cX4_isFact 3 = .ok (.getfield 49, 3) := by decide +kernel
theorem dX4_isFact_6 : decode cX4_isFact 6 = .ok (.iconst 1, 1) := by decide +kernel
theorem dX4_isFact_7 : decode cX4_isFact 7 = .ok (.isub, 1) := by decide +kernel
theorem dX4_isFact_8 : decode cX4_isFact 8 = .ok (.invokestatic 45, 3) := by decide +kernel
theorem dX4_isFact_11 : decode cX4_isFact 11 = .ok (.ireturn, 1) := by decide +kernel
set_option maxRecDepth 20000 in
theorem ggX4_isPlayer_X4_isIn : GoodIn wsX4_isPlayer wsX4_isIn := goodIn_r _ [4] (by decide +kernel) (by decide +kernel)
set_option maxRecDepth 20000 in
theorem gX4_isPlayer_X4_isIn : GoodIn wsX4_isPlayer (va_wsS RX4 45 yX4_isIn wsX4_isIn) := goodIn_app (goodIn_of _ (by decide +kernel)) ggX4_isPlayer_X4_isIn
theorem dX4_isPlayer_0 : decode cX4_isPlayer 0 = .ok (.iload_n 0, 1) := by decide +kernel
theorem dX4_isPlayer_1 : decode cX4_isPlayer 1 = .ok (.iconst 0, 1) := by decide +kernel
theorem dX4_isPlayer_2 : decode cX4_isPlayer 2 = .ok (.iconst 2, 1) := by decide +kernel
theorem dX4_isPlayer_3 : decode cX4_isPlayer 3 = .ok (.invokestatic 45, 3) := by decide +kernel
theorem dX4_isPlayer_6 : decode cX4_isPlayer 6 = .ok (.ireturn, 1) := by decide +kernel
set_option maxRecDepth 20000 in
theorem ggX4_isClaim_X4_isIn : GoodIn wsX4_isClaim wsX4_isIn := goodIn_r _ [5] (by decide +kernel) (by decide +kernel)
set_option maxRecDepth 20000 in
theorem gX4_isClaim_X4_isIn : GoodIn wsX4_isClaim (va_wsS RX4 45 yX4_isIn wsX4_isIn) := goodIn_app (goodIn_of _ (by decide +kernel)) ggX4_isClaim_X4_isIn
theorem dX4_isClaim_0 : decode cX4_isClaim 0 = .ok (.iload_n 1, 1) := by decide +kernel
theorem dX4_isClaim_1 : decode cX4_isClaim 1 = .ok (.iconst 0, 1) := by decide +kernel
theorem dX4_isClaim_2 : decode cX4_isClaim 2 = .ok (.aload_n 0, 1) := by decide +kernel
theorem dX4_isClaim_3 : decode cX4_isClaim 3 = .ok (.getfield 52, 3) := by decide +kernel
theorem dX4_isClaim_6 : decode cX4_isClaim 6 = .ok (.iconst 1, 1) := by decide +kernel
theorem dX4_isClaim_7 : decode cX4_isClaim 7 = .ok (.isub, 1) := by decide +kernel
theorem dX4_isClaim_8 : decode cX4_isClaim 8 = .ok (.invokestatic 45, 3) := by decide +kernel
theorem dX4_isClaim_11 : decode cX4_isClaim 11 = .ok (.ireturn, 1) := by decide +kernel
set_option maxRecDepth 20000 in
theorem ggX4_addFact_X4_isSource : GoodIn wsX4_addFact wsX4_isSource := goodIn_r _ [6, 7, 8, 5, 9] (by decide +kernel) (by decide +kernel)
set_option maxRecDepth 20000 in
theorem gX4_addFact_X4_isSource : GoodIn wsX4_addFact (va_wsS RX4 55 yX4_isSource wsX4_isSource) := goodIn_app (goodIn_of _ (by decide +kernel)) ggX4_addFact_X4_isSource
set_option maxRecDepth 20000 in
theorem ggX4_addFact_X4_goes : GoodIn wsX4_addFact wsX4_goes := goodIn_r _ [13, 14, 15, 16, 17, 18, 19, 20, 21, 22, 23, 24, 25, 26, 27, 28, 29] (by decide +kernel) (by decide +kernel)
set_option maxRecDepth 20000 in
theorem gX4_addFact_X4_goes : GoodIn wsX4_addFact (wsV RX4 59 RX4 yX4_goes wsX4_goes) := goodIn_app (goodIn_of _ (by decide +kernel)) ggX4_addFact_X4_goes
theorem dX4_addFact_0 : decode cX4_addFact 0 = .ok (.aload_n 0, 1) := by decide +kernel
theorem dX4_addFact_1 : decode cX4_addFact 1 = .ok (.iload_n 1, 1) := by decide +kernel
theorem dX4_addFact_2 : decode cX4_addFact 2 = .ok (.invokestatic 55, 3) := by decide +kernel
theorem dX4_addFact_5 : decode cX4_addFact 5 = .ok (.ifCond .ne 7, 3) := by decide +kernel
theorem dX4_addFact_8 : decode cX4_addFact 8 = .ok (.iconst 1, 1) := by decide +kernel
theorem dX4_addFact_9 : decode cX4_addFact 9 = .ok (.goto 17, 3) := by decide +kernel
theorem dX4_addFact_12 : decode cX4_addFact 12 = .ok (.aload_n 0, 1) := by decide +kernel
theorem dX4_addFact_13 : decode cX4_addFact 13 = .ok (.getfield 49, 3) := by decide +kernel
theorem dX4_addFact_16 : decode cX4_addFact 16 = .ok (.bipush 14, 2) := by decide +kernel
theorem dX4_addFact_18 : decode cX4_addFact 18 = .ok (.if_icmp .ne 7, 3) := by decide +kernel
theorem dX4_addFact_21 : decode cX4_addFact 21 = .ok (.iconst 2, 1) := by decide +kernel
theorem dX4_addFact_22 : decode cX4_addFact 22 = .ok (.goto 4, 3) := by decide +kernel
theorem dX4_addFact_25 : decode cX4_addFact 25 = .ok (.iconst 0, 1) := by decide +kernel
theorem dX4_addFact_26 : decode cX4_addFact 26 = .ok (.invokevirtual 59, 3) := by decide +kernel
theorem dX4_addFact_29 : decode cX4_addFact 29 = .ok (.ifCond .ne 5, 3) := by decide +kernel
theorem dX4_addFact_32 : decode cX4_addFact 32 = .ok (.iconst 0, 1) := by decide +kernel
theorem dX4_addFact_33 : decode cX4_addFact 33 = .ok (.ireturn, 1) := by decide +kernel
theorem dX4_addFact_34 : decode cX4_addFact 34 = .ok (.aload_n 0, 1) := by decide +kernel
theorem dX4_addFact_35 : decode cX4_addFact 35 = .ok (.getfield 13, 3) := by decide +kernel
theorem dX4_addFact_38 : decode cX4_addFact 38 = .ok (.aload_n 0, 1) := by decide +kernel
theorem dX4_addFact_39 : decode cX4_addFact 39 = .ok (.getfield 49, 3) := by decide +kernel
theorem dX4_addFact_42 : decode cX4_addFact 42 = .ok (.iload_n 1, 1) := by decide +kernel
theorem dX4_addFact_43 : decode cX4_addFact 43 = .ok (.iastore, 1) := by decide +kernel
theorem dX4_addFact_44 : decode cX4_addFact 44 = .ok (.aload_n 0, 1) := by decide +kernel
theorem dX4_addFact_45 : decode cX4_addFact 45 = .ok (.dup, 1) := by decide +kernel
theorem dX4_addFact_46 : decode cX4_addFact 46 = .ok (.getfield 49, 3) := by decide +kernel
theorem dX4_addFact_49 : decode cX4_addFact 49 = .ok (.iconst 1, 1) := by decide +kernel
theorem dX4_addFact_50 : decode cX4_addFact 50 = .ok (.iadd, 1) := by decide +kernel
theorem dX4_addFact_51 : decode cX4_addFact 51 = .ok (.putfield 49, 3) := by decide +kernel
theorem dX4_addFact_54 : decode cX4_addFact 54 = .ok (.aload_n 0, 1) := by decide +kernel
theorem dX4_addFact_55 : decode cX4_addFact 55 = .ok (.getfield 49, 3) := by decide +kernel
theorem dX4_addFact_58 : decode cX4_addFact 58 = .ok (.iconst 1, 1) := by decide +kernel
theorem dX4_addFact_59 : decode cX4_addFact 59 = .ok (.isub, 1) := by decide +kernel
theorem dX4_addFact_60 : decode cX4_addFact 60 = .ok (.ireturn, 1) := by decide +kernel
set_option maxRecDepth 20000 in
theorem ggX4_toggleSource_X4_isSource : GoodIn wsX4_toggleSource wsX4_isSource := goodIn_r _ [5, 6, 7, 4, 8] (by decide +kernel) (by decide +kernel)
set_option maxRecDepth 20000 in
theorem gX4_toggleSource_X4_isSource : GoodIn wsX4_toggleSource (va_wsS RX4 55 yX4_isSource wsX4_isSource) := goodIn_app (goodIn_of _ (by decide +kernel)) ggX4_toggleSource_X4_isSource
set_option maxRecDepth 20000 in
theorem ggX4_toggleSource_X4_goes : GoodIn wsX4_toggleSource wsX4_goes := goodIn_r _ [12, 13, 14, 15, 16, 17, 18, 19, 20, 21, 22, 23, 24, 25, 26, 27, 28] (by decide +kernel) (by decide +kernel)
set_option maxRecDepth 20000 in
theorem gX4_toggleSource_X4_goes : GoodIn wsX4_toggleSource (wsV RX4 59 RX4 yX4_goes wsX4_goes) := goodIn_app (goodIn_of _ (by decide +kernel)) ggX4_toggleSource_X4_goes
theorem dX4_toggleSource_0 : decode cX4_toggleSource 0 = .ok (.aload_n 0, 1) := by decide +kernel
theorem dX4_toggleSource_1 : decode cX4_toggleSource 1 = .ok (.iload_n 1, 1) := by decide +kernel
theorem dX4_toggleSource_2 : decode cX4_toggleSource 2 = .ok (.invokestatic 55, 3) := by decide +kernel
theorem dX4_toggleSource_5 : decode cX4_toggleSource 5 = .ok (.ifCond .eq 7, 3) := by decide +kernel
theorem dX4_toggleSource_8 : decode cX4_toggleSource 8 = .ok (.iconst 0, 1) := by decide +kernel
theorem dX4_toggleSource_9 : decode cX4_toggleSource 9 = .ok (.goto 4, 3) := by decide +kernel
theorem dX4_toggleSource_12 : decode cX4_toggleSource 12 = .ok (.iconst 1, 1) := by decide +kernel
theorem dX4_toggleSource_13 : decode cX4_toggleSource 13 = .ok (.invokevirtual 59, 3) := by decide +kernel
theorem dX4_toggleSource_16 : decode cX4_toggleSource 16 = .ok (.ifCond .ne 5, 3) := by decide +kernel
theorem dX4_toggleSource_19 : decode cX4_toggleSource 19 = .ok (.iconst 0, 1) := by decide +kernel
theorem dX4_toggleSource_20 : decode cX4_toggleSource 20 = .ok (.ireturn, 1) := by decide +kernel
theorem dX4_toggleSource_21 : decode cX4_toggleSource 21 = .ok (.aload_n 0, 1) := by decide +kernel
theorem dX4_toggleSource_22 : decode cX4_toggleSource 22 = .ok (.getfield 7, 3) := by decide +kernel
theorem dX4_toggleSource_25 : decode cX4_toggleSource 25 = .ok (.iload_n 1, 1) := by decide +kernel
theorem dX4_toggleSource_26 : decode cX4_toggleSource 26 = .ok (.aload_n 0, 1) := by decide +kernel
theorem dX4_toggleSource_27 : decode cX4_toggleSource 27 = .ok (.getfield 7, 3) := by decide +kernel
theorem dX4_toggleSource_30 : decode cX4_toggleSource 30 = .ok (.iload_n 1, 1) := by decide +kernel
theorem dX4_toggleSource_31 : decode cX4_toggleSource 31 = .ok (.baload, 1) := by decide +kernel
theorem dX4_toggleSource_32 : decode cX4_toggleSource 32 = .ok (.ifCond .ne 7, 3) := by decide +kernel
theorem dX4_toggleSource_35 : decode cX4_toggleSource 35 = .ok (.iconst 1, 1) := by decide +kernel
theorem dX4_toggleSource_36 : decode cX4_toggleSource 36 = .ok (.goto 4, 3) := by decide +kernel
theorem dX4_toggleSource_39 : decode cX4_toggleSource 39 = .ok (.iconst 0, 1) := by decide +kernel
theorem dX4_toggleSource_40 : decode cX4_toggleSource 40 = .ok (.bastore, 1) := by decide +kernel
theorem dX4_toggleSource_41 : decode cX4_toggleSource 41 = .ok (.aload_n 0, 1) := by decide +kernel
theorem dX4_toggleSource_42 : decode cX4_toggleSource 42 = .ok (.getfield 7, 3) := by decide +kernel
theorem dX4_toggleSource_45 : decode cX4_toggleSource 45 = .ok (.iload_n 1, 1) := by decide +kernel
theorem dX4_toggleSource_46 : decode cX4_toggleSource 46 = .ok (.baload, 1) := by decide +kernel
theorem dX4_toggleSource_47 : decode cX4_toggleSource 47 = .ok (.ifCond .ne 7, 3) := by decide +kernel
theorem dX4_toggleSource_50 : decode cX4_toggleSource 50 = .ok (.iconst 1, 1) := by decide +kernel
theorem dX4_toggleSource_51 : decode cX4_toggleSource 51 = .ok (.goto 4, 3) := by decide +kernel
theorem dX4_toggleSource_54 : decode cX4_toggleSource 54 = .ok (.iconst 0, 1) := by decide +kernel
theorem dX4_toggleSource_55 : decode cX4_toggleSource 55 = .ok (.ireturn, 1) := by decide +kernel
set_option maxRecDepth 20000 in
theorem ggX4_withdraw_X4_isFact : GoodIn wsX4_withdraw wsX4_isFact := goodIn_r _ [6, 7, 8, 9, 5, 10, 16, 17, 18, 19, 20, 21, 22, 23, 24, 25, 26, 27, 28, 29, 30] (by decide +kernel) (by decide +kernel)
set_option maxRecDepth 20000 in
theorem gX4_withdraw_X4_isFact : GoodIn wsX4_withdraw (wsV RX4 62 RX4 yX4_isFact wsX4_isFact) := goodIn_app (goodIn_of _ (by decide +kernel)) ggX4_withdraw_X4_isFact
set_option maxRecDepth 20000 in
theorem ggX4_withdraw_X4_goes : GoodIn wsX4_withdraw wsX4_goes := goodIn_r _ [14, 15, 16, 17, 18, 19, 20, 21, 22, 23, 24, 25, 26, 27, 28, 29, 30] (by decide +kernel) (by decide +kernel)
set_option maxRecDepth 20000 in
theorem gX4_withdraw_X4_goes : GoodIn wsX4_withdraw (wsV RX4 59 RX4 yX4_goes wsX4_goes) := goodIn_app (goodIn_of _ (by decide +kernel)) ggX4_withdraw_X4_goes
theorem dX4_withdraw_0 : decode cX4_withdraw 0 = .ok (.aload_n 0, 1) := by decide +kernel
theorem dX4_withdraw_1 : decode cX4_withdraw 1 = .ok (.aload_n 0, 1) := by decide +kernel
theorem dX4_withdraw_2 : decode cX4_withdraw 2 = .ok (.iload_n 1, 1) := by decide +kernel
theorem dX4_withdraw_3 : decode cX4_withdraw 3 = .ok (.invokevirtual 62, 3) := by decide +kernel
theorem dX4_withdraw_6 : decode cX4_withdraw 6 = .ok (.ifCond .eq 7, 3) := by decide +kernel
theorem dX4_withdraw_9 : decode cX4_withdraw 9 = .ok (.iconst 0, 1) := by decide +kernel
theorem dX4_withdraw_10 : decode cX4_withdraw 10 = .ok (.goto 4, 3) := by decide +kernel
theorem dX4_withdraw_13 : decode cX4_withdraw 13 = .ok (.iconst 1, 1) := by decide +kernel
theorem dX4_withdraw_14 : decode cX4_withdraw 14 = .ok (.invokevirtual 59, 3) := by decide +kernel
theorem dX4_withdraw_17 : decode cX4_withdraw 17 = .ok (.ifCond .ne 5, 3) := by decide +kernel
theorem dX4_withdraw_20 : decode cX4_withdraw 20 = .ok (.iconst 0, 1) := by decide +kernel
theorem dX4_withdraw_21 : decode cX4_withdraw 21 = .ok (.ireturn, 1) := by decide +kernel
theorem dX4_withdraw_22 : decode cX4_withdraw 22 = .ok (.aload_n 0, 1) := by decide +kernel
theorem dX4_withdraw_23 : decode cX4_withdraw 23 = .ok (.getfield 17, 3) := by decide +kernel
theorem dX4_withdraw_26 : decode cX4_withdraw 26 = .ok (.iload_n 1, 1) := by decide +kernel
theorem dX4_withdraw_27 : decode cX4_withdraw 27 = .ok (.baload, 1) := by decide +kernel
theorem dX4_withdraw_28 : decode cX4_withdraw 28 = .ok (.istore_n 2, 1) := by decide +kernel
theorem dX4_withdraw_29 : decode cX4_withdraw 29 = .ok (.aload_n 0, 1) := by decide +kernel
theorem dX4_withdraw_30 : decode cX4_withdraw 30 = .ok (.getfield 17, 3) := by decide +kernel
theorem dX4_withdraw_33 : decode cX4_withdraw 33 = .ok (.iload_n 1, 1) := by decide +kernel
theorem dX4_withdraw_34 : decode cX4_withdraw 34 = .ok (.iconst 1, 1) := by decide +kernel
theorem dX4_withdraw_35 : decode cX4_withdraw 35 = .ok (.bastore, 1) := by decide +kernel
theorem dX4_withdraw_36 : decode cX4_withdraw 36 = .ok (.iload_n 2, 1) := by decide +kernel
theorem dX4_withdraw_37 : decode cX4_withdraw 37 = .ok (.ifCond .ne 7, 3) := by decide +kernel
theorem dX4_withdraw_40 : decode cX4_withdraw 40 = .ok (.iconst 1, 1) := by decide +kernel
theorem dX4_withdraw_41 : decode cX4_withdraw 41 = .ok (.goto 4, 3) := by decide +kernel
theorem dX4_withdraw_44 : decode cX4_withdraw 44 = .ok (.iconst 0, 1) := by decide +kernel
theorem dX4_withdraw_45 : decode cX4_withdraw 45 = .ok (.ireturn, 1) := by decide +kernel
theorem dX4_stands_0 : decode cX4_stands 0 = .ok (.aload_n 0, 1) := by decide +kernel
theorem dX4_stands_1 : decode cX4_stands 1 = .ok (.getfield 17, 3) := by decide +kernel
theorem dX4_stands_4 : decode cX4_stands 4 = .ok (.iload_n 1, 1) := by decide +kernel
theorem dX4_stands_5 : decode cX4_stands 5 = .ok (.baload, 1) := by decide +kernel
theorem dX4_stands_6 : decode cX4_stands 6 = .ok (.ifCond .ne 21, 3) := by decide +kernel
theorem dX4_stands_9 : decode cX4_stands 9 = .ok (.aload_n 0, 1) := by decide +kernel
theorem dX4_stands_10 : decode cX4_stands 10 = .ok (.getfield 7, 3) := by decide +kernel
theorem dX4_stands_13 : decode cX4_stands 13 = .ok (.aload_n 0, 1) := by decide +kernel
theorem dX4_stands_14 : decode cX4_stands 14 = .ok (.getfield 13, 3) := by decide +kernel
theorem dX4_stands_17 : decode cX4_stands 17 = .ok (.iload_n 1, 1) := by decide +kernel
theorem dX4_stands_18 : decode cX4_stands 18 = .ok (.iaload, 1) := by decide +kernel
theorem dX4_stands_19 : decode cX4_stands 19 = .ok (.baload, 1) := by decide +kernel
theorem dX4_stands_20 : decode cX4_stands 20 = .ok (.ifCond .ne 7, 3) := by decide +kernel
theorem dX4_stands_23 : decode cX4_stands 23 = .ok (.iconst 1, 1) := by decide +kernel
theorem dX4_stands_24 : decode cX4_stands 24 = .ok (.goto 4, 3) := by decide +kernel
theorem dX4_stands_27 : decode cX4_stands 27 = .ok (.iconst 0, 1) := by decide +kernel
theorem dX4_stands_28 : decode cX4_stands 28 = .ok (.ireturn, 1) := by decide +kernel
set_option maxRecDepth 20000 in
theorem ggX4_factStands_X4_isFact : GoodIn wsX4_factStands wsX4_isFact := goodIn_r _ [5, 6, 7, 8, 4, 9, 22, 23, 24, 25, 26, 27, 28, 29, 30, 31, 32, 33, 34, 35, 36] (by decide +kernel) (by decide +kernel)
set_option maxRecDepth 20000 in
theorem gX4_factStands_X4_isFact : GoodIn wsX4_factStands (wsV RX4 62 RX4 yX4_isFact wsX4_isFact) := goodIn_app (goodIn_of _ (by decide +kernel)) ggX4_factStands_X4_isFact
set_option maxRecDepth 20000 in
theorem ggX4_factStands_X4_goes : GoodIn wsX4_factStands wsX4_goes := goodIn_r _ [13, 14, 22, 23, 24, 25, 26, 27, 28, 29, 30, 31, 32, 33, 34, 35, 36] (by decide +kernel) (by decide +kernel)
set_option maxRecDepth 20000 in
theorem gX4_factStands_X4_goes : GoodIn wsX4_factStands (wsV RX4 59 RX4 yX4_goes wsX4_goes) := goodIn_app (goodIn_of _ (by decide +kernel)) ggX4_factStands_X4_goes
set_option maxRecDepth 20000 in
theorem ggX4_factStands_X4_stands : GoodIn wsX4_factStands wsX4_stands := goodIn_r _ [18, 19, 20, 21, 22, 23, 24, 25, 26, 27, 28, 29, 30, 31, 32, 33, 34, 35, 36] (by decide +kernel) (by decide +kernel)
set_option maxRecDepth 20000 in
theorem gX4_factStands_X4_stands : GoodIn wsX4_factStands (wsV RX4 65 RX4 yX4_stands wsX4_stands) := goodIn_app (goodIn_of _ (by decide +kernel)) ggX4_factStands_X4_stands
theorem dX4_factStands_0 : decode cX4_factStands 0 = .ok (.aload_n 0, 1) := by decide +kernel
theorem dX4_factStands_1 : decode cX4_factStands 1 = .ok (.aload_n 0, 1) := by decide +kernel
theorem dX4_factStands_2 : decode cX4_factStands 2 = .ok (.iload_n 1, 1) := by decide +kernel
theorem dX4_factStands_3 : decode cX4_factStands 3 = .ok (.invokevirtual 62, 3) := by decide +kernel
theorem dX4_factStands_6 : decode cX4_factStands 6 = .ok (.ifCond .eq 7, 3) := by decide +kernel
theorem dX4_factStands_9 : decode cX4_factStands 9 = .ok (.iconst 0, 1) := by decide +kernel
theorem dX4_factStands_10 : decode cX4_factStands 10 = .ok (.goto 4, 3) := by decide +kernel
theorem dX4_factStands_13 : decode cX4_factStands 13 = .ok (.iconst 1, 1) := by decide +kernel
theorem dX4_factStands_14 : decode cX4_factStands 14 = .ok (.invokevirtual 59, 3) := by decide +kernel
theorem dX4_factStands_17 : decode cX4_factStands 17 = .ok (.ifCond .eq 15, 3) := by decide +kernel
theorem dX4_factStands_20 : decode cX4_factStands 20 = .ok (.aload_n 0, 1) := by decide +kernel
theorem dX4_factStands_21 : decode cX4_factStands 21 = .ok (.iload_n 1, 1) := by decide +kernel
theorem dX4_factStands_22 : decode cX4_factStands 22 = .ok (.invokevirtual 65, 3) := by decide +kernel
theorem dX4_factStands_25 : decode cX4_factStands 25 = .ok (.ifCond .eq 7, 3) := by decide +kernel
theorem dX4_factStands_28 : decode cX4_factStands 28 = .ok (.iconst 1, 1) := by decide +kernel
theorem dX4_factStands_29 : decode cX4_factStands 29 = .ok (.goto 4, 3) := by decide +kernel
theorem dX4_factStands_32 : decode cX4_factStands 32 = .ok (.iconst 0, 1) := by decide +kernel
theorem dX4_factStands_33 : decode cX4_factStands 33 = .ok (.ireturn, 1) := by decide +kernel
theorem dX4_facts_0 : decode cX4_facts 0 = .ok (.aload_n 0, 1) := by decide +kernel
theorem dX4_facts_1 : decode cX4_facts 1 = .ok (.iconst 0, 1) := by decide +kernel
theorem dX4_facts_2 : decode cX4_facts 2 = .ok (.putfield 41, 3) := by decide +kernel
theorem dX4_facts_5 : decode cX4_facts 5 = .ok (.aload_n 0, 1) := by decide +kernel
theorem dX4_facts_6 : decode cX4_facts 6 = .ok (.getfield 49, 3) := by decide +kernel
theorem dX4_facts_9 : decode cX4_facts 9 = .ok (.ireturn, 1) := by decide +kernel
set_option maxRecDepth 20000 in
theorem ggX4_standing_X4_stands : GoodIn wsX4_standing wsX4_stands := goodIn_r _ [6, 7, 8, 9, 10, 11, 12, 13, 14, 15, 16, 17, 18, 19, 20, 21, 22, 23, 24] (by decide +kernel) (by decide +kernel)
set_option maxRecDepth 20000 in
theorem gX4_standing_X4_stands : GoodIn wsX4_standing (wsV RX4 65 RX4 yX4_stands wsX4_stands) := goodIn_app (goodIn_of _ (by decide +kernel)) ggX4_standing_X4_stands
theorem dX4_standing_0 : decode cX4_standing 0 = .ok (.iconst 0, 1) := by decide +kernel
theorem dX4_standing_1 : decode cX4_standing 1 = .ok (.istore_n 2, 1) := by decide +kernel
theorem dX4_standing_2 : decode cX4_standing 2 = .ok (.iconst 0, 1) := by decide +kernel
theorem dX4_standing_3 : decode cX4_standing 3 = .ok (.istore_n 3, 1) := by decide +kernel
theorem dX4_standing_4 : decode cX4_standing 4 = .ok (.iload_n 3, 1) := by decide +kernel
theorem dX4_standing_5 : decode cX4_standing 5 = .ok (.aload_n 0, 1) := by decide +kernel
theorem dX4_standing_6 : decode cX4_standing 6 = .ok (.getfield 49, 3) := by decide +kernel
theorem dX4_standing_9 : decode cX4_standing 9 = .ok (.if_icmp .ge 32, 3) := by decide +kernel
theorem dX4_standing_12 : decode cX4_standing 12 = .ok (.iload_n 2, 1) := by decide +kernel
theorem dX4_standing_13 : decode cX4_standing 13 = .ok (.iload_n 3, 1) := by decide +kernel
theorem dX4_standing_14 : decode cX4_standing 14 = .ok (.iload_n 1, 1) := by decide +kernel
theorem dX4_standing_15 : decode cX4_standing 15 = .ok (.if_icmp .eq 17, 3) := by decide +kernel
theorem dX4_standing_18 : decode cX4_standing 18 = .ok (.aload_n 0, 1) := by decide +kernel
theorem dX4_standing_19 : decode cX4_standing 19 = .ok (.iload_n 3, 1) := by decide +kernel
theorem dX4_standing_20 : decode cX4_standing 20 = .ok (.invokevirtual 65, 3) := by decide +kernel
theorem dX4_standing_23 : decode cX4_standing 23 = .ok (.ifCond .eq 9, 3) := by decide +kernel
theorem dX4_standing_26 : decode cX4_standing 26 = .ok (.iconst 1, 1) := by decide +kernel
theorem dX4_standing_27 : decode cX4_standing 27 = .ok (.iload_n 3, 1) := by decide +kernel
theorem dX4_standing_28 : decode cX4_standing 28 = .ok (.ishl, 1) := by decide +kernel
theorem dX4_standing_29 : decode cX4_standing 29 = .ok (.goto 4, 3) := by decide +kernel
theorem dX4_standing_32 : decode cX4_standing 32 = .ok (.iconst 0, 1) := by decide +kernel
theorem dX4_standing_33 : decode cX4_standing 33 = .ok (.ior, 1) := by decide +kernel
theorem dX4_standing_34 : decode cX4_standing 34 = .ok (.istore_n 2, 1) := by decide +kernel
theorem dX4_standing_35 : decode cX4_standing 35 = .ok (.iinc 3 1, 3) := by decide +kernel
theorem dX4_standing_38 : decode cX4_standing 38 = .ok (.goto (-34), 3) := by decide +kernel
theorem dX4_standing_41 : decode cX4_standing 41 = .ok (.iload_n 2, 1) := by decide +kernel
theorem dX4_standing_42 : decode cX4_standing 42 = .ok (.ireturn, 1) := by decide +kernel
theorem dX4_next_0 : decode cX4_next 0 = .ok (.aload_n 0, 1) := by decide +kernel
theorem dX4_next_1 : decode cX4_next 1 = .ok (.aload_n 0, 1) := by decide +kernel
theorem dX4_next_2 : decode cX4_next 2 = .ok (.getfield 68, 3) := by decide +kernel
theorem dX4_next_5 : decode cX4_next 5 = .ok (.iconst 1, 1) := by decide +kernel
theorem dX4_next_6 : decode cX4_next 6 = .ok (.iadd, 1) := by decide +kernel
theorem dX4_next_7 : decode cX4_next 7 = .ok (.iconst 3, 1) := by decide +kernel
theorem dX4_next_8 : decode cX4_next 8 = .ok (.irem, 1) := by decide +kernel
theorem dX4_next_9 : decode cX4_next 9 = .ok (.putfield 68, 3) := by decide +kernel
theorem dX4_next_12 : decode cX4_next 12 = .ok (.return_, 1) := by decide +kernel
set_option maxRecDepth 20000 in
theorem ggX4_claim_X4_isIn : GoodIn wsX4_claim wsX4_isIn := goodIn_r _ [12] (by decide +kernel) (by decide +kernel)
set_option maxRecDepth 20000 in
theorem gX4_claim_X4_isIn : GoodIn wsX4_claim (va_wsS RX4 45 yX4_isIn wsX4_isIn) := goodIn_app (goodIn_of _ (by decide +kernel)) ggX4_claim_X4_isIn
set_option maxRecDepth 20000 in
theorem ggX4_claim_X4_goes : GoodIn wsX4_claim wsX4_goes := goodIn_r _ [16, 17, 22, 23, 24, 25, 26, 27, 28, 29, 30, 31, 32, 33, 34, 35, 36] (by decide +kernel) (by decide +kernel)
set_option maxRecDepth 20000 in
theorem gX4_claim_X4_goes : GoodIn wsX4_claim (wsV RX4 59 RX4 yX4_goes wsX4_goes) := goodIn_app (goodIn_of _ (by decide +kernel)) ggX4_claim_X4_goes
set_option maxRecDepth 20000 in
theorem ggX4_claim_X4_next : GoodIn wsX4_claim wsX4_next := goodIn_r _ [21, 4, 22, 23, 24, 25, 26, 27, 28, 29, 30, 31, 32, 33, 34, 35, 36] (by decide +kernel) (by decide +kernel)
set_option maxRecDepth 20000 in
theorem gX4_claim_X4_next : GoodIn wsX4_claim (wsV RX4 71 RX4 yX4_next wsX4_next) := goodIn_app (goodIn_of _ (by decide +kernel)) ggX4_claim_X4_next
theorem dX4_claim_0 : decode cX4_claim 0 = .ok (.iload_n 1, 1) := by decide +kernel
theorem dX4_claim_1 : decode cX4_claim 1 = .ok (.ifCond .lt 26, 3) := by decide +kernel
theorem dX4_claim_4 : decode cX4_claim 4 = .ok (.iload_n 1, 1) := by decide +kernel
theorem dX4_claim_5 : decode cX4_claim 5 = .ok (.aload_n 0, 1) := by decide +kernel
theorem dX4_claim_6 : decode cX4_claim 6 = .ok (.getfield 49, 3) := by decide +kernel
theorem dX4_claim_9 : decode cX4_claim 9 = .ok (.ishr, 1) := by decide +kernel
theorem dX4_claim_10 : decode cX4_claim 10 = .ok (.ifCond .ne 17, 3) := by decide +kernel
theorem dX4_claim_13 : decode cX4_claim 13 = .ok (.iload_n 2, 1) := by decide +kernel
theorem dX4_claim_14 : decode cX4_claim 14 = .ok (.iconst 1, 1) := by decide +kernel
theorem dX4_claim_15 : decode cX4_claim 15 = .ok (.bipush 100, 2) := by decide +kernel
theorem dX4_claim_17 : decode cX4_claim 17 = .ok (.invokestatic 45, 3) := by decide +kernel
theorem dX4_claim_20 : decode cX4_claim 20 = .ok (.ifCond .eq 7, 3) := by decide +kernel
theorem dX4_claim_23 : decode cX4_claim 23 = .ok (.iconst 1, 1) := by decide +kernel
theorem dX4_claim_24 : decode cX4_claim 24 = .ok (.goto 4, 3) := by decide +kernel
theorem dX4_claim_27 : decode cX4_claim 27 = .ok (.iconst 0, 1) := by decide +kernel
theorem dX4_claim_28 : decode cX4_claim 28 = .ok (.istore_n 3, 1) := by decide +kernel
theorem dX4_claim_29 : decode cX4_claim 29 = .ok (.aload_n 0, 1) := by decide +kernel
theorem dX4_claim_30 : decode cX4_claim 30 = .ok (.iload_n 3, 1) := by decide +kernel
theorem dX4_claim_31 : decode cX4_claim 31 = .ok (.ifCond .ne 7, 3) := by decide +kernel
theorem dX4_claim_34 : decode cX4_claim 34 = .ok (.iconst 1, 1) := by decide +kernel
theorem dX4_claim_35 : decode cX4_claim 35 = .ok (.goto 30, 3) := by decide +kernel
theorem dX4_claim_38 : decode cX4_claim 38 = .ok (.aload_n 0, 1) := by decide +kernel
theorem dX4_claim_39 : decode cX4_claim 39 = .ok (.getfield 52, 3) := by decide +kernel
theorem dX4_claim_42 : decode cX4_claim 42 = .ok (.bipush 16, 2) := by decide +kernel
theorem dX4_claim_44 : decode cX4_claim 44 = .ok (.if_icmp .eq 16, 3) := by decide +kernel
theorem dX4_claim_47 : decode cX4_claim 47 = .ok (.aload_n 0, 1) := by decide +kernel
theorem dX4_claim_48 : decode cX4_claim 48 = .ok (.getfield 20, 3) := by decide +kernel
theorem dX4_claim_51 : decode cX4_claim 51 = .ok (.aload_n 0, 1) := by decide +kernel
theorem dX4_claim_52 : decode cX4_claim 52 = .ok (.getfield 68, 3) := by decide +kernel
theorem dX4_claim_55 : decode cX4_claim 55 = .ok (.iaload, 1) := by decide +kernel
theorem dX4_claim_56 : decode cX4_claim 56 = .ok (.iload_n 2, 1) := by decide +kernel
theorem dX4_claim_57 : decode cX4_claim 57 = .ok (.if_icmp .ge 7, 3) := by decide +kernel
theorem dX4_claim_60 : decode cX4_claim 60 = .ok (.iconst 2, 1) := by decide +kernel
theorem dX4_claim_61 : decode cX4_claim 61 = .ok (.goto 4, 3) := by decide +kernel
theorem dX4_claim_64 : decode cX4_claim 64 = .ok (.iconst 0, 1) := by decide +kernel
theorem dX4_claim_65 : decode cX4_claim 65 = .ok (.invokevirtual 59, 3) := by decide +kernel
theorem dX4_claim_68 : decode cX4_claim 68 = .ok (.ifCond .ne 5, 3) := by decide +kernel
theorem dX4_claim_71 : decode cX4_claim 71 = .ok (.iconst 0, 1) := by decide +kernel
theorem dX4_claim_72 : decode cX4_claim 72 = .ok (.ireturn, 1) := by decide +kernel
theorem dX4_claim_73 : decode cX4_claim 73 = .ok (.aload_n 0, 1) := by decide +kernel
theorem dX4_claim_74 : decode cX4_claim 74 = .ok (.getfield 23, 3) := by decide +kernel
theorem dX4_claim_77 : decode cX4_claim 77 = .ok (.aload_n 0, 1) := by decide +kernel
theorem dX4_claim_78 : decode cX4_claim 78 = .ok (.getfield 52, 3) := by decide +kernel
theorem dX4_claim_81 : decode cX4_claim 81 = .ok (.aload_n 0, 1) := by decide +kernel
theorem dX4_claim_82 : decode cX4_claim 82 = .ok (.getfield 68, 3) := by decide +kernel
theorem dX4_claim_85 : decode cX4_claim 85 = .ok (.iastore, 1) := by decide +kernel
theorem dX4_claim_86 : decode cX4_claim 86 = .ok (.aload_n 0, 1) := by decide +kernel
theorem dX4_claim_87 : decode cX4_claim 87 = .ok (.getfield 26, 3) := by decide +kernel
theorem dX4_claim_90 : decode cX4_claim 90 = .ok (.aload_n 0, 1) := by decide +kernel
theorem dX4_claim_91 : decode cX4_claim 91 = .ok (.getfield 52, 3) := by decide +kernel
theorem dX4_claim_94 : decode cX4_claim 94 = .ok (.iload_n 1, 1) := by decide +kernel
theorem dX4_claim_95 : decode cX4_claim 95 = .ok (.iastore, 1) := by decide +kernel
theorem dX4_claim_96 : decode cX4_claim 96 = .ok (.aload_n 0, 1) := by decide +kernel
theorem dX4_claim_97 : decode cX4_claim 97 = .ok (.getfield 29, 3) := by decide +kernel
theorem dX4_claim_100 : decode cX4_claim 100 = .ok (.aload_n 0, 1) := by decide +kernel
theorem dX4_claim_101 : decode cX4_claim 101 = .ok (.getfield 52, 3) := by decide +kernel
theorem dX4_claim_104 : decode cX4_claim 104 = .ok (.iconst 0, 1) := by decide +kernel
theorem dX4_claim_105 : decode cX4_claim 105 = .ok (.iastore, 1) := by decide +kernel
theorem dX4_claim_106 : decode cX4_claim 106 = .ok (.aload_n 0, 1) := by decide +kernel
theorem dX4_claim_107 : decode cX4_claim 107 = .ok (.getfield 32, 3) := by decide +kernel
theorem dX4_claim_110 : decode cX4_claim 110 = .ok (.aload_n 0, 1) := by decide +kernel
theorem dX4_claim_111 : decode cX4_claim 111 = .ok (.getfield 52, 3) := by decide +kernel
theorem dX4_claim_114 : decode cX4_claim 114 = .ok (.iconst 0, 1) := by decide +kernel
theorem dX4_claim_115 : decode cX4_claim 115 = .ok (.iastore, 1) := by decide +kernel
theorem dX4_claim_116 : decode cX4_claim 116 = .ok (.aload_n 0, 1) := by decide +kernel
theorem dX4_claim_117 : decode cX4_claim 117 = .ok (.getfield 20, 3) := by decide +kernel
theorem dX4_claim_120 : decode cX4_claim 120 = .ok (.aload_n 0, 1) := by decide +kernel
theorem dX4_claim_121 : decode cX4_claim 121 = .ok (.getfield 68, 3) := by decide +kernel
theorem dX4_claim_124 : decode cX4_claim 124 = .ok (.dup2, 1) := by decide +kernel
theorem dX4_claim_125 : decode cX4_claim 125 = .ok (.iaload, 1) := by decide +kernel
theorem dX4_claim_126 : decode cX4_claim 126 = .ok (.iload_n 2, 1) := by decide +kernel
theorem dX4_claim_127 : decode cX4_claim 127 = .ok (.isub, 1) := by decide +kernel
theorem dX4_claim_128 : decode cX4_claim 128 = .ok (.iastore, 1) := by decide +kernel
theorem dX4_claim_129 : decode cX4_claim 129 = .ok (.aload_n 0, 1) := by decide +kernel
theorem dX4_claim_130 : decode cX4_claim 130 = .ok (.dup, 1) := by decide +kernel
theorem dX4_claim_131 : decode cX4_claim 131 = .ok (.getfield 52, 3) := by decide +kernel
theorem dX4_claim_134 : decode cX4_claim 134 = .ok (.iconst 1, 1) := by decide +kernel
theorem dX4_claim_135 : decode cX4_claim 135 = .ok (.iadd, 1) := by decide +kernel
theorem dX4_claim_136 : decode cX4_claim 136 = .ok (.putfield 52, 3) := by decide +kernel
theorem dX4_claim_139 : decode cX4_claim 139 = .ok (.aload_n 0, 1) := by decide +kernel
theorem dX4_claim_140 : decode cX4_claim 140 = .ok (.invokevirtual 71, 3) := by decide +kernel
theorem dX4_claim_143 : decode cX4_claim 143 = .ok (.aload_n 0, 1) := by decide +kernel
theorem dX4_claim_144 : decode cX4_claim 144 = .ok (.getfield 52, 3) := by decide +kernel
theorem dX4_claim_147 : decode cX4_claim 147 = .ok (.iconst 1, 1) := by decide +kernel
theorem dX4_claim_148 : decode cX4_claim 148 = .ok (.isub, 1) := by decide +kernel
theorem dX4_claim_149 : decode cX4_claim 149 = .ok (.ireturn, 1) := by decide +kernel
set_option maxRecDepth 20000 in
theorem ggX4_skip_X4_next : GoodIn wsX4_skip wsX4_next := goodIn_r _ [7, 2, 8, 9, 10, 11, 12, 13, 14, 15, 16, 17, 18, 19, 20, 21, 22] (by decide +kernel) (by decide +kernel)
set_option maxRecDepth 20000 in
theorem gX4_skip_X4_next : GoodIn wsX4_skip (wsV RX4 71 RX4 yX4_next wsX4_next) := goodIn_app (goodIn_of _ (by decide +kernel)) ggX4_skip_X4_next
theorem dX4_skip_0 : decode cX4_skip 0 = .ok (.aload_n 0, 1) := by decide +kernel
theorem dX4_skip_1 : decode cX4_skip 1 = .ok (.iconst 0, 1) := by decide +kernel
theorem dX4_skip_2 : decode cX4_skip 2 = .ok (.putfield 41, 3) := by decide +kernel
theorem dX4_skip_5 : decode cX4_skip 5 = .ok (.aload_n 0, 1) := by decide +kernel
theorem dX4_skip_6 : decode cX4_skip 6 = .ok (.invokevirtual 71, 3) := by decide +kernel
theorem dX4_skip_9 : decode cX4_skip 9 = .ok (.aload_n 0, 1) := by decide +kernel
theorem dX4_skip_10 : decode cX4_skip 10 = .ok (.getfield 68, 3) := by decide +kernel
theorem dX4_skip_13 : decode cX4_skip 13 = .ok (.ireturn, 1) := by decide +kernel
set_option maxRecDepth 20000 in
theorem ggX4_areTwo_X4_isClaim : GoodIn wsX4_areTwo wsX4_isClaim := goodIn_r _ [5, 6, 7, 8, 4, 9, 15, 16, 17, 18, 19, 20, 21, 22, 23, 24, 25, 26, 27, 28, 29] (by decide +kernel) (by decide +kernel)
set_option maxRecDepth 20000 in
theorem gX4_areTwo_X4_isClaim : GoodIn wsX4_areTwo (wsV RX4 74 RX4 yX4_isClaim wsX4_isClaim) := goodIn_app (goodIn_of _ (by decide +kernel)) ggX4_areTwo_X4_isClaim
set_option maxRecDepth 20000 in
theorem ggX4_areTwo_X4_goes : GoodIn wsX4_areTwo wsX4_goes := goodIn_r _ [13, 14, 15, 16, 17, 18, 19, 20, 21, 22, 23, 24, 25, 26, 27, 28, 29] (by decide +kernel) (by decide +kernel)
set_option maxRecDepth 20000 in
theorem gX4_areTwo_X4_goes : GoodIn wsX4_areTwo (wsV RX4 59 RX4 yX4_goes wsX4_goes) := goodIn_app (goodIn_of _ (by decide +kernel)) ggX4_areTwo_X4_goes
theorem dX4_areTwo_0 : decode cX4_areTwo 0 = .ok (.aload_n 0, 1) := by decide +kernel
theorem dX4_areTwo_1 : decode cX4_areTwo 1 = .ok (.aload_n 0, 1) := by decide +kernel
theorem dX4_areTwo_2 : decode cX4_areTwo 2 = .ok (.iload_n 1, 1) := by decide +kernel
theorem dX4_areTwo_3 : decode cX4_areTwo 3 = .ok (.invokevirtual 74, 3) := by decide +kernel
theorem dX4_areTwo_6 : decode cX4_areTwo 6 = .ok (.ifCond .eq 11, 3) := by decide +kernel
theorem dX4_areTwo_9 : decode cX4_areTwo 9 = .ok (.aload_n 0, 1) := by decide +kernel
theorem dX4_areTwo_10 : decode cX4_areTwo 10 = .ok (.iload_n 2, 1) := by decide +kernel
theorem dX4_areTwo_11 : decode cX4_areTwo 11 = .ok (.invokevirtual 74, 3) := by decide +kernel
theorem dX4_areTwo_14 : decode cX4_areTwo 14 = .ok (.ifCond .ne 7, 3) := by decide +kernel
theorem dX4_areTwo_17 : decode cX4_areTwo 17 = .ok (.iconst 1, 1) := by decide +kernel
theorem dX4_areTwo_18 : decode cX4_areTwo 18 = .ok (.goto 13, 3) := by decide +kernel
theorem dX4_areTwo_21 : decode cX4_areTwo 21 = .ok (.iload_n 1, 1) := by decide +kernel
theorem dX4_areTwo_22 : decode cX4_areTwo 22 = .ok (.iload_n 2, 1) := by decide +kernel
theorem dX4_areTwo_23 : decode cX4_areTwo 23 = .ok (.if_icmp .ne 7, 3) := by decide +kernel
theorem dX4_areTwo_26 : decode cX4_areTwo 26 = .ok (.iconst 2, 1) := by decide +kernel
theorem dX4_areTwo_27 : decode cX4_areTwo 27 = .ok (.goto 4, 3) := by decide +kernel
theorem dX4_areTwo_30 : decode cX4_areTwo 30 = .ok (.iconst 0, 1) := by decide +kernel
theorem dX4_areTwo_31 : decode cX4_areTwo 31 = .ok (.invokevirtual 59, 3) := by decide +kernel
theorem dX4_areTwo_34 : decode cX4_areTwo 34 = .ok (.ireturn, 1) := by decide +kernel
set_option maxRecDepth 20000 in
theorem ggX4_rest_X4_areTwo : GoodIn wsX4_rest wsX4_areTwo := goodIn_r _ [6, 7, 8, 9, 5, 10, 11, 12, 13, 14, 15, 16, 17, 18, 19, 20, 21, 22, 23, 24, 25, 26, 27, 28, 29, 30, 31, 32, 33, 34] (by decide +kernel) (by decide +kernel)
set_option maxRecDepth 20000 in
theorem gX4_rest_X4_areTwo : GoodIn wsX4_rest (wsV RX4 77 RX4 yX4_areTwo wsX4_areTwo) := goodIn_app (goodIn_of _ (by decide +kernel)) ggX4_rest_X4_areTwo
theorem dX4_rest_0 : decode cX4_rest 0 = .ok (.aload_n 0, 1) := by decide +kernel
theorem dX4_rest_1 : decode cX4_rest 1 = .ok (.iload_n 1, 1) := by decide +kernel
theorem dX4_rest_2 : decode cX4_rest 2 = .ok (.iload_n 2, 1) := by decide +kernel
theorem dX4_rest_3 : decode cX4_rest 3 = .ok (.invokevirtual 77, 3) := by decide +kernel
theorem dX4_rest_6 : decode cX4_rest 6 = .ok (.ifCond .ne 5, 3) := by decide +kernel
theorem dX4_rest_9 : decode cX4_rest 9 = .ok (.iconst 0, 1) := by decide +kernel
theorem dX4_rest_10 : decode cX4_rest 10 = .ok (.ireturn, 1) := by decide +kernel
theorem dX4_rest_11 : decode cX4_rest 11 = .ok (.aload_n 0, 1) := by decide +kernel
theorem dX4_rest_12 : decode cX4_rest 12 = .ok (.getfield 29, 3) := by decide +kernel
theorem dX4_rest_15 : decode cX4_rest 15 = .ok (.iload_n 1, 1) := by decide +kernel
theorem dX4_rest_16 : decode cX4_rest 16 = .ok (.dup2, 1) := by decide +kernel
theorem dX4_rest_17 : decode cX4_rest 17 = .ok (.iaload, 1) := by decide +kernel
theorem dX4_rest_18 : decode cX4_rest 18 = .ok (.iconst 1, 1) := by decide +kernel
theorem dX4_rest_19 : decode cX4_rest 19 = .ok (.iload_n 2, 1) := by decide +kernel
theorem dX4_rest_20 : decode cX4_rest 20 = .ok (.ishl, 1) := by decide +kernel
theorem dX4_rest_21 : decode cX4_rest 21 = .ok (.ixor, 1) := by decide +kernel
theorem dX4_rest_22 : decode cX4_rest 22 = .ok (.iastore, 1) := by decide +kernel
theorem dX4_rest_23 : decode cX4_rest 23 = .ok (.aload_n 0, 1) := by decide +kernel
theorem dX4_rest_24 : decode cX4_rest 24 = .ok (.getfield 29, 3) := by decide +kernel
theorem dX4_rest_27 : decode cX4_rest 27 = .ok (.iload_n 1, 1) := by decide +kernel
theorem dX4_rest_28 : decode cX4_rest 28 = .ok (.iaload, 1) := by decide +kernel
theorem dX4_rest_29 : decode cX4_rest 29 = .ok (.iload_n 2, 1) := by decide +kernel
theorem dX4_rest_30 : decode cX4_rest 30 = .ok (.ishr, 1) := by decide +kernel
theorem dX4_rest_31 : decode cX4_rest 31 = .ok (.iconst 1, 1) := by decide +kernel
theorem dX4_rest_32 : decode cX4_rest 32 = .ok (.iand, 1) := by decide +kernel
theorem dX4_rest_33 : decode cX4_rest 33 = .ok (.iconst 1, 1) := by decide +kernel
theorem dX4_rest_34 : decode cX4_rest 34 = .ok (.if_icmp .ne 7, 3) := by decide +kernel
theorem dX4_rest_37 : decode cX4_rest 37 = .ok (.iconst 1, 1) := by decide +kernel
theorem dX4_rest_38 : decode cX4_rest 38 = .ok (.goto 4, 3) := by decide +kernel
theorem dX4_rest_41 : decode cX4_rest 41 = .ok (.iconst 0, 1) := by decide +kernel
theorem dX4_rest_42 : decode cX4_rest 42 = .ok (.ireturn, 1) := by decide +kernel
set_option maxRecDepth 20000 in
theorem ggX4_attack_X4_areTwo : GoodIn wsX4_attack wsX4_areTwo := goodIn_r _ [6, 7, 8, 9, 5, 10, 11, 12, 13, 14, 15, 16, 17, 18, 19, 20, 21, 22, 23, 24, 25, 26, 27, 28, 29, 30, 31, 32, 33, 34] (by decide +kernel) (by decide +kernel)
set_option maxRecDepth 20000 in
theorem gX4_attack_X4_areTwo : GoodIn wsX4_attack (wsV RX4 77 RX4 yX4_areTwo wsX4_areTwo) := goodIn_app (goodIn_of _ (by decide +kernel)) ggX4_attack_X4_areTwo
theorem dX4_attack_0 : decode cX4_attack 0 = .ok (.aload_n 0, 1) := by decide +kernel
theorem dX4_attack_1 : decode cX4_attack 1 = .ok (.iload_n 1, 1) := by decide +kernel
theorem dX4_attack_2 : decode cX4_attack 2 = .ok (.iload_n 2, 1) := by decide +kernel
theorem dX4_attack_3 : decode cX4_attack 3 = .ok (.invokevirtual 77, 3) := by decide +kernel
theorem dX4_attack_6 : decode cX4_attack 6 = .ok (.ifCond .ne 5, 3) := by decide +kernel
theorem dX4_attack_9 : decode cX4_attack 9 = .ok (.iconst 0, 1) := by decide +kernel
theorem dX4_attack_10 : decode cX4_attack 10 = .ok (.ireturn, 1) := by decide +kernel
theorem dX4_attack_11 : decode cX4_attack 11 = .ok (.aload_n 0, 1) := by decide +kernel
theorem dX4_attack_12 : decode cX4_attack 12 = .ok (.getfield 32, 3) := by decide +kernel
theorem dX4_attack_15 : decode cX4_attack 15 = .ok (.iload_n 2, 1) := by decide +kernel
theorem dX4_attack_16 : decode cX4_attack 16 = .ok (.dup2, 1) := by decide +kernel
theorem dX4_attack_17 : decode cX4_attack 17 = .ok (.iaload, 1) := by decide +kernel
theorem dX4_attack_18 : decode cX4_attack 18 = .ok (.iconst 1, 1) := by decide +kernel
theorem dX4_attack_19 : decode cX4_attack 19 = .ok (.iload_n 1, 1) := by decide +kernel
theorem dX4_attack_20 : decode cX4_attack 20 = .ok (.ishl, 1) := by decide +kernel
theorem dX4_attack_21 : decode cX4_attack 21 = .ok (.ixor, 1) := by decide +kernel
theorem dX4_attack_22 : decode cX4_attack 22 = .ok (.iastore, 1) := by decide +kernel
theorem dX4_attack_23 : decode cX4_attack 23 = .ok (.aload_n 0, 1) := by decide +kernel
theorem dX4_attack_24 : decode cX4_attack 24 = .ok (.getfield 32, 3) := by decide +kernel
theorem dX4_attack_27 : decode cX4_attack 27 = .ok (.iload_n 2, 1) := by decide +kernel
theorem dX4_attack_28 : decode cX4_attack 28 = .ok (.iaload, 1) := by decide +kernel
theorem dX4_attack_29 : decode cX4_attack 29 = .ok (.iload_n 1, 1) := by decide +kernel
theorem dX4_attack_30 : decode cX4_attack 30 = .ok (.ishr, 1) := by decide +kernel
theorem dX4_attack_31 : decode cX4_attack 31 = .ok (.iconst 1, 1) := by decide +kernel
theorem dX4_attack_32 : decode cX4_attack 32 = .ok (.iand, 1) := by decide +kernel
theorem dX4_attack_33 : decode cX4_attack 33 = .ok (.iconst 1, 1) := by decide +kernel
theorem dX4_attack_34 : decode cX4_attack 34 = .ok (.if_icmp .ne 7, 3) := by decide +kernel
theorem dX4_attack_37 : decode cX4_attack 37 = .ok (.iconst 1, 1) := by decide +kernel
theorem dX4_attack_38 : decode cX4_attack 38 = .ok (.goto 4, 3) := by decide +kernel
theorem dX4_attack_41 : decode cX4_attack 41 = .ok (.iconst 0, 1) := by decide +kernel
theorem dX4_attack_42 : decode cX4_attack 42 = .ok (.ireturn, 1) := by decide +kernel
theorem dX4_claims_0 : decode cX4_claims 0 = .ok (.aload_n 0, 1) := by decide +kernel
theorem dX4_claims_1 : decode cX4_claims 1 = .ok (.iconst 0, 1) := by decide +kernel
theorem dX4_claims_2 : decode cX4_claims 2 = .ok (.putfield 41, 3) := by decide +kernel
theorem dX4_claims_5 : decode cX4_claims 5 = .ok (.aload_n 0, 1) := by decide +kernel
theorem dX4_claims_6 : decode cX4_claims 6 = .ok (.getfield 52, 3) := by decide +kernel
theorem dX4_claims_9 : decode cX4_claims 9 = .ok (.ireturn, 1) := by decide +kernel
set_option maxRecDepth 20000 in
theorem ggX4_asks_X4_isClaim : GoodIn wsX4_asks wsX4_isClaim := goodIn_r _ [5, 6, 7, 8, 4, 9, 15, 16, 17, 18, 19, 20, 21, 22, 23, 24, 25, 26, 27, 28, 29] (by decide +kernel) (by decide +kernel)
set_option maxRecDepth 20000 in
theorem gX4_asks_X4_isClaim : GoodIn wsX4_asks (wsV RX4 74 RX4 yX4_isClaim wsX4_isClaim) := goodIn_app (goodIn_of _ (by decide +kernel)) ggX4_asks_X4_isClaim
set_option maxRecDepth 20000 in
theorem ggX4_asks_X4_goes : GoodIn wsX4_asks wsX4_goes := goodIn_r _ [13, 14, 15, 16, 17, 18, 19, 20, 21, 22, 23, 24, 25, 26, 27, 28, 29] (by decide +kernel) (by decide +kernel)
set_option maxRecDepth 20000 in
theorem gX4_asks_X4_goes : GoodIn wsX4_asks (wsV RX4 59 RX4 yX4_goes wsX4_goes) := goodIn_app (goodIn_of _ (by decide +kernel)) ggX4_asks_X4_goes
theorem dX4_asks_0 : decode cX4_asks 0 = .ok (.aload_n 0, 1) := by decide +kernel
theorem dX4_asks_1 : decode cX4_asks 1 = .ok (.aload_n 0, 1) := by decide +kernel
theorem dX4_asks_2 : decode cX4_asks 2 = .ok (.iload_n 1, 1) := by decide +kernel
theorem dX4_asks_3 : decode cX4_asks 3 = .ok (.invokevirtual 74, 3) := by decide +kernel
theorem dX4_asks_6 : decode cX4_asks 6 = .ok (.ifCond .eq 7, 3) := by decide +kernel
theorem dX4_asks_9 : decode cX4_asks 9 = .ok (.iconst 0, 1) := by decide +kernel
theorem dX4_asks_10 : decode cX4_asks 10 = .ok (.goto 4, 3) := by decide +kernel
theorem dX4_asks_13 : decode cX4_asks 13 = .ok (.iconst 1, 1) := by decide +kernel
theorem dX4_asks_14 : decode cX4_asks 14 = .ok (.invokevirtual 59, 3) := by decide +kernel
theorem dX4_asks_17 : decode cX4_asks 17 = .ok (.ireturn, 1) := by decide +kernel
set_option maxRecDepth 20000 in
theorem ggX4_playerOf_X4_asks : GoodIn wsX4_playerOf wsX4_asks := goodIn_r _ [6, 7, 8, 9, 5, 10, 11, 12, 13, 14, 15, 16, 17, 18, 19, 20, 21, 22, 23, 24, 25, 26, 27, 28, 29, 30, 31, 32, 33, 34] (by decide +kernel) (by decide +kernel)
set_option maxRecDepth 20000 in
theorem gX4_playerOf_X4_asks : GoodIn wsX4_playerOf (wsV RX4 81 RX4 yX4_asks wsX4_asks) := goodIn_app (goodIn_of _ (by decide +kernel)) ggX4_playerOf_X4_asks
theorem dX4_playerOf_0 : decode cX4_playerOf 0 = .ok (.aload_n 0, 1) := by decide +kernel
theorem dX4_playerOf_1 : decode cX4_playerOf 1 = .ok (.iload_n 1, 1) := by decide +kernel
theorem dX4_playerOf_2 : decode cX4_playerOf 2 = .ok (.invokevirtual 81, 3) := by decide +kernel
theorem dX4_playerOf_5 : decode cX4_playerOf 5 = .ok (.ifCond .eq 12, 3) := by decide +kernel
theorem dX4_playerOf_8 : decode cX4_playerOf 8 = .ok (.aload_n 0, 1) := by decide +kernel
theorem dX4_playerOf_9 : decode cX4_playerOf 9 = .ok (.getfield 23, 3) := by decide +kernel
theorem dX4_playerOf_12 : decode cX4_playerOf 12 = .ok (.iload_n 1, 1) := by decide +kernel
theorem dX4_playerOf_13 : decode cX4_playerOf 13 = .ok (.iaload, 1) := by decide +kernel
theorem dX4_playerOf_14 : decode cX4_playerOf 14 = .ok (.goto 4, 3) := by decide +kernel
theorem dX4_playerOf_17 : decode cX4_playerOf 17 = .ok (.iconst 0, 1) := by decide +kernel
theorem dX4_playerOf_18 : decode cX4_playerOf 18 = .ok (.ireturn, 1) := by decide +kernel
theorem dX4_turn_0 : decode cX4_turn 0 = .ok (.aload_n 0, 1) := by decide +kernel
theorem dX4_turn_1 : decode cX4_turn 1 = .ok (.iconst 0, 1) := by decide +kernel
theorem dX4_turn_2 : decode cX4_turn 2 = .ok (.putfield 41, 3) := by decide +kernel
theorem dX4_turn_5 : decode cX4_turn 5 = .ok (.aload_n 0, 1) := by decide +kernel
theorem dX4_turn_6 : decode cX4_turn 6 = .ok (.getfield 68, 3) := by decide +kernel
theorem dX4_turn_9 : decode cX4_turn 9 = .ok (.ireturn, 1) := by decide +kernel
set_option maxRecDepth 20000 in
theorem ggX4_asksPlayer_X4_isPlayer : GoodIn wsX4_asksPlayer wsX4_isPlayer := goodIn_r _ [4, 5, 6, 3, 7] (by decide +kernel) (by decide +kernel)
set_option maxRecDepth 20000 in
theorem gX4_asksPlayer_X4_isPlayer : GoodIn wsX4_asksPlayer (va_wsS RX4 84 yX4_isPlayer wsX4_isPlayer) := goodIn_app (goodIn_of _ (by decide +kernel)) ggX4_asksPlayer_X4_isPlayer
set_option maxRecDepth 20000 in
theorem ggX4_asksPlayer_X4_goes : GoodIn wsX4_asksPlayer wsX4_goes := goodIn_r _ [11, 12, 13, 14, 15, 16, 17, 18, 19, 20, 21, 22, 23, 24, 25, 26, 27] (by decide +kernel) (by decide +kernel)
set_option maxRecDepth 20000 in
theorem gX4_asksPlayer_X4_goes : GoodIn wsX4_asksPlayer (wsV RX4 59 RX4 yX4_goes wsX4_goes) := goodIn_app (goodIn_of _ (by decide +kernel)) ggX4_asksPlayer_X4_goes
theorem dX4_asksPlayer_0 : decode cX4_asksPlayer 0 = .ok (.aload_n 0, 1) := by decide +kernel
theorem dX4_asksPlayer_1 : decode cX4_asksPlayer 1 = .ok (.iload_n 1, 1) := by decide +kernel
theorem dX4_asksPlayer_2 : decode cX4_asksPlayer 2 = .ok (.invokestatic 84, 3) := by decide +kernel
theorem dX4_asksPlayer_5 : decode cX4_asksPlayer 5 = .ok (.ifCond .eq 7, 3) := by decide +kernel
theorem dX4_asksPlayer_8 : decode cX4_asksPlayer 8 = .ok (.iconst 0, 1) := by decide +kernel
theorem dX4_asksPlayer_9 : decode cX4_asksPlayer 9 = .ok (.goto 4, 3) := by decide +kernel
theorem dX4_asksPlayer_12 : decode cX4_asksPlayer 12 = .ok (.iconst 1, 1) := by decide +kernel
theorem dX4_asksPlayer_13 : decode cX4_asksPlayer 13 = .ok (.invokevirtual 59, 3) := by decide +kernel
theorem dX4_asksPlayer_16 : decode cX4_asksPlayer 16 = .ok (.ireturn, 1) := by decide +kernel
set_option maxRecDepth 20000 in
theorem ggX4_bank_X4_asksPlayer : GoodIn wsX4_bank wsX4_asksPlayer := goodIn_r _ [6, 7, 8, 5, 9, 10, 11, 12, 13, 14, 15, 16, 17, 18, 19, 20, 21, 22, 23, 24, 25, 26, 27, 28, 29, 30, 31, 32] (by decide +kernel) (by decide +kernel)
set_option maxRecDepth 20000 in
theorem gX4_bank_X4_asksPlayer : GoodIn wsX4_bank (wsV RX4 87 RX4 yX4_asksPlayer wsX4_asksPlayer) := goodIn_app (goodIn_of _ (by decide +kernel)) ggX4_bank_X4_asksPlayer
theorem dX4_bank_0 : decode cX4_bank 0 = .ok (.aload_n 0, 1) := by decide +kernel
theorem dX4_bank_1 : decode cX4_bank 1 = .ok (.iload_n 1, 1) := by decide +kernel
theorem dX4_bank_2 : decode cX4_bank 2 = .ok (.invokevirtual 87, 3) := by decide +kernel
theorem dX4_bank_5 : decode cX4_bank 5 = .ok (.ifCond .eq 12, 3) := by decide +kernel
theorem dX4_bank_8 : decode cX4_bank 8 = .ok (.aload_n 0, 1) := by decide +kernel
theorem dX4_bank_9 : decode cX4_bank 9 = .ok (.getfield 20, 3) := by decide +kernel
theorem dX4_bank_12 : decode cX4_bank 12 = .ok (.iload_n 1, 1) := by decide +kernel
theorem dX4_bank_13 : decode cX4_bank 13 = .ok (.iaload, 1) := by decide +kernel
theorem dX4_bank_14 : decode cX4_bank 14 = .ok (.goto 4, 3) := by decide +kernel
theorem dX4_bank_17 : decode cX4_bank 17 = .ok (.iconst 0, 1) := by decide +kernel
theorem dX4_bank_18 : decode cX4_bank 18 = .ok (.ireturn, 1) := by decide +kernel
theorem dX4_have_0 : decode cX4_have 0 = .ok (.iload_n 3, 1) := by decide +kernel
theorem dX4_have_1 : decode cX4_have 1 = .ok (.istore 4, 2) := by decide +kernel
theorem dX4_have_3 : decode cX4_have 3 = .ok (.iconst 0, 1) := by decide +kernel
theorem dX4_have_4 : decode cX4_have 4 = .ok (.istore 5, 2) := by decide +kernel
theorem dX4_have_6 : decode cX4_have 6 = .ok (.iload 5, 2) := by decide +kernel
theorem dX4_have_8 : decode cX4_have 8 = .ok (.aload_n 0, 1) := by decide +kernel
theorem dX4_have_9 : decode cX4_have 9 = .ok (.getfield 52, 3) := by decide +kernel
theorem dX4_have_12 : decode cX4_have 12 = .ok (.if_icmp .ge 76, 3) := by decide +kernel
theorem dX4_have_15 : decode cX4_have 15 = .ok (.aload_n 0, 1) := by decide +kernel
theorem dX4_have_16 : decode cX4_have 16 = .ok (.getfield 35, 3) := by decide +kernel
theorem dX4_have_19 : decode cX4_have 19 = .ok (.iload 5, 2) := by decide +kernel
theorem dX4_have_21 : decode cX4_have 21 = .ok (.iaload, 1) := by decide +kernel
theorem dX4_have_22 : decode cX4_have 22 = .ok (.iload_n 2, 1) := by decide +kernel
theorem dX4_have_23 : decode cX4_have 23 = .ok (.if_icmp .ne 7, 3) := by decide +kernel
theorem dX4_have_26 : decode cX4_have 26 = .ok (.iconst 1, 1) := by decide +kernel
theorem dX4_have_27 : decode cX4_have 27 = .ok (.goto 4, 3) := by decide +kernel
theorem dX4_have_30 : decode cX4_have 30 = .ok (.iconst 0, 1) := by decide +kernel
theorem dX4_have_31 : decode cX4_have 31 = .ok (.istore 6, 2) := by decide +kernel
theorem dX4_have_33 : decode cX4_have 33 = .ok (.iload_n 1, 1) := by decide +kernel
theorem dX4_have_34 : decode cX4_have 34 = .ok (.iload 5, 2) := by decide +kernel
theorem dX4_have_36 : decode cX4_have 36 = .ok (.ishr, 1) := by decide +kernel
theorem dX4_have_37 : decode cX4_have 37 = .ok (.iconst 1, 1) := by decide +kernel
theorem dX4_have_38 : decode cX4_have 38 = .ok (.iand, 1) := by decide +kernel
theorem dX4_have_39 : decode cX4_have 39 = .ok (.iconst 1, 1) := by decide +kernel
theorem dX4_have_40 : decode cX4_have 40 = .ok (.if_icmp .ne 42, 3) := by decide +kernel
theorem dX4_have_43 : decode cX4_have 43 = .ok (.iload_n 3, 1) := by decide +kernel
theorem dX4_have_44 : decode cX4_have 44 = .ok (.ifCond .eq 21, 3) := by decide +kernel
theorem dX4_have_47 : decode cX4_have 47 = .ok (.iload 4, 2) := by decide +kernel
theorem dX4_have_49 : decode cX4_have 49 = .ok (.ifCond .eq 12, 3) := by decide +kernel
theorem dX4_have_52 : decode cX4_have 52 = .ok (.iload 6, 2) := by decide +kernel
theorem dX4_have_54 : decode cX4_have 54 = .ok (.ifCond .eq 7, 3) := by decide +kernel
theorem dX4_have_57 : decode cX4_have 57 = .ok (.iconst 1, 1) := by decide +kernel
theorem dX4_have_58 : decode cX4_have 58 = .ok (.goto 22, 3) := by decide +kernel
theorem dX4_have_61 : decode cX4_have 61 = .ok (.iconst 0, 1) := by decide +kernel
theorem dX4_have_62 : decode cX4_have 62 = .ok (.goto 18, 3) := by decide +kernel
theorem dX4_have_65 : decode cX4_have 65 = .ok (.iload 4, 2) := by decide +kernel
theorem dX4_have_67 : decode cX4_have 67 = .ok (.ifCond .ne 8, 3) := by decide +kernel
theorem dX4_have_70 : decode cX4_have 70 = .ok (.iload 6, 2) := by decide +kernel
theorem dX4_have_72 : decode cX4_have 72 = .ok (.ifCond .eq 7, 3) := by decide +kernel
theorem dX4_have_75 : decode cX4_have 75 = .ok (.iconst 1, 1) := by decide +kernel
theorem dX4_have_76 : decode cX4_have 76 = .ok (.goto 4, 3) := by decide +kernel
theorem dX4_have_79 : decode cX4_have 79 = .ok (.iconst 0, 1) := by decide +kernel
theorem dX4_have_80 : decode cX4_have 80 = .ok (.istore 4, 2) := by decide +kernel
theorem dX4_have_82 : decode cX4_have 82 = .ok (.iinc 5 1, 3) := by decide +kernel
theorem dX4_have_85 : decode cX4_have 85 = .ok (.goto (-79), 3) := by decide +kernel
theorem dX4_have_88 : decode cX4_have 88 = .ok (.iload 4, 2) := by decide +kernel
theorem dX4_have_90 : decode cX4_have 90 = .ok (.ireturn, 1) := by decide +kernel
set_option maxRecDepth 20000 in
theorem ggX4_decides_X4_have : GoodIn wsX4_decides wsX4_have := goodIn_r _ [10, 1, 2, 11, 12, 13, 14, 15, 16, 17, 18, 19, 20, 21, 22, 23, 24, 25] (by decide +kernel) (by decide +kernel)
set_option maxRecDepth 20000 in
theorem gX4_decides_X4_have : GoodIn wsX4_decides (wsV RX4 90 RX4 yX4_have wsX4_have) := goodIn_app (goodIn_of _ (by decide +kernel)) ggX4_decides_X4_have
theorem dX4_decides_0 : decode cX4_decides 0 = .ok (.iconst 0, 1) := by decide +kernel
theorem dX4_decides_1 : decode cX4_decides 1 = .ok (.istore_n 2, 1) := by decide +kernel
theorem dX4_decides_2 : decode cX4_decides 2 = .ok (.iload_n 2, 1) := by decide +kernel
theorem dX4_decides_3 : decode cX4_decides 3 = .ok (.aload_n 0, 1) := by decide +kernel
theorem dX4_decides_4 : decode cX4_decides 4 = .ok (.getfield 52, 3) := by decide +kernel
theorem dX4_decides_7 : decode cX4_decides 7 = .ok (.if_icmp .ge 16, 3) := by decide +kernel
theorem dX4_decides_10 : decode cX4_decides 10 = .ok (.aload_n 0, 1) := by decide +kernel
theorem dX4_decides_11 : decode cX4_decides 11 = .ok (.getfield 35, 3) := by decide +kernel
theorem dX4_decides_14 : decode cX4_decides 14 = .ok (.iload_n 2, 1) := by decide +kernel
theorem dX4_decides_15 : decode cX4_decides 15 = .ok (.iconst 0, 1) := by decide +kernel
theorem dX4_decides_16 : decode cX4_decides 16 = .ok (.iastore, 1) := by decide +kernel
theorem dX4_decides_17 : decode cX4_decides 17 = .ok (.iinc 2 1, 3) := by decide +kernel
theorem dX4_decides_20 : decode cX4_decides 20 = .ok (.goto (-18), 3) := by decide +kernel
theorem dX4_decides_23 : decode cX4_decides 23 = .ok (.iconst 1, 1) := by decide +kernel
theorem dX4_decides_24 : decode cX4_decides 24 = .ok (.istore_n 2, 1) := by decide +kernel
theorem dX4_decides_25 : decode cX4_decides 25 = .ok (.iload_n 2, 1) := by decide +kernel
theorem dX4_decides_26 : decode cX4_decides 26 = .ok (.ifCond .eq 150, 3) := by decide +kernel
theorem dX4_decides_29 : decode cX4_decides 29 = .ok (.iconst 0, 1) := by decide +kernel
theorem dX4_decides_30 : decode cX4_decides 30 = .ok (.istore_n 2, 1) := by decide +kernel
theorem dX4_decides_31 : decode cX4_decides 31 = .ok (.iconst 0, 1) := by decide +kernel
theorem dX4_decides_32 : decode cX4_decides 32 = .ok (.istore_n 3, 1) := by decide +kernel
theorem dX4_decides_33 : decode cX4_decides 33 = .ok (.iload_n 3, 1) := by decide +kernel
theorem dX4_decides_34 : decode cX4_decides 34 = .ok (.aload_n 0, 1) := by decide +kernel
theorem dX4_decides_35 : decode cX4_decides 35 = .ok (.getfield 52, 3) := by decide +kernel
theorem dX4_decides_38 : decode cX4_decides 38 = .ok (.if_icmp .ge 135, 3) := by decide +kernel
theorem dX4_decides_41 : decode cX4_decides 41 = .ok (.aload_n 0, 1) := by decide +kernel
theorem dX4_decides_42 : decode cX4_decides 42 = .ok (.getfield 26, 3) := by decide +kernel
theorem dX4_decides_45 : decode cX4_decides 45 = .ok (.iload_n 3, 1) := by decide +kernel
theorem dX4_decides_46 : decode cX4_decides 46 = .ok (.iaload, 1) := by decide +kernel
theorem dX4_decides_47 : decode cX4_decides 47 = .ok (.iload_n 1, 1) := by decide +kernel
theorem dX4_decides_48 : decode cX4_decides 48 = .ok (.iconst (-1), 1) := by decide +kernel
theorem dX4_decides_49 : decode cX4_decides 49 = .ok (.ixor, 1) := by decide +kernel
theorem dX4_decides_50 : decode cX4_decides 50 = .ok (.iand, 1) := by decide +kernel
theorem dX4_decides_51 : decode cX4_decides 51 = .ok (.ifCond .ne 7, 3) := by decide +kernel
theorem dX4_decides_54 : decode cX4_decides 54 = .ok (.iconst 1, 1) := by decide +kernel
theorem dX4_decides_55 : decode cX4_decides 55 = .ok (.goto 4, 3) := by decide +kernel
theorem dX4_decides_58 : decode cX4_decides 58 = .ok (.iconst 0, 1) := by decide +kernel
theorem dX4_decides_59 : decode cX4_decides 59 = .ok (.istore 4, 2) := by decide +kernel
theorem dX4_decides_61 : decode cX4_decides 61 = .ok (.aload_n 0, 1) := by decide +kernel
theorem dX4_decides_62 : decode cX4_decides 62 = .ok (.getfield 35, 3) := by decide +kernel
theorem dX4_decides_65 : decode cX4_decides 65 = .ok (.iload_n 3, 1) := by decide +kernel
theorem dX4_decides_66 : decode cX4_decides 66 = .ok (.iaload, 1) := by decide +kernel
theorem dX4_decides_67 : decode cX4_decides 67 = .ok (.ifCond .ne 47, 3) := by decide +kernel
theorem dX4_decides_70 : decode cX4_decides 70 = .ok (.iload 4, 2) := by decide +kernel
theorem dX4_decides_72 : decode cX4_decides 72 = .ok (.ifCond .eq 42, 3) := by decide +kernel
theorem dX4_decides_75 : decode cX4_decides 75 = .ok (.aload_n 0, 1) := by decide +kernel
theorem dX4_decides_76 : decode cX4_decides 76 = .ok (.aload_n 0, 1) := by decide +kernel
theorem dX4_decides_77 : decode cX4_decides 77 = .ok (.getfield 29, 3) := by decide +kernel
theorem dX4_decides_80 : decode cX4_decides 80 = .ok (.iload_n 3, 1) := by decide +kernel
theorem dX4_decides_81 : decode cX4_decides 81 = .ok (.iaload, 1) := by decide +kernel
theorem dX4_decides_82 : decode cX4_decides 82 = .ok (.iconst 1, 1) := by decide +kernel
theorem dX4_decides_83 : decode cX4_decides 83 = .ok (.iconst 1, 1) := by decide +kernel
theorem dX4_decides_84 : decode cX4_decides 84 = .ok (.invokevirtual 90, 3) := by decide +kernel
theorem dX4_decides_87 : decode cX4_decides 87 = .ok (.ifCond .eq 27, 3) := by decide +kernel
theorem dX4_decides_90 : decode cX4_decides 90 = .ok (.aload_n 0, 1) := by decide +kernel
theorem dX4_decides_91 : decode cX4_decides 91 = .ok (.aload_n 0, 1) := by decide +kernel
theorem dX4_decides_92 : decode cX4_decides 92 = .ok (.getfield 32, 3) := by decide +kernel
theorem dX4_decides_95 : decode cX4_decides 95 = .ok (.iload_n 3, 1) := by decide +kernel
theorem dX4_decides_96 : decode cX4_decides 96 = .ok (.iaload, 1) := by decide +kernel
theorem dX4_decides_97 : decode cX4_decides 97 = .ok (.iconst 2, 1) := by decide +kernel
theorem dX4_decides_98 : decode cX4_decides 98 = .ok (.iconst 1, 1) := by decide +kernel
theorem dX4_decides_99 : decode cX4_decides 99 = .ok (.invokevirtual 90, 3) := by decide +kernel
theorem dX4_decides_102 : decode cX4_decides 102 = .ok (.ifCond .eq 12, 3) := by decide +kernel
theorem dX4_decides_105 : decode cX4_decides 105 = .ok (.aload_n 0, 1) := by decide +kernel
theorem dX4_decides_106 : decode cX4_decides 106 = .ok (.getfield 35, 3) := by decide +kernel
theorem dX4_decides_109 : decode cX4_decides 109 = .ok (.iload_n 3, 1) := by decide +kernel
theorem dX4_decides_110 : decode cX4_decides 110 = .ok (.iconst 1, 1) := by decide +kernel
theorem dX4_decides_111 : decode cX4_decides 111 = .ok (.iastore, 1) := by decide +kernel
theorem dX4_decides_112 : decode cX4_decides 112 = .ok (.iconst 1, 1) := by decide +kernel
theorem dX4_decides_113 : decode cX4_decides 113 = .ok (.istore_n 2, 1) := by decide +kernel
theorem dX4_decides_114 : decode cX4_decides 114 = .ok (.aload_n 0, 1) := by decide +kernel
theorem dX4_decides_115 : decode cX4_decides 115 = .ok (.getfield 35, 3) := by decide +kernel
theorem dX4_decides_118 : decode cX4_decides 118 = .ok (.iload_n 3, 1) := by decide +kernel
theorem dX4_decides_119 : decode cX4_decides 119 = .ok (.iaload, 1) := by decide +kernel
theorem dX4_decides_120 : decode cX4_decides 120 = .ok (.ifCond .ne 47, 3) := by decide +kernel
theorem dX4_decides_123 : decode cX4_decides 123 = .ok (.iload 4, 2) := by decide +kernel
theorem dX4_decides_125 : decode cX4_decides 125 = .ok (.ifCond .eq 33, 3) := by decide +kernel
theorem dX4_decides_128 : decode cX4_decides 128 = .ok (.aload_n 0, 1) := by decide +kernel
theorem dX4_decides_129 : decode cX4_decides 129 = .ok (.aload_n 0, 1) := by decide +kernel
theorem dX4_decides_130 : decode cX4_decides 130 = .ok (.getfield 29, 3) := by decide +kernel
theorem dX4_decides_133 : decode cX4_decides 133 = .ok (.iload_n 3, 1) := by decide +kernel
theorem dX4_decides_134 : decode cX4_decides 134 = .ok (.iaload, 1) := by decide +kernel
theorem dX4_decides_135 : decode cX4_decides 135 = .ok (.iconst 2, 1) := by decide +kernel
theorem dX4_decides_136 : decode cX4_decides 136 = .ok (.iconst 0, 1) := by decide +kernel
theorem dX4_decides_137 : decode cX4_decides 137 = .ok (.invokevirtual 90, 3) := by decide +kernel
theorem dX4_decides_140 : decode cX4_decides 140 = .ok (.ifCond .ne 18, 3) := by decide +kernel
theorem dX4_decides_143 : decode cX4_decides 143 = .ok (.aload_n 0, 1) := by decide +kernel
theorem dX4_decides_144 : decode cX4_decides 144 = .ok (.aload_n 0, 1) := by decide +kernel
theorem dX4_decides_145 : decode cX4_decides 145 = .ok (.getfield 32, 3) := by decide +kernel
theorem dX4_decides_148 : decode cX4_decides 148 = .ok (.iload_n 3, 1) := by decide +kernel
theorem dX4_decides_149 : decode cX4_decides 149 = .ok (.iaload, 1) := by decide +kernel
theorem dX4_decides_150 : decode cX4_decides 150 = .ok (.iconst 1, 1) := by decide +kernel
theorem dX4_decides_151 : decode cX4_decides 151 = .ok (.iconst 0, 1) := by decide +kernel
theorem dX4_decides_152 : decode cX4_decides 152 = .ok (.invokevirtual 90, 3) := by decide +kernel
theorem dX4_decides_155 : decode cX4_decides 155 = .ok (.ifCond .eq 12, 3) := by decide +kernel
theorem dX4_decides_158 : decode cX4_decides 158 = .ok (.aload_n 0, 1) := by decide +kernel
theorem dX4_decides_159 : decode cX4_decides 159 = .ok (.getfield 35, 3) := by decide +kernel
theorem dX4_decides_162 : decode cX4_decides 162 = .ok (.iload_n 3, 1) := by decide +kernel
theorem dX4_decides_163 : decode cX4_decides 163 = .ok (.iconst 2, 1) := by decide +kernel
theorem dX4_decides_164 : decode cX4_decides 164 = .ok (.iastore, 1) := by decide +kernel
theorem dX4_decides_165 : decode cX4_decides 165 = .ok (.iconst 1, 1) := by decide +kernel
theorem dX4_decides_166 : decode cX4_decides 166 = .ok (.istore_n 2, 1) := by decide +kernel
theorem dX4_decides_167 : decode cX4_decides 167 = .ok (.iinc 3 1, 3) := by decide +kernel
theorem dX4_decides_170 : decode cX4_decides 170 = .ok (.goto (-137), 3) := by decide +kernel
theorem dX4_decides_173 : decode cX4_decides 173 = .ok (.goto (-148), 3) := by decide +kernel
theorem dX4_decides_176 : decode cX4_decides 176 = .ok (.return_, 1) := by decide +kernel
set_option maxRecDepth 20000 in
theorem ggX4_stateNow_X4_asks : GoodIn wsX4_stateNow wsX4_asks := goodIn_r _ [6, 7, 8, 9, 5, 10, 11, 12, 13, 14, 15, 16, 17, 18, 19, 43, 44, 45, 46, 47, 48, 49, 50, 51, 52, 53, 54, 55, 56, 57] (by decide +kernel) (by decide +kernel)
set_option maxRecDepth 20000 in
theorem gX4_stateNow_X4_asks : GoodIn wsX4_stateNow (wsV RX4 81 RX4 yX4_asks wsX4_asks) := goodIn_app (goodIn_of _ (by decide +kernel)) ggX4_stateNow_X4_asks
set_option maxRecDepth 20000 in
theorem ggX4_stateNow_X4_standing : GoodIn wsX4_stateNow wsX4_standing := goodIn_r _ [23, 24, 25, 26, 27, 5, 28, 29, 30, 31, 43, 44, 45, 46, 47, 48, 49, 50, 51, 52, 53, 54, 55, 56, 57] (by decide +kernel) (by decide +kernel)
set_option maxRecDepth 20000 in
theorem gX4_stateNow_X4_standing : GoodIn wsX4_stateNow (wsV RX4 94 RX4 yX4_standing wsX4_standing) := goodIn_app (goodIn_of _ (by decide +kernel)) ggX4_stateNow_X4_standing
set_option maxRecDepth 20000 in
theorem ggX4_stateNow_X4_decides : GoodIn wsX4_stateNow wsX4_decides := goodIn_r _ [35, 11, 1, 36, 37, 38, 39, 40, 41, 5, 42, 43, 44, 45, 46, 47, 48, 49, 50, 51, 52, 53, 54, 55, 56, 57] (by decide +kernel) (by decide +kernel)
set_option maxRecDepth 20000 in
theorem gX4_stateNow_X4_decides : GoodIn wsX4_stateNow (wsV RX4 98 RX4 yX4_decides wsX4_decides) := goodIn_app (goodIn_of _ (by decide +kernel)) ggX4_stateNow_X4_decides
theorem dX4_stateNow_0 : decode cX4_stateNow 0 = .ok (.aload_n 0, 1) := by decide +kernel
theorem dX4_stateNow_1 : decode cX4_stateNow 1 = .ok (.iload_n 1, 1) := by decide +kernel
theorem dX4_stateNow_2 : decode cX4_stateNow 2 = .ok (.invokevirtual 81, 3) := by decide +kernel
theorem dX4_stateNow_5 : decode cX4_stateNow 5 = .ok (.ifCond .ne 5, 3) := by decide +kernel
theorem dX4_stateNow_8 : decode cX4_stateNow 8 = .ok (.iconst 0, 1) := by decide +kernel
theorem dX4_stateNow_9 : decode cX4_stateNow 9 = .ok (.ireturn, 1) := by decide +kernel
theorem dX4_stateNow_10 : decode cX4_stateNow 10 = .ok (.aload_n 0, 1) := by decide +kernel
theorem dX4_stateNow_11 : decode cX4_stateNow 11 = .ok (.aload_n 0, 1) := by decide +kernel
theorem dX4_stateNow_12 : decode cX4_stateNow 12 = .ok (.iconst (-1), 1) := by decide +kernel
theorem dX4_stateNow_13 : decode cX4_stateNow 13 = .ok (.invokevirtual 94, 3) := by decide +kernel
theorem dX4_stateNow_16 : decode cX4_stateNow 16 = .ok (.invokevirtual 98, 3) := by decide +kernel
theorem dX4_stateNow_19 : decode cX4_stateNow 19 = .ok (.aload_n 0, 1) := by decide +kernel
theorem dX4_stateNow_20 : decode cX4_stateNow 20 = .ok (.getfield 35, 3) := by decide +kernel
theorem dX4_stateNow_23 : decode cX4_stateNow 23 = .ok (.iload_n 1, 1) := by decide +kernel
theorem dX4_stateNow_24 : decode cX4_stateNow 24 = .ok (.iaload, 1) := by decide +kernel
theorem dX4_stateNow_25 : decode cX4_stateNow 25 = .ok (.ireturn, 1) := by decide +kernel
set_option maxRecDepth 20000 in
theorem ggX4_stateOf_X4_stateNow : GoodIn wsX4_stateOf wsX4_stateNow := goodIn_r _ [5, 6, 7, 8, 9, 4, 10, 11, 12, 13, 14, 15, 16, 17, 18, 19, 20, 21, 22, 23, 24, 25, 26, 27, 28, 29, 30, 31, 32, 33, 34, 35, 36, 37, 38, 39, 40, 41, 42, 43, 44, 45, 46, 47, 48, 49, 50, 51, 52, 53, 54, 55, 56, 57, 58, 59, 60, 61] (by decide +kernel) (by decide +kernel)
set_option maxRecDepth 20000 in
theorem gX4_stateOf_X4_stateNow : GoodIn wsX4_stateOf (wsV RX4 102 RX4 yX4_stateNow wsX4_stateNow) := goodIn_app (goodIn_of _ (by decide +kernel)) ggX4_stateOf_X4_stateNow
theorem dX4_stateOf_0 : decode cX4_stateOf 0 = .ok (.aload_n 0, 1) := by decide +kernel
theorem dX4_stateOf_1 : decode cX4_stateOf 1 = .ok (.iload_n 1, 1) := by decide +kernel
theorem dX4_stateOf_2 : decode cX4_stateOf 2 = .ok (.invokevirtual 102, 3) := by decide +kernel
theorem dX4_stateOf_5 : decode cX4_stateOf 5 = .ok (.ireturn, 1) := by decide +kernel
set_option maxRecDepth 20000 in
theorem ggX4_stateByRounds_X4_stateNow : GoodIn wsX4_stateByRounds wsX4_stateNow := goodIn_r _ [5, 6, 7, 8, 9, 4, 10, 11, 12, 13, 14, 15, 16, 17, 18, 19, 20, 21, 22, 23, 24, 25, 26, 27, 28, 29, 30, 31, 32, 33, 34, 35, 36, 37, 38, 39, 40, 41, 42, 43, 44, 45, 46, 47, 48, 49, 50, 51, 52, 53, 54, 55, 56, 57, 58, 59, 60, 61] (by decide +kernel) (by decide +kernel)
set_option maxRecDepth 20000 in
theorem gX4_stateByRounds_X4_stateNow : GoodIn wsX4_stateByRounds (wsV RX4 102 RX4 yX4_stateNow wsX4_stateNow) := goodIn_app (goodIn_of _ (by decide +kernel)) ggX4_stateByRounds_X4_stateNow
theorem dX4_stateByRounds_0 : decode cX4_stateByRounds 0 = .ok (.aload_n 0, 1) := by decide +kernel
theorem dX4_stateByRounds_1 : decode cX4_stateByRounds 1 = .ok (.iload_n 1, 1) := by decide +kernel
theorem dX4_stateByRounds_2 : decode cX4_stateByRounds 2 = .ok (.invokevirtual 102, 3) := by decide +kernel
theorem dX4_stateByRounds_5 : decode cX4_stateByRounds 5 = .ok (.ireturn, 1) := by decide +kernel
set_option maxRecDepth 20000 in
theorem ggX4_scored_X4_standing : GoodIn wsX4_scored wsX4_standing := goodIn_r _ [8, 9, 10, 11, 12, 7, 13, 14, 15, 16, 28, 29, 30, 31, 32, 33, 34, 35, 36, 37, 38, 39, 40, 41, 42] (by decide +kernel) (by decide +kernel)
set_option maxRecDepth 20000 in
theorem gX4_scored_X4_standing : GoodIn wsX4_scored (wsV RX4 94 RX4 yX4_standing wsX4_standing) := goodIn_app (goodIn_of _ (by decide +kernel)) ggX4_scored_X4_standing
set_option maxRecDepth 20000 in
theorem ggX4_scored_X4_decides : GoodIn wsX4_scored wsX4_decides := goodIn_r _ [20, 1, 3, 21, 22, 23, 24, 25, 26, 7, 27, 28, 29, 30, 31, 32, 33, 34, 35, 36, 37, 38, 39, 40, 41, 42] (by decide +kernel) (by decide +kernel)
set_option maxRecDepth 20000 in
theorem gX4_scored_X4_decides : GoodIn wsX4_scored (wsV RX4 98 RX4 yX4_decides wsX4_decides) := goodIn_app (goodIn_of _ (by decide +kernel)) ggX4_scored_X4_decides
theorem dX4_scored_0 : decode cX4_scored 0 = .ok (.aload_n 0, 1) := by decide +kernel
theorem dX4_scored_1 : decode cX4_scored 1 = .ok (.aload_n 0, 1) := by decide +kernel
theorem dX4_scored_2 : decode cX4_scored 2 = .ok (.iload_n 2, 1) := by decide +kernel
theorem dX4_scored_3 : decode cX4_scored 3 = .ok (.invokevirtual 94, 3) := by decide +kernel
theorem dX4_scored_6 : decode cX4_scored 6 = .ok (.invokevirtual 98, 3) := by decide +kernel
theorem dX4_scored_9 : decode cX4_scored 9 = .ok (.iconst 0, 1) := by decide +kernel
theorem dX4_scored_10 : decode cX4_scored 10 = .ok (.istore_n 3, 1) := by decide +kernel
theorem dX4_scored_11 : decode cX4_scored 11 = .ok (.iconst 0, 1) := by decide +kernel
theorem dX4_scored_12 : decode cX4_scored 12 = .ok (.istore 4, 2) := by decide +kernel
theorem dX4_scored_14 : decode cX4_scored 14 = .ok (.iload 4, 2) := by decide +kernel
theorem dX4_scored_16 : decode cX4_scored 16 = .ok (.aload_n 0, 1) := by decide +kernel
theorem dX4_scored_17 : decode cX4_scored 17 = .ok (.getfield 52, 3) := by decide +kernel
theorem dX4_scored_20 : decode cX4_scored 20 = .ok (.if_icmp .ge 39, 3) := by decide +kernel
theorem dX4_scored_23 : decode cX4_scored 23 = .ok (.iload_n 3, 1) := by decide +kernel
theorem dX4_scored_24 : decode cX4_scored 24 = .ok (.aload_n 0, 1) := by decide +kernel
theorem dX4_scored_25 : decode cX4_scored 25 = .ok (.getfield 23, 3) := by decide +kernel
theorem dX4_scored_28 : decode cX4_scored 28 = .ok (.iload 4, 2) := by decide +kernel
theorem dX4_scored_30 : decode cX4_scored 30 = .ok (.iaload, 1) := by decide +kernel
theorem dX4_scored_31 : decode cX4_scored 31 = .ok (.iload_n 1, 1) := by decide +kernel
theorem dX4_scored_32 : decode cX4_scored 32 = .ok (.if_icmp .ne 18, 3) := by decide +kernel
theorem dX4_scored_35 : decode cX4_scored 35 = .ok (.aload_n 0, 1) := by decide +kernel
theorem dX4_scored_36 : decode cX4_scored 36 = .ok (.getfield 35, 3) := by decide +kernel
theorem dX4_scored_39 : decode cX4_scored 39 = .ok (.iload 4, 2) := by decide +kernel
theorem dX4_scored_41 : decode cX4_scored 41 = .ok (.iaload, 1) := by decide +kernel
theorem dX4_scored_42 : decode cX4_scored 42 = .ok (.iconst 1, 1) := by decide +kernel
theorem dX4_scored_43 : decode cX4_scored 43 = .ok (.if_icmp .ne 7, 3) := by decide +kernel
theorem dX4_scored_46 : decode cX4_scored 46 = .ok (.iconst 1, 1) := by decide +kernel
theorem dX4_scored_47 : decode cX4_scored 47 = .ok (.goto 4, 3) := by decide +kernel
theorem dX4_scored_50 : decode cX4_scored 50 = .ok (.iconst 0, 1) := by decide +kernel
theorem dX4_scored_51 : decode cX4_scored 51 = .ok (.iadd, 1) := by decide +kernel
theorem dX4_scored_52 : decode cX4_scored 52 = .ok (.istore_n 3, 1) := by decide +kernel
theorem dX4_scored_53 : decode cX4_scored 53 = .ok (.iinc 4 1, 3) := by decide +kernel
theorem dX4_scored_56 : decode cX4_scored 56 = .ok (.goto (-42), 3) := by decide +kernel
theorem dX4_scored_59 : decode cX4_scored 59 = .ok (.iload_n 3, 1) := by decide +kernel
theorem dX4_scored_60 : decode cX4_scored 60 = .ok (.ireturn, 1) := by decide +kernel
set_option maxRecDepth 20000 in
theorem ggX4_score_X4_asksPlayer : GoodIn wsX4_score wsX4_asksPlayer := goodIn_r _ [5, 6, 7, 4, 8, 9, 10, 11, 12, 13, 14, 15, 16, 47, 48, 49, 50, 51, 52, 53, 54, 55, 56, 57, 58, 59, 60, 61] (by decide +kernel) (by decide +kernel)
set_option maxRecDepth 20000 in
theorem gX4_score_X4_asksPlayer : GoodIn wsX4_score (wsV RX4 87 RX4 yX4_asksPlayer wsX4_asksPlayer) := goodIn_app (goodIn_of _ (by decide +kernel)) ggX4_score_X4_asksPlayer
set_option maxRecDepth 20000 in
theorem ggX4_score_X4_scored : GoodIn wsX4_score wsX4_scored := goodIn_r _ [20, 21, 22, 23, 24, 25, 26, 4, 27, 28, 29, 30, 31, 32, 33, 34, 35, 36, 37, 38, 39, 40, 41, 42, 43, 44, 45, 46, 47, 48, 49, 50, 51, 52, 53, 54, 55, 56, 57, 58, 59, 60, 61] (by decide +kernel) (by decide +kernel)
set_option maxRecDepth 20000 in
theorem gX4_score_X4_scored : GoodIn wsX4_score (wsV RX4 105 RX4 yX4_scored wsX4_scored) := goodIn_app (goodIn_of _ (by decide +kernel)) ggX4_score_X4_scored
theorem dX4_score_0 : decode cX4_score 0 = .ok (.aload_n 0, 1) := by decide +kernel
theorem dX4_score_1 : decode cX4_score 1 = .ok (.iload_n 1, 1) := by decide +kernel
theorem dX4_score_2 : decode cX4_score 2 = .ok (.invokevirtual 87, 3) := by decide +kernel
theorem dX4_score_5 : decode cX4_score 5 = .ok (.ifCond .eq 12, 3) := by decide +kernel
theorem dX4_score_8 : decode cX4_score 8 = .ok (.aload_n 0, 1) := by decide +kernel
theorem dX4_score_9 : decode cX4_score 9 = .ok (.iload_n 1, 1) := by decide +kernel
theorem dX4_score_10 : decode cX4_score 10 = .ok (.iconst (-1), 1) := by decide +kernel
theorem dX4_score_11 : decode cX4_score 11 = .ok (.invokevirtual 105, 3) := by decide +kernel
theorem dX4_score_14 : decode cX4_score 14 = .ok (.goto 4, 3) := by decide +kernel
theorem dX4_score_17 : decode cX4_score 17 = .ok (.iconst 0, 1) := by decide +kernel
theorem dX4_score_18 : decode cX4_score 18 = .ok (.ireturn, 1) := by decide +kernel
set_option maxRecDepth 20000 in
theorem ggX4_scoreWithout_X4_isPlayer : GoodIn wsX4_scoreWithout wsX4_isPlayer := goodIn_r _ [4, 5, 6, 3, 7] (by decide +kernel) (by decide +kernel)
set_option maxRecDepth 20000 in
theorem gX4_scoreWithout_X4_isPlayer : GoodIn wsX4_scoreWithout (va_wsS RX4 84 yX4_isPlayer wsX4_isPlayer) := goodIn_app (goodIn_of _ (by decide +kernel)) ggX4_scoreWithout_X4_isPlayer
set_option maxRecDepth 20000 in
theorem ggX4_scoreWithout_X4_isFact : GoodIn wsX4_scoreWithout wsX4_isFact := goodIn_r _ [11, 12, 5, 6, 3, 7, 47, 48, 49, 50, 51, 52, 53, 54, 55, 56, 57, 58, 59, 60, 61] (by decide +kernel) (by decide +kernel)
set_option maxRecDepth 20000 in
theorem gX4_scoreWithout_X4_isFact : GoodIn wsX4_scoreWithout (wsV RX4 62 RX4 yX4_isFact wsX4_isFact) := goodIn_app (goodIn_of _ (by decide +kernel)) ggX4_scoreWithout_X4_isFact
set_option maxRecDepth 20000 in
theorem ggX4_scoreWithout_X4_goes : GoodIn wsX4_scoreWithout wsX4_goes := goodIn_r _ [16, 17, 47, 48, 49, 50, 51, 52, 53, 54, 55, 56, 57, 58, 59, 60, 61] (by decide +kernel) (by decide +kernel)
set_option maxRecDepth 20000 in
theorem gX4_scoreWithout_X4_goes : GoodIn wsX4_scoreWithout (wsV RX4 59 RX4 yX4_goes wsX4_goes) := goodIn_app (goodIn_of _ (by decide +kernel)) ggX4_scoreWithout_X4_goes
set_option maxRecDepth 20000 in
theorem ggX4_scoreWithout_X4_scored : GoodIn wsX4_scoreWithout wsX4_scored := goodIn_r _ [21, 22, 23, 24, 25, 26, 27, 3, 28, 12, 29, 30, 31, 32, 33, 34, 35, 36, 37, 38, 39, 40, 41, 42, 43, 44, 45, 46, 47, 48, 49, 50, 51, 52, 53, 54, 55, 56, 57, 58, 59, 60, 61] (by decide +kernel) (by decide +kernel)
set_option maxRecDepth 20000 in
theorem gX4_scoreWithout_X4_scored : GoodIn wsX4_scoreWithout (wsV RX4 105 RX4 yX4_scored wsX4_scored) := goodIn_app (goodIn_of _ (by decide +kernel)) ggX4_scoreWithout_X4_scored
theorem dX4_scoreWithout_0 : decode cX4_scoreWithout 0 = .ok (.aload_n 0, 1) := by decide +kernel
theorem dX4_scoreWithout_1 : decode cX4_scoreWithout 1 = .ok (.iload_n 1, 1) := by decide +kernel
theorem dX4_scoreWithout_2 : decode cX4_scoreWithout 2 = .ok (.invokestatic 84, 3) := by decide +kernel
theorem dX4_scoreWithout_5 : decode cX4_scoreWithout 5 = .ok (.ifCond .eq 15, 3) := by decide +kernel
theorem dX4_scoreWithout_8 : decode cX4_scoreWithout 8 = .ok (.aload_n 0, 1) := by decide +kernel
theorem dX4_scoreWithout_9 : decode cX4_scoreWithout 9 = .ok (.iload_n 2, 1) := by decide +kernel
theorem dX4_scoreWithout_10 : decode cX4_scoreWithout 10 = .ok (.invokevirtual 62, 3) := by decide +kernel
theorem dX4_scoreWithout_13 : decode cX4_scoreWithout 13 = .ok (.ifCond .eq 7, 3) := by decide +kernel
theorem dX4_scoreWithout_16 : decode cX4_scoreWithout 16 = .ok (.iconst 0, 1) := by decide +kernel
theorem dX4_scoreWithout_17 : decode cX4_scoreWithout 17 = .ok (.goto 4, 3) := by decide +kernel
theorem dX4_scoreWithout_20 : decode cX4_scoreWithout 20 = .ok (.iconst 1, 1) := by decide +kernel
theorem dX4_scoreWithout_21 : decode cX4_scoreWithout 21 = .ok (.invokevirtual 59, 3) := by decide +kernel
theorem dX4_scoreWithout_24 : decode cX4_scoreWithout 24 = .ok (.ifCond .eq 12, 3) := by decide +kernel
theorem dX4_scoreWithout_27 : decode cX4_scoreWithout 27 = .ok (.aload_n 0, 1) := by decide +kernel
theorem dX4_scoreWithout_28 : decode cX4_scoreWithout 28 = .ok (.iload_n 1, 1) := by decide +kernel
theorem dX4_scoreWithout_29 : decode cX4_scoreWithout 29 = .ok (.iload_n 2, 1) := by decide +kernel
theorem dX4_scoreWithout_30 : decode cX4_scoreWithout 30 = .ok (.invokevirtual 105, 3) := by decide +kernel
theorem dX4_scoreWithout_33 : decode cX4_scoreWithout 33 = .ok (.goto 4, 3) := by decide +kernel
theorem dX4_scoreWithout_36 : decode cX4_scoreWithout 36 = .ok (.iconst 0, 1) := by decide +kernel
theorem dX4_scoreWithout_37 : decode cX4_scoreWithout 37 = .ok (.ireturn, 1) := by decide +kernel
set_option maxRecDepth 20000 in
theorem ggX4_keyFact_X4_asksPlayer : GoodIn wsX4_keyFact wsX4_asksPlayer := goodIn_r _ [6, 7, 8, 5, 9, 10, 11, 12, 13, 14, 15, 16, 17, 47, 48, 49, 50, 51, 52, 53, 54, 55, 56, 57, 58, 59, 60, 61] (by decide +kernel) (by decide +kernel)
set_option maxRecDepth 20000 in
theorem gX4_keyFact_X4_asksPlayer : GoodIn wsX4_keyFact (wsV RX4 87 RX4 yX4_asksPlayer wsX4_asksPlayer) := goodIn_app (goodIn_of _ (by decide +kernel)) ggX4_keyFact_X4_asksPlayer
set_option maxRecDepth 20000 in
theorem ggX4_keyFact_X4_stands : GoodIn wsX4_keyFact wsX4_stands := goodIn_r _ [21, 22, 23, 24, 47, 48, 49, 50, 51, 52, 53, 54, 55, 56, 57, 58, 59, 60, 61] (by decide +kernel) (by decide +kernel)
set_option maxRecDepth 20000 in
theorem gX4_keyFact_X4_stands : GoodIn wsX4_keyFact (wsV RX4 65 RX4 yX4_stands wsX4_stands) := goodIn_app (goodIn_of _ (by decide +kernel)) ggX4_keyFact_X4_stands
set_option maxRecDepth 20000 in
theorem ggX4_keyFact_X4_scored : GoodIn wsX4_keyFact wsX4_scored := goodIn_r _ [28, 29, 30, 31, 32, 33, 34, 5, 35, 1, 18, 19, 20, 21, 22, 23, 24, 36, 37, 38, 39, 40, 41, 42, 43, 44, 45, 46, 47, 48, 49, 50, 51, 52, 53, 54, 55, 56, 57, 58, 59, 60, 61] (by decide +kernel) (by decide +kernel)
set_option maxRecDepth 20000 in
theorem gX4_keyFact_X4_scored : GoodIn wsX4_keyFact (wsV RX4 105 RX4 yX4_scored wsX4_scored) := goodIn_app (goodIn_of _ (by decide +kernel)) ggX4_keyFact_X4_scored
theorem dX4_keyFact_0 : decode cX4_keyFact 0 = .ok (.aload_n 0, 1) := by decide +kernel
theorem dX4_keyFact_1 : decode cX4_keyFact 1 = .ok (.iload_n 1, 1) := by decide +kernel
theorem dX4_keyFact_2 : decode cX4_keyFact 2 = .ok (.invokevirtual 87, 3) := by decide +kernel
theorem dX4_keyFact_5 : decode cX4_keyFact 5 = .ok (.ifCond .ne 5, 3) := by decide +kernel
theorem dX4_keyFact_8 : decode cX4_keyFact 8 = .ok (.iconst 0, 1) := by decide +kernel
theorem dX4_keyFact_9 : decode cX4_keyFact 9 = .ok (.ireturn, 1) := by decide +kernel
theorem dX4_keyFact_10 : decode cX4_keyFact 10 = .ok (.iconst (-1), 1) := by decide +kernel
theorem dX4_keyFact_11 : decode cX4_keyFact 11 = .ok (.istore_n 2, 1) := by decide +kernel
theorem dX4_keyFact_12 : decode cX4_keyFact 12 = .ok (.bipush 17, 2) := by decide +kernel
theorem dX4_keyFact_14 : decode cX4_keyFact 14 = .ok (.istore_n 3, 1) := by decide +kernel
theorem dX4_keyFact_15 : decode cX4_keyFact 15 = .ok (.iconst 0, 1) := by decide +kernel
theorem dX4_keyFact_16 : decode cX4_keyFact 16 = .ok (.istore 4, 2) := by decide +kernel
theorem dX4_keyFact_18 : decode cX4_keyFact 18 = .ok (.iload 4, 2) := by decide +kernel
theorem dX4_keyFact_20 : decode cX4_keyFact 20 = .ok (.aload_n 0, 1) := by decide +kernel
theorem dX4_keyFact_21 : decode cX4_keyFact 21 = .ok (.getfield 49, 3) := by decide +kernel
theorem dX4_keyFact_24 : decode cX4_keyFact 24 = .ok (.if_icmp .ge 58, 3) := by decide +kernel
theorem dX4_keyFact_27 : decode cX4_keyFact 27 = .ok (.aload_n 0, 1) := by decide +kernel
theorem dX4_keyFact_28 : decode cX4_keyFact 28 = .ok (.iload 4, 2) := by decide +kernel
theorem dX4_keyFact_30 : decode cX4_keyFact 30 = .ok (.invokevirtual 65, 3) := by decide +kernel
theorem dX4_keyFact_33 : decode cX4_keyFact 33 = .ok (.ifCond .eq 13, 3) := by decide +kernel
theorem dX4_keyFact_36 : decode cX4_keyFact 36 = .ok (.aload_n 0, 1) := by decide +kernel
theorem dX4_keyFact_37 : decode cX4_keyFact 37 = .ok (.iload_n 1, 1) := by decide +kernel
theorem dX4_keyFact_38 : decode cX4_keyFact 38 = .ok (.iload 4, 2) := by decide +kernel
theorem dX4_keyFact_40 : decode cX4_keyFact 40 = .ok (.invokevirtual 105, 3) := by decide +kernel
theorem dX4_keyFact_43 : decode cX4_keyFact 43 = .ok (.goto 5, 3) := by decide +kernel
theorem dX4_keyFact_46 : decode cX4_keyFact 46 = .ok (.bipush 17, 2) := by decide +kernel
theorem dX4_keyFact_48 : decode cX4_keyFact 48 = .ok (.istore 5, 2) := by decide +kernel
theorem dX4_keyFact_50 : decode cX4_keyFact 50 = .ok (.iload 5, 2) := by decide +kernel
theorem dX4_keyFact_52 : decode cX4_keyFact 52 = .ok (.iload_n 3, 1) := by decide +kernel
theorem dX4_keyFact_53 : decode cX4_keyFact 53 = .ok (.if_icmp .ge 8, 3) := by decide +kernel
theorem dX4_keyFact_56 : decode cX4_keyFact 56 = .ok (.iload 4, 2) := by decide +kernel
theorem dX4_keyFact_58 : decode cX4_keyFact 58 = .ok (.goto 4, 3) := by decide +kernel
theorem dX4_keyFact_61 : decode cX4_keyFact 61 = .ok (.iload_n 2, 1) := by decide +kernel
theorem dX4_keyFact_62 : decode cX4_keyFact 62 = .ok (.istore_n 2, 1) := by decide +kernel
theorem dX4_keyFact_63 : decode cX4_keyFact 63 = .ok (.iload 5, 2) := by decide +kernel
theorem dX4_keyFact_65 : decode cX4_keyFact 65 = .ok (.iload_n 3, 1) := by decide +kernel
theorem dX4_keyFact_66 : decode cX4_keyFact 66 = .ok (.if_icmp .ge 8, 3) := by decide +kernel
theorem dX4_keyFact_69 : decode cX4_keyFact 69 = .ok (.iload 5, 2) := by decide +kernel
theorem dX4_keyFact_71 : decode cX4_keyFact 71 = .ok (.goto 4, 3) := by decide +kernel
theorem dX4_keyFact_74 : decode cX4_keyFact 74 = .ok (.iload_n 3, 1) := by decide +kernel
theorem dX4_keyFact_75 : decode cX4_keyFact 75 = .ok (.istore_n 3, 1) := by decide +kernel
theorem dX4_keyFact_76 : decode cX4_keyFact 76 = .ok (.iinc 4 1, 3) := by decide +kernel
theorem dX4_keyFact_79 : decode cX4_keyFact 79 = .ok (.goto (-61), 3) := by decide +kernel
theorem dX4_keyFact_82 : decode cX4_keyFact 82 = .ok (.iload_n 2, 1) := by decide +kernel
theorem dX4_keyFact_83 : decode cX4_keyFact 83 = .ok (.ireturn, 1) := by decide +kernel
set_option maxRecDepth 20000 in
theorem ggX4_verdict_X4_scored : GoodIn wsX4_verdict wsX4_scored := goodIn_r _ [6, 7, 8, 9, 10, 11, 12, 5, 13, 14, 15, 16, 17, 18, 19, 20, 21, 22, 23, 24, 25, 26, 27, 28, 29, 30, 31, 32, 33, 34, 35, 36, 37, 38, 39, 40, 41, 42, 43, 44, 45, 46, 47] (by decide +kernel) (by decide +kernel)
set_option maxRecDepth 20000 in
theorem gX4_verdict_X4_scored : GoodIn wsX4_verdict (wsV RX4 105 RX4 yX4_scored wsX4_scored) := goodIn_app (goodIn_of _ (by decide +kernel)) ggX4_verdict_X4_scored
theorem dX4_verdict_0 : decode cX4_verdict 0 = .ok (.aload_n 0, 1) := by decide +kernel
theorem dX4_verdict_1 : decode cX4_verdict 1 = .ok (.iconst 0, 1) := by decide +kernel
theorem dX4_verdict_2 : decode cX4_verdict 2 = .ok (.putfield 41, 3) := by decide +kernel
theorem dX4_verdict_5 : decode cX4_verdict 5 = .ok (.iconst (-1), 1) := by decide +kernel
theorem dX4_verdict_6 : decode cX4_verdict 6 = .ok (.istore_n 1, 1) := by decide +kernel
theorem dX4_verdict_7 : decode cX4_verdict 7 = .ok (.iconst (-1), 1) := by decide +kernel
theorem dX4_verdict_8 : decode cX4_verdict 8 = .ok (.istore_n 2, 1) := by decide +kernel
theorem dX4_verdict_9 : decode cX4_verdict 9 = .ok (.iconst 0, 1) := by decide +kernel
theorem dX4_verdict_10 : decode cX4_verdict 10 = .ok (.istore_n 3, 1) := by decide +kernel
theorem dX4_verdict_11 : decode cX4_verdict 11 = .ok (.iload_n 3, 1) := by decide +kernel
theorem dX4_verdict_12 : decode cX4_verdict 12 = .ok (.iconst 3, 1) := by decide +kernel
theorem dX4_verdict_13 : decode cX4_verdict 13 = .ok (.if_icmp .ge 52, 3) := by decide +kernel
theorem dX4_verdict_16 : decode cX4_verdict 16 = .ok (.aload_n 0, 1) := by decide +kernel
theorem dX4_verdict_17 : decode cX4_verdict 17 = .ok (.iload_n 3, 1) := by decide +kernel
theorem dX4_verdict_18 : decode cX4_verdict 18 = .ok (.iconst (-1), 1) := by decide +kernel
theorem dX4_verdict_19 : decode cX4_verdict 19 = .ok (.invokevirtual 105, 3) := by decide +kernel
theorem dX4_verdict_22 : decode cX4_verdict 22 = .ok (.istore 4, 2) := by decide +kernel
theorem dX4_verdict_24 : decode cX4_verdict 24 = .ok (.iload 4, 2) := by decide +kernel
theorem dX4_verdict_26 : decode cX4_verdict 26 = .ok (.iload_n 2, 1) := by decide +kernel
theorem dX4_verdict_27 : decode cX4_verdict 27 = .ok (.if_icmp .le 7, 3) := by decide +kernel
theorem dX4_verdict_30 : decode cX4_verdict 30 = .ok (.iload_n 3, 1) := by decide +kernel
theorem dX4_verdict_31 : decode cX4_verdict 31 = .ok (.goto 14, 3) := by decide +kernel
theorem dX4_verdict_34 : decode cX4_verdict 34 = .ok (.iload 4, 2) := by decide +kernel
theorem dX4_verdict_36 : decode cX4_verdict 36 = .ok (.iload_n 2, 1) := by decide +kernel
theorem dX4_verdict_37 : decode cX4_verdict 37 = .ok (.if_icmp .ne 7, 3) := by decide +kernel
theorem dX4_verdict_40 : decode cX4_verdict 40 = .ok (.iconst (-1), 1) := by decide +kernel
theorem dX4_verdict_41 : decode cX4_verdict 41 = .ok (.goto 4, 3) := by decide +kernel
theorem dX4_verdict_44 : decode cX4_verdict 44 = .ok (.iload_n 1, 1) := by decide +kernel
theorem dX4_verdict_45 : decode cX4_verdict 45 = .ok (.istore_n 1, 1) := by decide +kernel
theorem dX4_verdict_46 : decode cX4_verdict 46 = .ok (.iload 4, 2) := by decide +kernel
theorem dX4_verdict_48 : decode cX4_verdict 48 = .ok (.iload_n 2, 1) := by decide +kernel
theorem dX4_verdict_49 : decode cX4_verdict 49 = .ok (.if_icmp .le 8, 3) := by decide +kernel
theorem dX4_verdict_52 : decode cX4_verdict 52 = .ok (.iload 4, 2) := by decide +kernel
theorem dX4_verdict_54 : decode cX4_verdict 54 = .ok (.goto 4, 3) := by decide +kernel
theorem dX4_verdict_57 : decode cX4_verdict 57 = .ok (.iload_n 2, 1) := by decide +kernel
theorem dX4_verdict_58 : decode cX4_verdict 58 = .ok (.istore_n 2, 1) := by decide +kernel
theorem dX4_verdict_59 : decode cX4_verdict 59 = .ok (.iinc 3 1, 3) := by decide +kernel
theorem dX4_verdict_62 : decode cX4_verdict 62 = .ok (.goto (-51), 3) := by decide +kernel
theorem dX4_verdict_65 : decode cX4_verdict 65 = .ok (.iload_n 1, 1) := by decide +kernel
theorem dX4_verdict_66 : decode cX4_verdict 66 = .ok (.ireturn, 1) := by decide +kernel
set_option maxRecDepth 20000 in
theorem ggX4_close_X4_standing : GoodIn wsX4_close wsX4_standing := goodIn_r _ [13, 14, 15, 16, 17, 12, 18, 19, 20, 21, 37, 38, 39, 40, 41, 42, 43, 44, 45, 46, 47, 48, 49, 50, 51] (by decide +kernel) (by decide +kernel)
set_option maxRecDepth 20000 in
theorem gX4_close_X4_standing : GoodIn wsX4_close (wsV RX4 94 RX4 yX4_standing wsX4_standing) := goodIn_app (goodIn_of _ (by decide +kernel)) ggX4_close_X4_standing
set_option maxRecDepth 20000 in
theorem ggX4_close_X4_scored : GoodIn wsX4_close wsX4_scored := goodIn_r _ [25, 4, 5, 26, 9, 10, 11, 12, 13, 14, 15, 16, 17, 18, 19, 20, 21, 27, 28, 29, 30, 6, 31, 32, 33, 34, 35, 36, 37, 38, 39, 40, 41, 42, 43, 44, 45, 46, 47, 48, 49, 50, 51] (by decide +kernel) (by decide +kernel)
set_option maxRecDepth 20000 in
theorem gX4_close_X4_scored : GoodIn wsX4_close (wsV RX4 105 RX4 yX4_scored wsX4_scored) := goodIn_app (goodIn_of _ (by decide +kernel)) ggX4_close_X4_scored
theorem dX4_close_0 : decode cX4_close 0 = .ok (.aload_n 0, 1) := by decide +kernel
theorem dX4_close_1 : decode cX4_close 1 = .ok (.iconst 0, 1) := by decide +kernel
theorem dX4_close_2 : decode cX4_close 2 = .ok (.putfield 41, 3) := by decide +kernel
theorem dX4_close_5 : decode cX4_close 5 = .ok (.aload_n 0, 1) := by decide +kernel
theorem dX4_close_6 : decode cX4_close 6 = .ok (.iconst (-1), 1) := by decide +kernel
theorem dX4_close_7 : decode cX4_close 7 = .ok (.invokevirtual 94, 3) := by decide +kernel
theorem dX4_close_10 : decode cX4_close 10 = .ok (.istore_n 1, 1) := by decide +kernel
theorem dX4_close_11 : decode cX4_close 11 = .ok (.iconst 0, 1) := by decide +kernel
theorem dX4_close_12 : decode cX4_close 12 = .ok (.istore_n 2, 1) := by decide +kernel
theorem dX4_close_13 : decode cX4_close 13 = .ok (.iload_n 2, 1) := by decide +kernel
theorem dX4_close_14 : decode cX4_close 14 = .ok (.iconst 3, 1) := by decide +kernel
theorem dX4_close_15 : decode cX4_close 15 = .ok (.if_icmp .ge 33, 3) := by decide +kernel
theorem dX4_close_18 : decode cX4_close 18 = .ok (.aload_n 0, 1) := by decide +kernel
theorem dX4_close_19 : decode cX4_close 19 = .ok (.getfield 38, 3) := by decide +kernel
theorem dX4_close_22 : decode cX4_close 22 = .ok (.iload_n 2, 1) := by decide +kernel
theorem dX4_close_23 : decode cX4_close 23 = .ok (.dup2, 1) := by decide +kernel
theorem dX4_close_24 : decode cX4_close 24 = .ok (.iaload, 1) := by decide +kernel
theorem dX4_close_25 : decode cX4_close 25 = .ok (.aload_n 0, 1) := by decide +kernel
theorem dX4_close_26 : decode cX4_close 26 = .ok (.iload_n 2, 1) := by decide +kernel
theorem dX4_close_27 : decode cX4_close 27 = .ok (.iconst (-1), 1) := by decide +kernel
theorem dX4_close_28 : decode cX4_close 28 = .ok (.invokevirtual 105, 3) := by decide +kernel
theorem dX4_close_31 : decode cX4_close 31 = .ok (.iadd, 1) := by decide +kernel
theorem dX4_close_32 : decode cX4_close 32 = .ok (.iastore, 1) := by decide +kernel
theorem dX4_close_33 : decode cX4_close 33 = .ok (.aload_n 0, 1) := by decide +kernel
theorem dX4_close_34 : decode cX4_close 34 = .ok (.getfield 20, 3) := by decide +kernel
theorem dX4_close_37 : decode cX4_close 37 = .ok (.iload_n 2, 1) := by decide +kernel
theorem dX4_close_38 : decode cX4_close 38 = .ok (.sipush 300, 3) := by decide +kernel
theorem dX4_close_41 : decode cX4_close 41 = .ok (.iastore, 1) := by decide +kernel
theorem dX4_close_42 : decode cX4_close 42 = .ok (.iinc 2 1, 3) := by decide +kernel
theorem dX4_close_45 : decode cX4_close 45 = .ok (.goto (-32), 3) := by decide +kernel
theorem dX4_close_48 : decode cX4_close 48 = .ok (.iconst 0, 1) := by decide +kernel
theorem dX4_close_49 : decode cX4_close 49 = .ok (.istore_n 2, 1) := by decide +kernel
theorem dX4_close_50 : decode cX4_close 50 = .ok (.iload_n 2, 1) := by decide +kernel
theorem dX4_close_51 : decode cX4_close 51 = .ok (.aload_n 0, 1) := by decide +kernel
theorem dX4_close_52 : decode cX4_close 52 = .ok (.getfield 52, 3) := by decide +kernel
theorem dX4_close_55 : decode cX4_close 55 = .ok (.if_icmp .ge 41, 3) := by decide +kernel
theorem dX4_close_58 : decode cX4_close 58 = .ok (.aload_n 0, 1) := by decide +kernel
theorem dX4_close_59 : decode cX4_close 59 = .ok (.getfield 38, 3) := by decide +kernel
theorem dX4_close_62 : decode cX4_close 62 = .ok (.aload_n 0, 1) := by decide +kernel
theorem dX4_close_63 : decode cX4_close 63 = .ok (.getfield 23, 3) := by decide +kernel
theorem dX4_close_66 : decode cX4_close 66 = .ok (.iload_n 2, 1) := by decide +kernel
theorem dX4_close_67 : decode cX4_close 67 = .ok (.iaload, 1) := by decide +kernel
theorem dX4_close_68 : decode cX4_close 68 = .ok (.dup2, 1) := by decide +kernel
theorem dX4_close_69 : decode cX4_close 69 = .ok (.iaload, 1) := by decide +kernel
theorem dX4_close_70 : decode cX4_close 70 = .ok (.aload_n 0, 1) := by decide +kernel
theorem dX4_close_71 : decode cX4_close 71 = .ok (.getfield 26, 3) := by decide +kernel
theorem dX4_close_74 : decode cX4_close 74 = .ok (.iload_n 2, 1) := by decide +kernel
theorem dX4_close_75 : decode cX4_close 75 = .ok (.iaload, 1) := by decide +kernel
theorem dX4_close_76 : decode cX4_close 76 = .ok (.iload_n 1, 1) := by decide +kernel
theorem dX4_close_77 : decode cX4_close 77 = .ok (.iconst (-1), 1) := by decide +kernel
theorem dX4_close_78 : decode cX4_close 78 = .ok (.ixor, 1) := by decide +kernel
theorem dX4_close_79 : decode cX4_close 79 = .ok (.iand, 1) := by decide +kernel
theorem dX4_close_80 : decode cX4_close 80 = .ok (.ifCond .ne 7, 3) := by decide +kernel
theorem dX4_close_83 : decode cX4_close 83 = .ok (.iconst 0, 1) := by decide +kernel
theorem dX4_close_84 : decode cX4_close 84 = .ok (.goto 4, 3) := by decide +kernel
theorem dX4_close_87 : decode cX4_close 87 = .ok (.iconst 1, 1) := by decide +kernel
theorem dX4_close_88 : decode cX4_close 88 = .ok (.isub, 1) := by decide +kernel
theorem dX4_close_89 : decode cX4_close 89 = .ok (.iastore, 1) := by decide +kernel
theorem dX4_close_90 : decode cX4_close 90 = .ok (.iinc 2 1, 3) := by decide +kernel
theorem dX4_close_93 : decode cX4_close 93 = .ok (.goto (-43), 3) := by decide +kernel
theorem dX4_close_96 : decode cX4_close 96 = .ok (.aload_n 0, 1) := by decide +kernel
theorem dX4_close_97 : decode cX4_close 97 = .ok (.iconst 0, 1) := by decide +kernel
theorem dX4_close_98 : decode cX4_close 98 = .ok (.putfield 52, 3) := by decide +kernel
theorem dX4_close_101 : decode cX4_close 101 = .ok (.aload_n 0, 1) := by decide +kernel
theorem dX4_close_102 : decode cX4_close 102 = .ok (.iconst 0, 1) := by decide +kernel
theorem dX4_close_103 : decode cX4_close 103 = .ok (.putfield 68, 3) := by decide +kernel
theorem dX4_close_106 : decode cX4_close 106 = .ok (.aload_n 0, 1) := by decide +kernel
theorem dX4_close_107 : decode cX4_close 107 = .ok (.dup, 1) := by decide +kernel
theorem dX4_close_108 : decode cX4_close 108 = .ok (.getfield 109, 3) := by decide +kernel
theorem dX4_close_111 : decode cX4_close 111 = .ok (.iconst 1, 1) := by decide +kernel
theorem dX4_close_112 : decode cX4_close 112 = .ok (.iadd, 1) := by decide +kernel
theorem dX4_close_113 : decode cX4_close 113 = .ok (.putfield 109, 3) := by decide +kernel
theorem dX4_close_116 : decode cX4_close 116 = .ok (.aload_n 0, 1) := by decide +kernel
theorem dX4_close_117 : decode cX4_close 117 = .ok (.getfield 109, 3) := by decide +kernel
theorem dX4_close_120 : decode cX4_close 120 = .ok (.ireturn, 1) := by decide +kernel
set_option maxRecDepth 20000 in
theorem ggX4_reputation_X4_asksPlayer : GoodIn wsX4_reputation wsX4_asksPlayer := goodIn_r _ [6, 7, 8, 5, 9, 10, 11, 12, 13, 14, 15, 16, 17, 18, 19, 20, 21, 22, 23, 24, 25, 26, 27, 28, 29, 30, 31, 32] (by decide +kernel) (by decide +kernel)
set_option maxRecDepth 20000 in
theorem gX4_reputation_X4_asksPlayer : GoodIn wsX4_reputation (wsV RX4 87 RX4 yX4_asksPlayer wsX4_asksPlayer) := goodIn_app (goodIn_of _ (by decide +kernel)) ggX4_reputation_X4_asksPlayer
theorem dX4_reputation_0 : decode cX4_reputation 0 = .ok (.aload_n 0, 1) := by decide +kernel
theorem dX4_reputation_1 : decode cX4_reputation 1 = .ok (.iload_n 1, 1) := by decide +kernel
theorem dX4_reputation_2 : decode cX4_reputation 2 = .ok (.invokevirtual 87, 3) := by decide +kernel
theorem dX4_reputation_5 : decode cX4_reputation 5 = .ok (.ifCond .eq 12, 3) := by decide +kernel
theorem dX4_reputation_8 : decode cX4_reputation 8 = .ok (.aload_n 0, 1) := by decide +kernel
theorem dX4_reputation_9 : decode cX4_reputation 9 = .ok (.getfield 38, 3) := by decide +kernel
theorem dX4_reputation_12 : decode cX4_reputation 12 = .ok (.iload_n 1, 1) := by decide +kernel
theorem dX4_reputation_13 : decode cX4_reputation 13 = .ok (.iaload, 1) := by decide +kernel
theorem dX4_reputation_14 : decode cX4_reputation 14 = .ok (.goto 4, 3) := by decide +kernel
theorem dX4_reputation_17 : decode cX4_reputation 17 = .ok (.iconst 0, 1) := by decide +kernel
theorem dX4_reputation_18 : decode cX4_reputation 18 = .ok (.ireturn, 1) := by decide +kernel
