set_option maxRecDepth 20000 in
theorem ggX0_init_J7_fill_53178 : GoodIn wsX0_init wsJ7_fill_53178 := goodIn_r _ [15] (by decide +kernel) (by decide +kernel)
set_option maxRecDepth 20000 in
theorem gX0_init_J7_fill_53178 : GoodIn wsX0_init (va_wsS RX0 27 yJ7_fill_53178 wsJ7_fill_53178) := goodIn_app (goodIn_of _ (by decide +kernel)) ggX0_init_J7_fill_53178
theorem dX0_init_0 : decode cX0_init 0 = .ok (.aload_n 0, 1) := by decide +kernel
theorem dX0_init_1 : decode cX0_init 1 = .ok (.invokespecial 3, 3) := by decide +kernel
theorem dX0_init_4 : decode cX0_init 4 = .ok (.aload_n 0, 1) := by decide +kernel
theorem dX0_init_5 : decode cX0_init 5 = .ok (.bipush 16, 2) := by decide +kernel
theorem dX0_init_7 : decode cX0_init 7 = .ok (.newarray .int, 2) := by decide +kernel
theorem dX0_init_9 : decode cX0_init 9 = .ok (.putfield 9, 3) := by decide +kernel
theorem dX0_init_12 : decode cX0_init 12 = .ok (.aload_n 0, 1) := by decide +kernel
theorem dX0_init_13 : decode cX0_init 13 = .ok (.bipush 16, 2) := by decide +kernel
theorem dX0_init_15 : decode cX0_init 15 = .ok (.newarray .int, 2) := by decide +kernel
theorem dX0_init_17 : decode cX0_init 17 = .ok (.putfield 15, 3) := by decide +kernel
theorem dX0_init_20 : decode cX0_init 20 = .ok (.aload_n 0, 1) := by decide +kernel
theorem dX0_init_21 : decode cX0_init 21 = .ok (.bipush 16, 2) := by decide +kernel
theorem dX0_init_23 : decode cX0_init 23 = .ok (.newarray .int, 2) := by decide +kernel
theorem dX0_init_25 : decode cX0_init 25 = .ok (.putfield 18, 3) := by decide +kernel
theorem dX0_init_28 : decode cX0_init 28 = .ok (.aload_n 0, 1) := by decide +kernel
theorem dX0_init_29 : decode cX0_init 29 = .ok (.bipush 16, 2) := by decide +kernel
theorem dX0_init_31 : decode cX0_init 31 = .ok (.newarray .int, 2) := by decide +kernel
theorem dX0_init_33 : decode cX0_init 33 = .ok (.putfield 21, 3) := by decide +kernel
theorem dX0_init_36 : decode cX0_init 36 = .ok (.aload_n 0, 1) := by decide +kernel
theorem dX0_init_37 : decode cX0_init 37 = .ok (.iconst 3, 1) := by decide +kernel
theorem dX0_init_38 : decode cX0_init 38 = .ok (.newarray .int, 2) := by decide +kernel
theorem dX0_init_40 : decode cX0_init 40 = .ok (.putfield 24, 3) := by decide +kernel
theorem dX0_init_43 : decode cX0_init 43 = .ok (.aload_n 0, 1) := by decide +kernel
theorem dX0_init_44 : decode cX0_init 44 = .ok (.getfield 24, 3) := by decide +kernel
theorem dX0_init_47 : decode cX0_init 47 = .ok (.sipush 300, 3) := by decide +kernel
theorem dX0_init_50 : decode cX0_init 50 = .ok (.invokestatic 27, 3) := by decide +kernel
theorem dX0_init_53 : decode cX0_init 53 = .ok (.aload_n 0, 1) := by decide +kernel
theorem dX0_init_54 : decode cX0_init 54 = .ok (.iconst 0, 1) := by decide +kernel
theorem dX0_init_55 : decode cX0_init 55 = .ok (.putfield 33, 3) := by decide +kernel
theorem dX0_init_58 : decode cX0_init 58 = .ok (.aload_n 0, 1) := by decide +kernel
theorem dX0_init_59 : decode cX0_init 59 = .ok (.iconst 0, 1) := by decide +kernel
theorem dX0_init_60 : decode cX0_init 60 = .ok (.putfield 37, 3) := by decide +kernel
theorem dX0_init_63 : decode cX0_init 63 = .ok (.return_, 1) := by decide +kernel
set_option maxRecDepth 20000 in
theorem ggX0_beginAgain_J7_fill_53178 : GoodIn wsX0_beginAgain wsJ7_fill_53178 := goodIn_r _ [7] (by decide +kernel) (by decide +kernel)
set_option maxRecDepth 20000 in
theorem gX0_beginAgain_J7_fill_53178 : GoodIn wsX0_beginAgain (va_wsS RX0 27 yJ7_fill_53178 wsJ7_fill_53178) := goodIn_app (goodIn_of _ (by decide +kernel)) ggX0_beginAgain_J7_fill_53178
theorem dX0_beginAgain_0 : decode cX0_beginAgain 0 = .ok (.aload_n 0, 1) := by decide +kernel
theorem dX0_beginAgain_1 : decode cX0_beginAgain 1 = .ok (.getfield 24, 3) := by decide +kernel
theorem dX0_beginAgain_4 : decode cX0_beginAgain 4 = .ok (.sipush 300, 3) := by decide +kernel
theorem dX0_beginAgain_7 : decode cX0_beginAgain 7 = .ok (.invokestatic 27, 3) := by decide +kernel
theorem dX0_beginAgain_10 : decode cX0_beginAgain 10 = .ok (.aload_n 0, 1) := by decide +kernel
theorem dX0_beginAgain_11 : decode cX0_beginAgain 11 = .ok (.iconst 0, 1) := by decide +kernel
theorem dX0_beginAgain_12 : decode cX0_beginAgain 12 = .ok (.putfield 33, 3) := by decide +kernel
theorem dX0_beginAgain_15 : decode cX0_beginAgain 15 = .ok (.aload_n 0, 1) := by decide +kernel
theorem dX0_beginAgain_16 : decode cX0_beginAgain 16 = .ok (.iconst 0, 1) := by decide +kernel
theorem dX0_beginAgain_17 : decode cX0_beginAgain 17 = .ok (.putfield 37, 3) := by decide +kernel
theorem dX0_beginAgain_20 : decode cX0_beginAgain 20 = .ok (.return_, 1) := by decide +kernel
theorem dX0_size_0 : decode cX0_size 0 = .ok (.aload_n 0, 1) := by decide +kernel
theorem dX0_size_1 : decode cX0_size 1 = .ok (.getfield 33, 3) := by decide +kernel
theorem dX0_size_4 : decode cX0_size 4 = .ok (.ireturn, 1) := by decide +kernel
theorem dX0_speaker_0 : decode cX0_speaker 0 = .ok (.aload_n 0, 1) := by decide +kernel
theorem dX0_speaker_1 : decode cX0_speaker 1 = .ok (.getfield 37, 3) := by decide +kernel
theorem dX0_speaker_4 : decode cX0_speaker 4 = .ok (.ireturn, 1) := by decide +kernel
theorem dX0_secondsLeft_0 : decode cX0_secondsLeft 0 = .ok (.aload_n 0, 1) := by decide +kernel
theorem dX0_secondsLeft_1 : decode cX0_secondsLeft 1 = .ok (.getfield 24, 3) := by decide +kernel
theorem dX0_secondsLeft_4 : decode cX0_secondsLeft 4 = .ok (.iload_n 1, 1) := by decide +kernel
theorem dX0_secondsLeft_5 : decode cX0_secondsLeft 5 = .ok (.iaload, 1) := by decide +kernel
theorem dX0_secondsLeft_6 : decode cX0_secondsLeft 6 = .ok (.ireturn, 1) := by decide +kernel
theorem dX0_ownerOf_0 : decode cX0_ownerOf 0 = .ok (.aload_n 0, 1) := by decide +kernel
theorem dX0_ownerOf_1 : decode cX0_ownerOf 1 = .ok (.getfield 9, 3) := by decide +kernel
theorem dX0_ownerOf_4 : decode cX0_ownerOf 4 = .ok (.iload_n 1, 1) := by decide +kernel
theorem dX0_ownerOf_5 : decode cX0_ownerOf 5 = .ok (.iaload, 1) := by decide +kernel
theorem dX0_ownerOf_6 : decode cX0_ownerOf 6 = .ok (.ireturn, 1) := by decide +kernel
set_option maxRecDepth 20000 in
theorem ggX0_add_X0_passTurn : GoodIn wsX0_add wsX0_passTurn := goodIn_r _ [12, 3, 13, 14, 15, 16, 17, 18, 19] (by decide +kernel) (by decide +kernel)
set_option maxRecDepth 20000 in
theorem gX0_add_X0_passTurn : GoodIn wsX0_add (wsV RX0 40 RX0 yX0_passTurn wsX0_passTurn) := goodIn_app (goodIn_of _ (by decide +kernel)) ggX0_add_X0_passTurn
theorem dX0_add_0 : decode cX0_add 0 = .ok (.aload_n 0, 1) := by decide +kernel
theorem dX0_add_1 : decode cX0_add 1 = .ok (.getfield 33, 3) := by decide +kernel
theorem dX0_add_4 : decode cX0_add 4 = .ok (.bipush 16, 2) := by decide +kernel
theorem dX0_add_6 : decode cX0_add 6 = .ok (.if_icmp .ge 16, 3) := by decide +kernel
theorem dX0_add_9 : decode cX0_add 9 = .ok (.aload_n 0, 1) := by decide +kernel
theorem dX0_add_10 : decode cX0_add 10 = .ok (.getfield 24, 3) := by decide +kernel
theorem dX0_add_13 : decode cX0_add 13 = .ok (.aload_n 0, 1) := by decide +kernel
theorem dX0_add_14 : decode cX0_add 14 = .ok (.getfield 37, 3) := by decide +kernel
theorem dX0_add_17 : decode cX0_add 17 = .ok (.iaload, 1) := by decide +kernel
theorem dX0_add_18 : decode cX0_add 18 = .ok (.iload_n 2, 1) := by decide +kernel
theorem dX0_add_19 : decode cX0_add 19 = .ok (.if_icmp .ge 5, 3) := by decide +kernel
theorem dX0_add_22 : decode cX0_add 22 = .ok (.iconst (-1), 1) := by decide +kernel
theorem dX0_add_23 : decode cX0_add 23 = .ok (.ireturn, 1) := by decide +kernel
theorem dX0_add_24 : decode cX0_add 24 = .ok (.aload_n 0, 1) := by decide +kernel
theorem dX0_add_25 : decode cX0_add 25 = .ok (.getfield 33, 3) := by decide +kernel
theorem dX0_add_28 : decode cX0_add 28 = .ok (.istore_n 3, 1) := by decide +kernel
theorem dX0_add_29 : decode cX0_add 29 = .ok (.aload_n 0, 1) := by decide +kernel
theorem dX0_add_30 : decode cX0_add 30 = .ok (.getfield 9, 3) := by decide +kernel
theorem dX0_add_33 : decode cX0_add 33 = .ok (.iload_n 3, 1) := by decide +kernel
theorem dX0_add_34 : decode cX0_add 34 = .ok (.aload_n 0, 1) := by decide +kernel
theorem dX0_add_35 : decode cX0_add 35 = .ok (.getfield 37, 3) := by decide +kernel
theorem dX0_add_38 : decode cX0_add 38 = .ok (.iastore, 1) := by decide +kernel
theorem dX0_add_39 : decode cX0_add 39 = .ok (.aload_n 0, 1) := by decide +kernel
theorem dX0_add_40 : decode cX0_add 40 = .ok (.getfield 15, 3) := by decide +kernel
theorem dX0_add_43 : decode cX0_add 43 = .ok (.iload_n 3, 1) := by decide +kernel
theorem dX0_add_44 : decode cX0_add 44 = .ok (.iload_n 1, 1) := by decide +kernel
theorem dX0_add_45 : decode cX0_add 45 = .ok (.iastore, 1) := by decide +kernel
theorem dX0_add_46 : decode cX0_add 46 = .ok (.aload_n 0, 1) := by decide +kernel
theorem dX0_add_47 : decode cX0_add 47 = .ok (.getfield 18, 3) := by decide +kernel
theorem dX0_add_50 : decode cX0_add 50 = .ok (.iload_n 3, 1) := by decide +kernel
theorem dX0_add_51 : decode cX0_add 51 = .ok (.iconst 0, 1) := by decide +kernel
theorem dX0_add_52 : decode cX0_add 52 = .ok (.iastore, 1) := by decide +kernel
theorem dX0_add_53 : decode cX0_add 53 = .ok (.aload_n 0, 1) := by decide +kernel
theorem dX0_add_54 : decode cX0_add 54 = .ok (.getfield 21, 3) := by decide +kernel
theorem dX0_add_57 : decode cX0_add 57 = .ok (.iload_n 3, 1) := by decide +kernel
theorem dX0_add_58 : decode cX0_add 58 = .ok (.iconst 0, 1) := by decide +kernel
theorem dX0_add_59 : decode cX0_add 59 = .ok (.iastore, 1) := by decide +kernel
theorem dX0_add_60 : decode cX0_add 60 = .ok (.aload_n 0, 1) := by decide +kernel
theorem dX0_add_61 : decode cX0_add 61 = .ok (.dup, 1) := by decide +kernel
theorem dX0_add_62 : decode cX0_add 62 = .ok (.getfield 33, 3) := by decide +kernel
theorem dX0_add_65 : decode cX0_add 65 = .ok (.iconst 1, 1) := by decide +kernel
theorem dX0_add_66 : decode cX0_add 66 = .ok (.iadd, 1) := by decide +kernel
theorem dX0_add_67 : decode cX0_add 67 = .ok (.putfield 33, 3) := by decide +kernel
theorem dX0_add_70 : decode cX0_add 70 = .ok (.aload_n 0, 1) := by decide +kernel
theorem dX0_add_71 : decode cX0_add 71 = .ok (.getfield 24, 3) := by decide +kernel
theorem dX0_add_74 : decode cX0_add 74 = .ok (.aload_n 0, 1) := by decide +kernel
theorem dX0_add_75 : decode cX0_add 75 = .ok (.getfield 37, 3) := by decide +kernel
theorem dX0_add_78 : decode cX0_add 78 = .ok (.dup2, 1) := by decide +kernel
theorem dX0_add_79 : decode cX0_add 79 = .ok (.iaload, 1) := by decide +kernel
theorem dX0_add_80 : decode cX0_add 80 = .ok (.iload_n 2, 1) := by decide +kernel
theorem dX0_add_81 : decode cX0_add 81 = .ok (.isub, 1) := by decide +kernel
theorem dX0_add_82 : decode cX0_add 82 = .ok (.iastore, 1) := by decide +kernel
theorem dX0_add_83 : decode cX0_add 83 = .ok (.aload_n 0, 1) := by decide +kernel
theorem dX0_add_84 : decode cX0_add 84 = .ok (.invokevirtual 40, 3) := by decide +kernel
theorem dX0_add_87 : decode cX0_add 87 = .ok (.iload_n 3, 1) := by decide +kernel
theorem dX0_add_88 : decode cX0_add 88 = .ok (.ireturn, 1) := by decide +kernel
theorem dX0_passTurn_0 : decode cX0_passTurn 0 = .ok (.aload_n 0, 1) := by decide +kernel
theorem dX0_passTurn_1 : decode cX0_passTurn 1 = .ok (.aload_n 0, 1) := by decide +kernel
theorem dX0_passTurn_2 : decode cX0_passTurn 2 = .ok (.getfield 37, 3) := by decide +kernel
theorem dX0_passTurn_5 : decode cX0_passTurn 5 = .ok (.iconst 2, 1) := by decide +kernel
theorem dX0_passTurn_6 : decode cX0_passTurn 6 = .ok (.if_icmp .ge 12, 3) := by decide +kernel
theorem dX0_passTurn_9 : decode cX0_passTurn 9 = .ok (.aload_n 0, 1) := by decide +kernel
theorem dX0_passTurn_10 : decode cX0_passTurn 10 = .ok (.getfield 37, 3) := by decide +kernel
theorem dX0_passTurn_13 : decode cX0_passTurn 13 = .ok (.iconst 1, 1) := by decide +kernel
theorem dX0_passTurn_14 : decode cX0_passTurn 14 = .ok (.iadd, 1) := by decide +kernel
theorem dX0_passTurn_15 : decode cX0_passTurn 15 = .ok (.goto 4, 3) := by decide +kernel
theorem dX0_passTurn_18 : decode cX0_passTurn 18 = .ok (.iconst 0, 1) := by decide +kernel
theorem dX0_passTurn_19 : decode cX0_passTurn 19 = .ok (.putfield 37, 3) := by decide +kernel
theorem dX0_passTurn_22 : decode cX0_passTurn 22 = .ok (.return_, 1) := by decide +kernel
set_option maxRecDepth 20000 in
theorem ggX0_flipRest_X3_contains : GoodIn wsX0_flipRest wsX3_contains := goodIn_r _ [4] (by decide +kernel) (by decide +kernel)
set_option maxRecDepth 20000 in
theorem gX0_flipRest_X3_contains_n43 : GoodIn wsX0_flipRest (wsX3_contains) := ggX0_flipRest_X3_contains
theorem dX0_flipRest_0 : decode cX0_flipRest 0 = .ok (.aload_n 0, 1) := by decide +kernel
theorem dX0_flipRest_1 : decode cX0_flipRest 1 = .ok (.getfield 18, 3) := by decide +kernel
theorem dX0_flipRest_4 : decode cX0_flipRest 4 = .ok (.iload_n 1, 1) := by decide +kernel
theorem dX0_flipRest_5 : decode cX0_flipRest 5 = .ok (.dup2, 1) := by decide +kernel
theorem dX0_flipRest_6 : decode cX0_flipRest 6 = .ok (.iaload, 1) := by decide +kernel
theorem dX0_flipRest_7 : decode cX0_flipRest 7 = .ok (.iconst 1, 1) := by decide +kernel
theorem dX0_flipRest_8 : decode cX0_flipRest 8 = .ok (.iload_n 2, 1) := by decide +kernel
theorem dX0_flipRest_9 : decode cX0_flipRest 9 = .ok (.ishl, 1) := by decide +kernel
theorem dX0_flipRest_10 : decode cX0_flipRest 10 = .ok (.ixor, 1) := by decide +kernel
theorem dX0_flipRest_11 : decode cX0_flipRest 11 = .ok (.iastore, 1) := by decide +kernel
theorem dX0_flipRest_12 : decode cX0_flipRest 12 = .ok (.aload_n 0, 1) := by decide +kernel
theorem dX0_flipRest_13 : decode cX0_flipRest 13 = .ok (.getfield 18, 3) := by decide +kernel
theorem dX0_flipRest_16 : decode cX0_flipRest 16 = .ok (.iload_n 1, 1) := by decide +kernel
theorem dX0_flipRest_17 : decode cX0_flipRest 17 = .ok (.iaload, 1) := by decide +kernel
theorem dX0_flipRest_18 : decode cX0_flipRest 18 = .ok (.iload_n 2, 1) := by decide +kernel
theorem dX0_flipRest_19 : decode cX0_flipRest 19 = .ok (.invokestatic 43, 3) := by decide +kernel
theorem dX0_flipRest_22 : decode cX0_flipRest 22 = .ok (.ireturn, 1) := by decide +kernel
set_option maxRecDepth 20000 in
theorem ggX0_flipAttack_X3_contains : GoodIn wsX0_flipAttack wsX3_contains := goodIn_r _ [4] (by decide +kernel) (by decide +kernel)
set_option maxRecDepth 20000 in
theorem gX0_flipAttack_X3_contains_n43 : GoodIn wsX0_flipAttack (wsX3_contains) := ggX0_flipAttack_X3_contains
theorem dX0_flipAttack_0 : decode cX0_flipAttack 0 = .ok (.aload_n 0, 1) := by decide +kernel
theorem dX0_flipAttack_1 : decode cX0_flipAttack 1 = .ok (.getfield 21, 3) := by decide +kernel
theorem dX0_flipAttack_4 : decode cX0_flipAttack 4 = .ok (.iload_n 2, 1) := by decide +kernel
theorem dX0_flipAttack_5 : decode cX0_flipAttack 5 = .ok (.dup2, 1) := by decide +kernel
theorem dX0_flipAttack_6 : decode cX0_flipAttack 6 = .ok (.iaload, 1) := by decide +kernel
theorem dX0_flipAttack_7 : decode cX0_flipAttack 7 = .ok (.iconst 1, 1) := by decide +kernel
theorem dX0_flipAttack_8 : decode cX0_flipAttack 8 = .ok (.iload_n 1, 1) := by decide +kernel
theorem dX0_flipAttack_9 : decode cX0_flipAttack 9 = .ok (.ishl, 1) := by decide +kernel
theorem dX0_flipAttack_10 : decode cX0_flipAttack 10 = .ok (.ixor, 1) := by decide +kernel
theorem dX0_flipAttack_11 : decode cX0_flipAttack 11 = .ok (.iastore, 1) := by decide +kernel
theorem dX0_flipAttack_12 : decode cX0_flipAttack 12 = .ok (.aload_n 0, 1) := by decide +kernel
theorem dX0_flipAttack_13 : decode cX0_flipAttack 13 = .ok (.getfield 21, 3) := by decide +kernel
theorem dX0_flipAttack_16 : decode cX0_flipAttack 16 = .ok (.iload_n 2, 1) := by decide +kernel
theorem dX0_flipAttack_17 : decode cX0_flipAttack 17 = .ok (.iaload, 1) := by decide +kernel
theorem dX0_flipAttack_18 : decode cX0_flipAttack 18 = .ok (.iload_n 1, 1) := by decide +kernel
theorem dX0_flipAttack_19 : decode cX0_flipAttack 19 = .ok (.invokestatic 43, 3) := by decide +kernel
theorem dX0_flipAttack_22 : decode cX0_flipAttack 22 = .ok (.ireturn, 1) := by decide +kernel
theorem dX0_holds_0 : decode cX0_holds 0 = .ok (.aload_n 0, 1) := by decide +kernel
theorem dX0_holds_1 : decode cX0_holds 1 = .ok (.getfield 15, 3) := by decide +kernel
theorem dX0_holds_4 : decode cX0_holds 4 = .ok (.iload_n 1, 1) := by decide +kernel
theorem dX0_holds_5 : decode cX0_holds 5 = .ok (.iaload, 1) := by decide +kernel
theorem dX0_holds_6 : decode cX0_holds 6 = .ok (.iload_n 2, 1) := by decide +kernel
theorem dX0_holds_7 : decode cX0_holds 7 = .ok (.iconst (-1), 1) := by decide +kernel
theorem dX0_holds_8 : decode cX0_holds 8 = .ok (.ixor, 1) := by decide +kernel
theorem dX0_holds_9 : decode cX0_holds 9 = .ok (.iand, 1) := by decide +kernel
theorem dX0_holds_10 : decode cX0_holds 10 = .ok (.ifCond .ne 34, 3) := by decide +kernel
theorem dX0_holds_13 : decode cX0_holds 13 = .ok (.aload_n 0, 1) := by decide +kernel
theorem dX0_holds_14 : decode cX0_holds 14 = .ok (.getfield 18, 3) := by decide +kernel
theorem dX0_holds_17 : decode cX0_holds 17 = .ok (.iload_n 1, 1) := by decide +kernel
theorem dX0_holds_18 : decode cX0_holds 18 = .ok (.iaload, 1) := by decide +kernel
theorem dX0_holds_19 : decode cX0_holds 19 = .ok (.iload_n 3, 1) := by decide +kernel
theorem dX0_holds_20 : decode cX0_holds 20 = .ok (.iconst (-1), 1) := by decide +kernel
theorem dX0_holds_21 : decode cX0_holds 21 = .ok (.ixor, 1) := by decide +kernel
theorem dX0_holds_22 : decode cX0_holds 22 = .ok (.iand, 1) := by decide +kernel
theorem dX0_holds_23 : decode cX0_holds 23 = .ok (.ifCond .ne 21, 3) := by decide +kernel
theorem dX0_holds_26 : decode cX0_holds 26 = .ok (.aload_n 0, 1) := by decide +kernel
theorem dX0_holds_27 : decode cX0_holds 27 = .ok (.getfield 21, 3) := by decide +kernel
theorem dX0_holds_30 : decode cX0_holds 30 = .ok (.iload_n 1, 1) := by decide +kernel
theorem dX0_holds_31 : decode cX0_holds 31 = .ok (.iaload, 1) := by decide +kernel
theorem dX0_holds_32 : decode cX0_holds 32 = .ok (.iload 4, 2) := by decide +kernel
theorem dX0_holds_34 : decode cX0_holds 34 = .ok (.iconst (-1), 1) := by decide +kernel
theorem dX0_holds_35 : decode cX0_holds 35 = .ok (.ixor, 1) := by decide +kernel
theorem dX0_holds_36 : decode cX0_holds 36 = .ok (.iand, 1) := by decide +kernel
theorem dX0_holds_37 : decode cX0_holds 37 = .ok (.ifCond .ne 7, 3) := by decide +kernel
theorem dX0_holds_40 : decode cX0_holds 40 = .ok (.iconst 1, 1) := by decide +kernel
theorem dX0_holds_41 : decode cX0_holds 41 = .ok (.goto 4, 3) := by decide +kernel
theorem dX0_holds_44 : decode cX0_holds 44 = .ok (.iconst 0, 1) := by decide +kernel
theorem dX0_holds_45 : decode cX0_holds 45 = .ok (.ireturn, 1) := by decide +kernel
theorem dX0_fails_0 : decode cX0_fails 0 = .ok (.aload_n 0, 1) := by decide +kernel
theorem dX0_fails_1 : decode cX0_fails 1 = .ok (.getfield 15, 3) := by decide +kernel
theorem dX0_fails_4 : decode cX0_fails 4 = .ok (.iload_n 1, 1) := by decide +kernel
theorem dX0_fails_5 : decode cX0_fails 5 = .ok (.iaload, 1) := by decide +kernel
theorem dX0_fails_6 : decode cX0_fails 6 = .ok (.iload_n 2, 1) := by decide +kernel
theorem dX0_fails_7 : decode cX0_fails 7 = .ok (.iconst (-1), 1) := by decide +kernel
theorem dX0_fails_8 : decode cX0_fails 8 = .ok (.ixor, 1) := by decide +kernel
theorem dX0_fails_9 : decode cX0_fails 9 = .ok (.iand, 1) := by decide +kernel
theorem dX0_fails_10 : decode cX0_fails 10 = .ok (.ifCond .ne 26, 3) := by decide +kernel
theorem dX0_fails_13 : decode cX0_fails 13 = .ok (.aload_n 0, 1) := by decide +kernel
theorem dX0_fails_14 : decode cX0_fails 14 = .ok (.getfield 18, 3) := by decide +kernel
theorem dX0_fails_17 : decode cX0_fails 17 = .ok (.iload_n 1, 1) := by decide +kernel
theorem dX0_fails_18 : decode cX0_fails 18 = .ok (.iaload, 1) := by decide +kernel
theorem dX0_fails_19 : decode cX0_fails 19 = .ok (.iload 4, 2) := by decide +kernel
theorem dX0_fails_21 : decode cX0_fails 21 = .ok (.iand, 1) := by decide +kernel
theorem dX0_fails_22 : decode cX0_fails 22 = .ok (.ifCond .ne 14, 3) := by decide +kernel
theorem dX0_fails_25 : decode cX0_fails 25 = .ok (.aload_n 0, 1) := by decide +kernel
theorem dX0_fails_26 : decode cX0_fails 26 = .ok (.getfield 21, 3) := by decide +kernel
theorem dX0_fails_29 : decode cX0_fails 29 = .ok (.iload_n 1, 1) := by decide +kernel
theorem dX0_fails_30 : decode cX0_fails 30 = .ok (.iaload, 1) := by decide +kernel
theorem dX0_fails_31 : decode cX0_fails 31 = .ok (.iload_n 3, 1) := by decide +kernel
theorem dX0_fails_32 : decode cX0_fails 32 = .ok (.iand, 1) := by decide +kernel
theorem dX0_fails_33 : decode cX0_fails 33 = .ok (.ifCond .eq 7, 3) := by decide +kernel
theorem dX0_fails_36 : decode cX0_fails 36 = .ok (.iconst 1, 1) := by decide +kernel
theorem dX0_fails_37 : decode cX0_fails 37 = .ok (.goto 4, 3) := by decide +kernel
theorem dX0_fails_40 : decode cX0_fails 40 = .ok (.iconst 0, 1) := by decide +kernel
theorem dX0_fails_41 : decode cX0_fails 41 = .ok (.ireturn, 1) := by decide +kernel
set_option maxRecDepth 20000 in
theorem ggX0_matters_X3_contains : GoodIn wsX0_matters wsX3_contains := goodIn_r _ [5] (by decide +kernel) (by decide +kernel)
set_option maxRecDepth 20000 in
theorem gX0_matters_X3_contains_n43 : GoodIn wsX0_matters (wsX3_contains) := ggX0_matters_X3_contains
theorem dX0_matters_0 : decode cX0_matters 0 = .ok (.aload_n 0, 1) := by decide +kernel
theorem dX0_matters_1 : decode cX0_matters 1 = .ok (.getfield 18, 3) := by decide +kernel
theorem dX0_matters_4 : decode cX0_matters 4 = .ok (.iload_n 1, 1) := by decide +kernel
theorem dX0_matters_5 : decode cX0_matters 5 = .ok (.iaload, 1) := by decide +kernel
theorem dX0_matters_6 : decode cX0_matters 6 = .ok (.aload_n 0, 1) := by decide +kernel
theorem dX0_matters_7 : decode cX0_matters 7 = .ok (.getfield 21, 3) := by decide +kernel
theorem dX0_matters_10 : decode cX0_matters 10 = .ok (.iload_n 1, 1) := by decide +kernel
theorem dX0_matters_11 : decode cX0_matters 11 = .ok (.iaload, 1) := by decide +kernel
theorem dX0_matters_12 : decode cX0_matters 12 = .ok (.ior, 1) := by decide +kernel
theorem dX0_matters_13 : decode cX0_matters 13 = .ok (.iload_n 2, 1) := by decide +kernel
theorem dX0_matters_14 : decode cX0_matters 14 = .ok (.invokestatic 43, 3) := by decide +kernel
theorem dX0_matters_17 : decode cX0_matters 17 = .ok (.ireturn, 1) := by decide +kernel
theorem dX0_illFounded_0 : decode cX0_illFounded 0 = .ok (.iconst 0, 1) := by decide +kernel
theorem dX0_illFounded_1 : decode cX0_illFounded 1 = .ok (.istore_n 2, 1) := by decide +kernel
theorem dX0_illFounded_2 : decode cX0_illFounded 2 = .ok (.iconst 0, 1) := by decide +kernel
theorem dX0_illFounded_3 : decode cX0_illFounded 3 = .ok (.istore_n 3, 1) := by decide +kernel
theorem dX0_illFounded_4 : decode cX0_illFounded 4 = .ok (.iload_n 3, 1) := by decide +kernel
theorem dX0_illFounded_5 : decode cX0_illFounded 5 = .ok (.aload_n 0, 1) := by decide +kernel
theorem dX0_illFounded_6 : decode cX0_illFounded 6 = .ok (.getfield 33, 3) := by decide +kernel
theorem dX0_illFounded_9 : decode cX0_illFounded 9 = .ok (.if_icmp .ge 28, 3) := by decide +kernel
theorem dX0_illFounded_12 : decode cX0_illFounded 12 = .ok (.aload_n 0, 1) := by decide +kernel
theorem dX0_illFounded_13 : decode cX0_illFounded 13 = .ok (.getfield 15, 3) := by decide +kernel
theorem dX0_illFounded_16 : decode cX0_illFounded 16 = .ok (.iload_n 3, 1) := by decide +kernel
theorem dX0_illFounded_17 : decode cX0_illFounded 17 = .ok (.iaload, 1) := by decide +kernel
theorem dX0_illFounded_18 : decode cX0_illFounded 18 = .ok (.iload_n 1, 1) := by decide +kernel
theorem dX0_illFounded_19 : decode cX0_illFounded 19 = .ok (.iconst (-1), 1) := by decide +kernel
theorem dX0_illFounded_20 : decode cX0_illFounded 20 = .ok (.ixor, 1) := by decide +kernel
theorem dX0_illFounded_21 : decode cX0_illFounded 21 = .ok (.iand, 1) := by decide +kernel
theorem dX0_illFounded_22 : decode cX0_illFounded 22 = .ok (.ifCond .eq 9, 3) := by decide +kernel
theorem dX0_illFounded_25 : decode cX0_illFounded 25 = .ok (.iload_n 2, 1) := by decide +kernel
theorem dX0_illFounded_26 : decode cX0_illFounded 26 = .ok (.iconst 1, 1) := by decide +kernel
theorem dX0_illFounded_27 : decode cX0_illFounded 27 = .ok (.iload_n 3, 1) := by decide +kernel
theorem dX0_illFounded_28 : decode cX0_illFounded 28 = .ok (.ishl, 1) := by decide +kernel
theorem dX0_illFounded_29 : decode cX0_illFounded 29 = .ok (.ior, 1) := by decide +kernel
theorem dX0_illFounded_30 : decode cX0_illFounded 30 = .ok (.istore_n 2, 1) := by decide +kernel
theorem dX0_illFounded_31 : decode cX0_illFounded 31 = .ok (.iinc 3 1, 3) := by decide +kernel
theorem dX0_illFounded_34 : decode cX0_illFounded 34 = .ok (.goto (-30), 3) := by decide +kernel
theorem dX0_illFounded_37 : decode cX0_illFounded 37 = .ok (.iload_n 2, 1) := by decide +kernel
theorem dX0_illFounded_38 : decode cX0_illFounded 38 = .ok (.ireturn, 1) := by decide +kernel
set_option maxRecDepth 20000 in
theorem ggX0_countOf_X3_contains : GoodIn wsX0_countOf wsX3_contains := goodIn_r _ [5] (by decide +kernel) (by decide +kernel)
set_option maxRecDepth 20000 in
theorem gX0_countOf_X3_contains_n43 : GoodIn wsX0_countOf (wsX3_contains) := ggX0_countOf_X3_contains
theorem dX0_countOf_0 : decode cX0_countOf 0 = .ok (.iconst 0, 1) := by decide +kernel
theorem dX0_countOf_1 : decode cX0_countOf 1 = .ok (.istore_n 3, 1) := by decide +kernel
theorem dX0_countOf_2 : decode cX0_countOf 2 = .ok (.iconst 0, 1) := by decide +kernel
theorem dX0_countOf_3 : decode cX0_countOf 3 = .ok (.istore 4, 2) := by decide +kernel
theorem dX0_countOf_5 : decode cX0_countOf 5 = .ok (.iload 4, 2) := by decide +kernel
theorem dX0_countOf_7 : decode cX0_countOf 7 = .ok (.aload_n 0, 1) := by decide +kernel
theorem dX0_countOf_8 : decode cX0_countOf 8 = .ok (.getfield 33, 3) := by decide +kernel
theorem dX0_countOf_11 : decode cX0_countOf 11 = .ok (.if_icmp .ge 32, 3) := by decide +kernel
theorem dX0_countOf_14 : decode cX0_countOf 14 = .ok (.aload_n 0, 1) := by decide +kernel
theorem dX0_countOf_15 : decode cX0_countOf 15 = .ok (.getfield 9, 3) := by decide +kernel
theorem dX0_countOf_18 : decode cX0_countOf 18 = .ok (.iload 4, 2) := by decide +kernel
theorem dX0_countOf_20 : decode cX0_countOf 20 = .ok (.iaload, 1) := by decide +kernel
theorem dX0_countOf_21 : decode cX0_countOf 21 = .ok (.iload_n 1, 1) := by decide +kernel
theorem dX0_countOf_22 : decode cX0_countOf 22 = .ok (.if_icmp .ne 15, 3) := by decide +kernel
theorem dX0_countOf_25 : decode cX0_countOf 25 = .ok (.iload_n 2, 1) := by decide +kernel
theorem dX0_countOf_26 : decode cX0_countOf 26 = .ok (.iload 4, 2) := by decide +kernel
theorem dX0_countOf_28 : decode cX0_countOf 28 = .ok (.invokestatic 43, 3) := by decide +kernel
theorem dX0_countOf_31 : decode cX0_countOf 31 = .ok (.ifCond .eq 6, 3) := by decide +kernel
theorem dX0_countOf_34 : decode cX0_countOf 34 = .ok (.iinc 3 1, 3) := by decide +kernel
theorem dX0_countOf_37 : decode cX0_countOf 37 = .ok (.iinc 4 1, 3) := by decide +kernel
theorem dX0_countOf_40 : decode cX0_countOf 40 = .ok (.goto (-35), 3) := by decide +kernel
theorem dX0_countOf_43 : decode cX0_countOf 43 = .ok (.iload_n 3, 1) := by decide +kernel
theorem dX0_countOf_44 : decode cX0_countOf 44 = .ok (.ireturn, 1) := by decide +kernel
theorem dX1_init_0 : decode cX1_init 0 = .ok (.aload_n 0, 1) := by decide +kernel
theorem dX1_init_1 : decode cX1_init 1 = .ok (.invokespecial 3, 3) := by decide +kernel
theorem dX1_init_4 : decode cX1_init 4 = .ok (.aload_n 0, 1) := by decide +kernel
theorem dX1_init_5 : decode cX1_init 5 = .ok (.bipush 14, 2) := by decide +kernel
theorem dX1_init_7 : decode cX1_init 7 = .ok (.newarray .int, 2) := by decide +kernel
theorem dX1_init_9 : decode cX1_init 9 = .ok (.putfield 9, 3) := by decide +kernel
theorem dX1_init_12 : decode cX1_init 12 = .ok (.aload_n 0, 1) := by decide +kernel
theorem dX1_init_13 : decode cX1_init 13 = .ok (.iconst 0, 1) := by decide +kernel
theorem dX1_init_14 : decode cX1_init 14 = .ok (.putfield 15, 3) := by decide +kernel
theorem dX1_init_17 : decode cX1_init 17 = .ok (.aload_n 0, 1) := by decide +kernel
theorem dX1_init_18 : decode cX1_init 18 = .ok (.iconst 0, 1) := by decide +kernel
theorem dX1_init_19 : decode cX1_init 19 = .ok (.putfield 19, 3) := by decide +kernel
theorem dX1_init_22 : decode cX1_init 22 = .ok (.aload_n 0, 1) := by decide +kernel
theorem dX1_init_23 : decode cX1_init 23 = .ok (.iconst 0, 1) := by decide +kernel
theorem dX1_init_24 : decode cX1_init 24 = .ok (.putfield 22, 3) := by decide +kernel
theorem dX1_init_27 : decode cX1_init 27 = .ok (.return_, 1) := by decide +kernel
theorem dX1_size_0 : decode cX1_size 0 = .ok (.aload_n 0, 1) := by decide +kernel
theorem dX1_size_1 : decode cX1_size 1 = .ok (.getfield 15, 3) := by decide +kernel
theorem dX1_size_4 : decode cX1_size 4 = .ok (.ireturn, 1) := by decide +kernel
theorem dX1_hasAll_0 : decode cX1_hasAll 0 = .ok (.iload_n 1, 1) := by decide +kernel
theorem dX1_hasAll_1 : decode cX1_hasAll 1 = .ok (.ifCond .lt 17, 3) := by decide +kernel
theorem dX1_hasAll_4 : decode cX1_hasAll 4 = .ok (.iload_n 1, 1) := by decide +kernel
theorem dX1_hasAll_5 : decode cX1_hasAll 5 = .ok (.iconst 1, 1) := by decide +kernel
theorem dX1_hasAll_6 : decode cX1_hasAll 6 = .ok (.aload_n 0, 1) := by decide +kernel
theorem dX1_hasAll_7 : decode cX1_hasAll 7 = .ok (.getfield 15, 3) := by decide +kernel
theorem dX1_hasAll_10 : decode cX1_hasAll 10 = .ok (.ishl, 1) := by decide +kernel
theorem dX1_hasAll_11 : decode cX1_hasAll 11 = .ok (.if_icmp .ge 7, 3) := by decide +kernel
theorem dX1_hasAll_14 : decode cX1_hasAll 14 = .ok (.iconst 1, 1) := by decide +kernel
theorem dX1_hasAll_15 : decode cX1_hasAll 15 = .ok (.goto 4, 3) := by decide +kernel
theorem dX1_hasAll_18 : decode cX1_hasAll 18 = .ok (.iconst 0, 1) := by decide +kernel
theorem dX1_hasAll_19 : decode cX1_hasAll 19 = .ok (.ireturn, 1) := by decide +kernel
theorem dX1_add_0 : decode cX1_add 0 = .ok (.aload_n 0, 1) := by decide +kernel
theorem dX1_add_1 : decode cX1_add 1 = .ok (.getfield 15, 3) := by decide +kernel
theorem dX1_add_4 : decode cX1_add 4 = .ok (.bipush 14, 2) := by decide +kernel
theorem dX1_add_6 : decode cX1_add 6 = .ok (.if_icmp .lt 5, 3) := by decide +kernel
theorem dX1_add_9 : decode cX1_add 9 = .ok (.iconst (-1), 1) := by decide +kernel
theorem dX1_add_10 : decode cX1_add 10 = .ok (.ireturn, 1) := by decide +kernel
theorem dX1_add_11 : decode cX1_add 11 = .ok (.aload_n 0, 1) := by decide +kernel
theorem dX1_add_12 : decode cX1_add 12 = .ok (.getfield 15, 3) := by decide +kernel
theorem dX1_add_15 : decode cX1_add 15 = .ok (.istore_n 2, 1) := by decide +kernel
theorem dX1_add_16 : decode cX1_add 16 = .ok (.aload_n 0, 1) := by decide +kernel
theorem dX1_add_17 : decode cX1_add 17 = .ok (.getfield 9, 3) := by decide +kernel
theorem dX1_add_20 : decode cX1_add 20 = .ok (.iload_n 2, 1) := by decide +kernel
theorem dX1_add_21 : decode cX1_add 21 = .ok (.iload_n 1, 1) := by decide +kernel
theorem dX1_add_22 : decode cX1_add 22 = .ok (.iastore, 1) := by decide +kernel
theorem dX1_add_23 : decode cX1_add 23 = .ok (.aload_n 0, 1) := by decide +kernel
theorem dX1_add_24 : decode cX1_add 24 = .ok (.dup, 1) := by decide +kernel
theorem dX1_add_25 : decode cX1_add 25 = .ok (.getfield 15, 3) := by decide +kernel
theorem dX1_add_28 : decode cX1_add 28 = .ok (.iconst 1, 1) := by decide +kernel
theorem dX1_add_29 : decode cX1_add 29 = .ok (.iadd, 1) := by decide +kernel
theorem dX1_add_30 : decode cX1_add 30 = .ok (.putfield 15, 3) := by decide +kernel
theorem dX1_add_33 : decode cX1_add 33 = .ok (.iload_n 2, 1) := by decide +kernel
theorem dX1_add_34 : decode cX1_add 34 = .ok (.ireturn, 1) := by decide +kernel
set_option maxRecDepth 20000 in
theorem ggX1_flipSource_X3_contains : GoodIn wsX1_flipSource wsX3_contains := goodIn_r _ [4] (by decide +kernel) (by decide +kernel)
set_option maxRecDepth 20000 in
theorem gX1_flipSource_X3_contains_n25 : GoodIn wsX1_flipSource (wsX3_contains) := ggX1_flipSource_X3_contains
theorem dX1_flipSource_0 : decode cX1_flipSource 0 = .ok (.aload_n 0, 1) := by decide +kernel
theorem dX1_flipSource_1 : decode cX1_flipSource 1 = .ok (.dup, 1) := by decide +kernel
theorem dX1_flipSource_2 : decode cX1_flipSource 2 = .ok (.getfield 22, 3) := by decide +kernel
theorem dX1_flipSource_5 : decode cX1_flipSource 5 = .ok (.iconst 1, 1) := by decide +kernel
theorem dX1_flipSource_6 : decode cX1_flipSource 6 = .ok (.iload_n 1, 1) := by decide +kernel
theorem dX1_flipSource_7 : decode cX1_flipSource 7 = .ok (.ishl, 1) := by decide +kernel
theorem dX1_flipSource_8 : decode cX1_flipSource 8 = .ok (.ixor, 1) := by decide +kernel
theorem dX1_flipSource_9 : decode cX1_flipSource 9 = .ok (.putfield 22, 3) := by decide +kernel
theorem dX1_flipSource_12 : decode cX1_flipSource 12 = .ok (.aload_n 0, 1) := by decide +kernel
theorem dX1_flipSource_13 : decode cX1_flipSource 13 = .ok (.getfield 22, 3) := by decide +kernel
theorem dX1_flipSource_16 : decode cX1_flipSource 16 = .ok (.iload_n 1, 1) := by decide +kernel
theorem dX1_flipSource_17 : decode cX1_flipSource 17 = .ok (.invokestatic 25, 3) := by decide +kernel
theorem dX1_flipSource_20 : decode cX1_flipSource 20 = .ok (.ifCond .ne 7, 3) := by decide +kernel
theorem dX1_flipSource_23 : decode cX1_flipSource 23 = .ok (.iconst 1, 1) := by decide +kernel
theorem dX1_flipSource_24 : decode cX1_flipSource 24 = .ok (.goto 4, 3) := by decide +kernel
theorem dX1_flipSource_27 : decode cX1_flipSource 27 = .ok (.iconst 0, 1) := by decide +kernel
theorem dX1_flipSource_28 : decode cX1_flipSource 28 = .ok (.ireturn, 1) := by decide +kernel
set_option maxRecDepth 20000 in
theorem ggX1_takeBack_X3_contains : GoodIn wsX1_takeBack wsX3_contains := goodIn_r _ [4] (by decide +kernel) (by decide +kernel)
set_option maxRecDepth 20000 in
theorem gX1_takeBack_X3_contains_n25 : GoodIn wsX1_takeBack (wsX3_contains) := ggX1_takeBack_X3_contains
theorem dX1_takeBack_0 : decode cX1_takeBack 0 = .ok (.aload_n 0, 1) := by decide +kernel
theorem dX1_takeBack_1 : decode cX1_takeBack 1 = .ok (.getfield 19, 3) := by decide +kernel
theorem dX1_takeBack_4 : decode cX1_takeBack 4 = .ok (.iload_n 1, 1) := by decide +kernel
theorem dX1_takeBack_5 : decode cX1_takeBack 5 = .ok (.invokestatic 25, 3) := by decide +kernel
theorem dX1_takeBack_8 : decode cX1_takeBack 8 = .ok (.ifCond .ne 7, 3) := by decide +kernel
theorem dX1_takeBack_11 : decode cX1_takeBack 11 = .ok (.iconst 1, 1) := by decide +kernel
theorem dX1_takeBack_12 : decode cX1_takeBack 12 = .ok (.goto 4, 3) := by decide +kernel
theorem dX1_takeBack_15 : decode cX1_takeBack 15 = .ok (.iconst 0, 1) := by decide +kernel
theorem dX1_takeBack_16 : decode cX1_takeBack 16 = .ok (.istore_n 2, 1) := by decide +kernel
theorem dX1_takeBack_17 : decode cX1_takeBack 17 = .ok (.aload_n 0, 1) := by decide +kernel
theorem dX1_takeBack_18 : decode cX1_takeBack 18 = .ok (.dup, 1) := by decide +kernel
theorem dX1_takeBack_19 : decode cX1_takeBack 19 = .ok (.getfield 19, 3) := by decide +kernel
theorem dX1_takeBack_22 : decode cX1_takeBack 22 = .ok (.iconst 1, 1) := by decide +kernel
theorem dX1_takeBack_23 : decode cX1_takeBack 23 = .ok (.iload_n 1, 1) := by decide +kernel
theorem dX1_takeBack_24 : decode cX1_takeBack 24 = .ok (.ishl, 1) := by decide +kernel
theorem dX1_takeBack_25 : decode cX1_takeBack 25 = .ok (.ior, 1) := by decide +kernel
theorem dX1_takeBack_26 : decode cX1_takeBack 26 = .ok (.putfield 19, 3) := by decide +kernel
theorem dX1_takeBack_29 : decode cX1_takeBack 29 = .ok (.iload_n 2, 1) := by decide +kernel
theorem dX1_takeBack_30 : decode cX1_takeBack 30 = .ok (.ireturn, 1) := by decide +kernel
set_option maxRecDepth 20000 in
theorem ggX1_standing_X3_contains : GoodIn wsX1_standing wsX3_contains := goodIn_r _ [7] (by decide +kernel) (by decide +kernel)
set_option maxRecDepth 20000 in
theorem gX1_standing_X3_contains_n25 : GoodIn wsX1_standing (wsX3_contains) := ggX1_standing_X3_contains
theorem dX1_standing_0 : decode cX1_standing 0 = .ok (.iconst 0, 1) := by decide +kernel
theorem dX1_standing_1 : decode cX1_standing 1 = .ok (.istore_n 1, 1) := by decide +kernel
theorem dX1_standing_2 : decode cX1_standing 2 = .ok (.iconst 0, 1) := by decide +kernel
theorem dX1_standing_3 : decode cX1_standing 3 = .ok (.istore_n 2, 1) := by decide +kernel
theorem dX1_standing_4 : decode cX1_standing 4 = .ok (.iload_n 2, 1) := by decide +kernel
theorem dX1_standing_5 : decode cX1_standing 5 = .ok (.aload_n 0, 1) := by decide +kernel
theorem dX1_standing_6 : decode cX1_standing 6 = .ok (.getfield 15, 3) := by decide +kernel
theorem dX1_standing_9 : decode cX1_standing 9 = .ok (.if_icmp .ge 42, 3) := by decide +kernel
theorem dX1_standing_12 : decode cX1_standing 12 = .ok (.aload_n 0, 1) := by decide +kernel
theorem dX1_standing_13 : decode cX1_standing 13 = .ok (.getfield 19, 3) := by decide +kernel
theorem dX1_standing_16 : decode cX1_standing 16 = .ok (.iload_n 2, 1) := by decide +kernel
theorem dX1_standing_17 : decode cX1_standing 17 = .ok (.invokestatic 25, 3) := by decide +kernel
theorem dX1_standing_20 : decode cX1_standing 20 = .ok (.ifCond .ne 25, 3) := by decide +kernel
theorem dX1_standing_23 : decode cX1_standing 23 = .ok (.aload_n 0, 1) := by decide +kernel
theorem dX1_standing_24 : decode cX1_standing 24 = .ok (.getfield 22, 3) := by decide +kernel
theorem dX1_standing_27 : decode cX1_standing 27 = .ok (.aload_n 0, 1) := by decide +kernel
theorem dX1_standing_28 : decode cX1_standing 28 = .ok (.getfield 9, 3) := by decide +kernel
theorem dX1_standing_31 : decode cX1_standing 31 = .ok (.iload_n 2, 1) := by decide +kernel
theorem dX1_standing_32 : decode cX1_standing 32 = .ok (.iaload, 1) := by decide +kernel
theorem dX1_standing_33 : decode cX1_standing 33 = .ok (.invokestatic 25, 3) := by decide +kernel
theorem dX1_standing_36 : decode cX1_standing 36 = .ok (.ifCond .ne 9, 3) := by decide +kernel
theorem dX1_standing_39 : decode cX1_standing 39 = .ok (.iload_n 1, 1) := by decide +kernel
theorem dX1_standing_40 : decode cX1_standing 40 = .ok (.iconst 1, 1) := by decide +kernel
theorem dX1_standing_41 : decode cX1_standing 41 = .ok (.iload_n 2, 1) := by decide +kernel
theorem dX1_standing_42 : decode cX1_standing 42 = .ok (.ishl, 1) := by decide +kernel
theorem dX1_standing_43 : decode cX1_standing 43 = .ok (.ior, 1) := by decide +kernel
theorem dX1_standing_44 : decode cX1_standing 44 = .ok (.istore_n 1, 1) := by decide +kernel
theorem dX1_standing_45 : decode cX1_standing 45 = .ok (.iinc 2 1, 3) := by decide +kernel
theorem dX1_standing_48 : decode cX1_standing 48 = .ok (.goto (-44), 3) := by decide +kernel
theorem dX1_standing_51 : decode cX1_standing 51 = .ok (.iload_n 1, 1) := by decide +kernel
theorem dX1_standing_52 : decode cX1_standing 52 = .ok (.ireturn, 1) := by decide +kernel
theorem dX2_init_0 : decode cX2_init 0 = .ok (.aload_n 0, 1) := by decide +kernel
theorem dX2_init_1 : decode cX2_init 1 = .ok (.invokespecial 3, 3) := by decide +kernel
theorem dX2_init_4 : decode cX2_init 4 = .ok (.aload_n 0, 1) := by decide +kernel
theorem dX2_init_5 : decode cX2_init 5 = .ok (.aload_n 1, 1) := by decide +kernel
theorem dX2_init_6 : decode cX2_init 6 = .ok (.putfield 9, 3) := by decide +kernel
theorem dX2_init_9 : decode cX2_init 9 = .ok (.aload_n 0, 1) := by decide +kernel
theorem dX2_init_10 : decode cX2_init 10 = .ok (.bipush 16, 2) := by decide +kernel
theorem dX2_init_12 : decode cX2_init 12 = .ok (.newarray .int, 2) := by decide +kernel
theorem dX2_init_14 : decode cX2_init 14 = .ok (.putfield 15, 3) := by decide +kernel
theorem dX2_init_17 : decode cX2_init 17 = .ok (.aload_n 0, 1) := by decide +kernel
theorem dX2_init_18 : decode cX2_init 18 = .ok (.iconst 0, 1) := by decide +kernel
theorem dX2_init_19 : decode cX2_init 19 = .ok (.putfield 19, 3) := by decide +kernel
theorem dX2_init_22 : decode cX2_init 22 = .ok (.aload_n 0, 1) := by decide +kernel
theorem dX2_init_23 : decode cX2_init 23 = .ok (.iconst 0, 1) := by decide +kernel
theorem dX2_init_24 : decode cX2_init 24 = .ok (.putfield 23, 3) := by decide +kernel
theorem dX2_init_27 : decode cX2_init 27 = .ok (.aload_n 0, 1) := by decide +kernel
theorem dX2_init_28 : decode cX2_init 28 = .ok (.iconst 0, 1) := by decide +kernel
theorem dX2_init_29 : decode cX2_init 29 = .ok (.putfield 26, 3) := by decide +kernel
theorem dX2_init_32 : decode cX2_init 32 = .ok (.aload_n 0, 1) := by decide +kernel
theorem dX2_init_33 : decode cX2_init 33 = .ok (.iconst 0, 1) := by decide +kernel
theorem dX2_init_34 : decode cX2_init 34 = .ok (.putfield 29, 3) := by decide +kernel
theorem dX2_init_37 : decode cX2_init 37 = .ok (.return_, 1) := by decide +kernel
theorem dX2_claimsIn_0 : decode cX2_claimsIn 0 = .ok (.aload_n 0, 1) := by decide +kernel
theorem dX2_claimsIn_1 : decode cX2_claimsIn 1 = .ok (.getfield 26, 3) := by decide +kernel
theorem dX2_claimsIn_4 : decode cX2_claimsIn 4 = .ok (.ireturn, 1) := by decide +kernel
set_option maxRecDepth 20000 in
theorem ggX2_decisionOn_X3_contains : GoodIn wsX2_decisionOn wsX3_contains := goodIn_r _ [5] (by decide +kernel) (by decide +kernel)
set_option maxRecDepth 20000 in
theorem gX2_decisionOn_X3_contains_n32 : GoodIn wsX2_decisionOn (wsX3_contains) := ggX2_decisionOn_X3_contains
theorem dX2_decisionOn_0 : decode cX2_decisionOn 0 = .ok (.aload_n 0, 1) := by decide +kernel
theorem dX2_decisionOn_1 : decode cX2_decisionOn 1 = .ok (.getfield 26, 3) := by decide +kernel
theorem dX2_decisionOn_4 : decode cX2_decisionOn 4 = .ok (.iload_n 1, 1) := by decide +kernel
theorem dX2_decisionOn_5 : decode cX2_decisionOn 5 = .ok (.invokestatic 32, 3) := by decide +kernel
theorem dX2_decisionOn_8 : decode cX2_decisionOn 8 = .ok (.ifCond .eq 5, 3) := by decide +kernel
theorem dX2_decisionOn_11 : decode cX2_decisionOn 11 = .ok (.iconst 1, 1) := by decide +kernel
theorem dX2_decisionOn_12 : decode cX2_decisionOn 12 = .ok (.ireturn, 1) := by decide +kernel
theorem dX2_decisionOn_13 : decode cX2_decisionOn 13 = .ok (.aload_n 0, 1) := by decide +kernel
theorem dX2_decisionOn_14 : decode cX2_decisionOn 14 = .ok (.getfield 29, 3) := by decide +kernel
theorem dX2_decisionOn_17 : decode cX2_decisionOn 17 = .ok (.iload_n 1, 1) := by decide +kernel
theorem dX2_decisionOn_18 : decode cX2_decisionOn 18 = .ok (.invokestatic 32, 3) := by decide +kernel
theorem dX2_decisionOn_21 : decode cX2_decisionOn 21 = .ok (.ifCond .eq 7, 3) := by decide +kernel
theorem dX2_decisionOn_24 : decode cX2_decisionOn 24 = .ok (.iconst 2, 1) := by decide +kernel
theorem dX2_decisionOn_25 : decode cX2_decisionOn 25 = .ok (.goto 4, 3) := by decide +kernel
theorem dX2_decisionOn_28 : decode cX2_decisionOn 28 = .ok (.iconst 0, 1) := by decide +kernel
theorem dX2_decisionOn_29 : decode cX2_decisionOn 29 = .ok (.ireturn, 1) := by decide +kernel
set_option maxRecDepth 20000 in
theorem ggX2_decideByGoingOn_X2_openAll : GoodIn wsX2_decideByGoingOn wsX2_openAll := goodIn_r _ [8, 2, 9, 10, 11, 48, 49, 50, 51, 52, 53] (by decide +kernel) (by decide +kernel)
set_option maxRecDepth 20000 in
theorem gX2_decideByGoingOn_X2_openAll : GoodIn wsX2_decideByGoingOn (wsV RX2 36 RX2 yX2_openAll wsX2_openAll) := goodIn_app (goodIn_of _ (by decide +kernel)) ggX2_decideByGoingOn_X2_openAll
set_option maxRecDepth 20000 in
theorem ggX2_decideByGoingOn_X0_size : GoodIn wsX2_decideByGoingOn wsX0_size := goodIn_r _ [16, 17, 54, 55, 56, 57, 58, 59, 60] (by decide +kernel) (by decide +kernel)
set_option maxRecDepth 20000 in
theorem gX2_decideByGoingOn_X0_size : GoodIn wsX2_decideByGoingOn (wsV RX2 40 RX0 yX0_size wsX0_size) := goodIn_app (goodIn_of _ (by decide +kernel)) ggX2_decideByGoingOn_X0_size
set_option maxRecDepth 20000 in
theorem ggX2_decideByGoingOn_X2_decideAndQueue : GoodIn wsX2_decideByGoingOn wsX2_decideAndQueue := goodIn_r _ [21, 2, 3, 22, 23, 24, 7, 25, 10, 11, 1, 9, 26, 27, 28, 29, 30, 31, 15, 32, 33, 34, 35, 36, 37, 38, 39, 48, 49, 50, 51, 52, 53, 54, 55, 56, 57, 58, 59, 60] (by decide +kernel) (by decide +kernel)
set_option maxRecDepth 20000 in
theorem gX2_decideByGoingOn_X2_decideAndQueue : GoodIn wsX2_decideByGoingOn (wsV RX2 46 RX2 yX2_decideAndQueue wsX2_decideAndQueue) := goodIn_app (goodIn_of _ (by decide +kernel)) ggX2_decideByGoingOn_X2_decideAndQueue
set_option maxRecDepth 20000 in
theorem ggX2_decideByGoingOn_X2_goOnFrom : GoodIn wsX2_decideByGoingOn wsX2_goOnFrom := goodIn_r _ [43, 1, 12, 13, 14, 15, 16, 17, 44, 45, 46, 47, 34, 35, 26, 27, 28, 18, 19, 20, 7, 21, 2, 3, 22, 23, 24, 25, 10, 11, 9, 29, 30, 31, 32, 33, 36, 37, 38, 39, 48, 49, 50, 51, 52, 53, 54, 55, 56, 57, 58, 59, 60] (by decide +kernel) (by decide +kernel)
set_option maxRecDepth 20000 in
theorem gX2_decideByGoingOn_X2_goOnFrom : GoodIn wsX2_decideByGoingOn (wsV RX2 49 RX2 yX2_goOnFrom wsX2_goOnFrom) := goodIn_app (goodIn_of _ (by decide +kernel)) ggX2_decideByGoingOn_X2_goOnFrom
theorem dX2_decideByGoingOn_0 : decode cX2_decideByGoingOn 0 = .ok (.aload_n 0, 1) := by decide +kernel
theorem dX2_decideByGoingOn_1 : decode cX2_decideByGoingOn 1 = .ok (.iload_n 1, 1) := by decide +kernel
theorem dX2_decideByGoingOn_2 : decode cX2_decideByGoingOn 2 = .ok (.invokevirtual 36, 3) := by decide +kernel
theorem dX2_decideByGoingOn_5 : decode cX2_decideByGoingOn 5 = .ok (.iconst 0, 1) := by decide +kernel
theorem dX2_decideByGoingOn_6 : decode cX2_decideByGoingOn 6 = .ok (.istore_n 2, 1) := by decide +kernel
theorem dX2_decideByGoingOn_7 : decode cX2_decideByGoingOn 7 = .ok (.iload_n 2, 1) := by decide +kernel
theorem dX2_decideByGoingOn_8 : decode cX2_decideByGoingOn 8 = .ok (.aload_n 0, 1) := by decide +kernel
theorem dX2_decideByGoingOn_9 : decode cX2_decideByGoingOn 9 = .ok (.getfield 9, 3) := by decide +kernel
theorem dX2_decideByGoingOn_12 : decode cX2_decideByGoingOn 12 = .ok (.invokevirtual 40, 3) := by decide +kernel
theorem dX2_decideByGoingOn_15 : decode cX2_decideByGoingOn 15 = .ok (.if_icmp .ge 14, 3) := by decide +kernel
theorem dX2_decideByGoingOn_18 : decode cX2_decideByGoingOn 18 = .ok (.aload_n 0, 1) := by decide +kernel
theorem dX2_decideByGoingOn_19 : decode cX2_decideByGoingOn 19 = .ok (.iload_n 2, 1) := by decide +kernel
theorem dX2_decideByGoingOn_20 : decode cX2_decideByGoingOn 20 = .ok (.invokevirtual 46, 3) := by decide +kernel
theorem dX2_decideByGoingOn_23 : decode cX2_decideByGoingOn 23 = .ok (.iinc 2 1, 3) := by decide +kernel
theorem dX2_decideByGoingOn_26 : decode cX2_decideByGoingOn 26 = .ok (.goto (-19), 3) := by decide +kernel
theorem dX2_decideByGoingOn_29 : decode cX2_decideByGoingOn 29 = .ok (.iconst 0, 1) := by decide +kernel
theorem dX2_decideByGoingOn_30 : decode cX2_decideByGoingOn 30 = .ok (.istore_n 2, 1) := by decide +kernel
theorem dX2_decideByGoingOn_31 : decode cX2_decideByGoingOn 31 = .ok (.iload_n 2, 1) := by decide +kernel
theorem dX2_decideByGoingOn_32 : decode cX2_decideByGoingOn 32 = .ok (.aload_n 0, 1) := by decide +kernel
theorem dX2_decideByGoingOn_33 : decode cX2_decideByGoingOn 33 = .ok (.getfield 19, 3) := by decide +kernel
theorem dX2_decideByGoingOn_36 : decode cX2_decideByGoingOn 36 = .ok (.if_icmp .ge 25, 3) := by decide +kernel
theorem dX2_decideByGoingOn_39 : decode cX2_decideByGoingOn 39 = .ok (.iload_n 2, 1) := by decide +kernel
theorem dX2_decideByGoingOn_40 : decode cX2_decideByGoingOn 40 = .ok (.bipush 16, 2) := by decide +kernel
theorem dX2_decideByGoingOn_42 : decode cX2_decideByGoingOn 42 = .ok (.if_icmp .ge 19, 3) := by decide +kernel
theorem dX2_decideByGoingOn_45 : decode cX2_decideByGoingOn 45 = .ok (.aload_n 0, 1) := by decide +kernel
theorem dX2_decideByGoingOn_46 : decode cX2_decideByGoingOn 46 = .ok (.aload_n 0, 1) := by decide +kernel
theorem dX2_decideByGoingOn_47 : decode cX2_decideByGoingOn 47 = .ok (.getfield 15, 3) := by decide +kernel
theorem dX2_decideByGoingOn_50 : decode cX2_decideByGoingOn 50 = .ok (.iload_n 2, 1) := by decide +kernel
theorem dX2_decideByGoingOn_51 : decode cX2_decideByGoingOn 51 = .ok (.iaload, 1) := by decide +kernel
theorem dX2_decideByGoingOn_52 : decode cX2_decideByGoingOn 52 = .ok (.invokevirtual 49, 3) := by decide +kernel
theorem dX2_decideByGoingOn_55 : decode cX2_decideByGoingOn 55 = .ok (.iinc 2 1, 3) := by decide +kernel
theorem dX2_decideByGoingOn_58 : decode cX2_decideByGoingOn 58 = .ok (.goto (-27), 3) := by decide +kernel
theorem dX2_decideByGoingOn_61 : decode cX2_decideByGoingOn 61 = .ok (.return_, 1) := by decide +kernel
set_option maxRecDepth 20000 in
theorem ggX2_decideInRounds_X2_openAll : GoodIn wsX2_decideInRounds wsX2_openAll := goodIn_r _ [6, 7, 8, 9, 10, 35, 36, 37, 38, 39, 40] (by decide +kernel) (by decide +kernel)
set_option maxRecDepth 20000 in
theorem gX2_decideInRounds_X2_openAll : GoodIn wsX2_decideInRounds (wsV RX2 36 RX2 yX2_openAll wsX2_openAll) := goodIn_app (goodIn_of _ (by decide +kernel)) ggX2_decideInRounds_X2_openAll
set_option maxRecDepth 20000 in
theorem ggX2_decideInRounds_X0_size : GoodIn wsX2_decideInRounds wsX0_size := goodIn_r _ [15, 16, 41, 42, 43, 44, 45, 46, 47] (by decide +kernel) (by decide +kernel)
set_option maxRecDepth 20000 in
theorem gX2_decideInRounds_X0_size : GoodIn wsX2_decideInRounds (wsV RX2 40 RX0 yX0_size wsX0_size) := goodIn_app (goodIn_of _ (by decide +kernel)) ggX2_decideInRounds_X0_size
set_option maxRecDepth 20000 in
theorem ggX2_decideInRounds_X2_decide : GoodIn wsX2_decideInRounds wsX2_decide := goodIn_r _ [20, 9, 10, 1, 8, 21, 22, 23, 24, 25, 26, 14, 27, 28, 29, 30, 31, 32, 33, 34, 35, 36, 37, 38, 39, 40, 41, 42, 43, 44, 45, 46, 47] (by decide +kernel) (by decide +kernel)
set_option maxRecDepth 20000 in
theorem gX2_decideInRounds_X2_decide : GoodIn wsX2_decideInRounds (wsV RX2 52 RX2 yX2_decide wsX2_decide) := goodIn_app (goodIn_of _ (by decide +kernel)) ggX2_decideInRounds_X2_decide
theorem dX2_decideInRounds_0 : decode cX2_decideInRounds 0 = .ok (.aload_n 0, 1) := by decide +kernel
theorem dX2_decideInRounds_1 : decode cX2_decideInRounds 1 = .ok (.iload_n 1, 1) := by decide +kernel
theorem dX2_decideInRounds_2 : decode cX2_decideInRounds 2 = .ok (.invokevirtual 36, 3) := by decide +kernel
theorem dX2_decideInRounds_5 : decode cX2_decideInRounds 5 = .ok (.iconst 1, 1) := by decide +kernel
theorem dX2_decideInRounds_6 : decode cX2_decideInRounds 6 = .ok (.istore_n 2, 1) := by decide +kernel
theorem dX2_decideInRounds_7 : decode cX2_decideInRounds 7 = .ok (.iconst 0, 1) := by decide +kernel
theorem dX2_decideInRounds_8 : decode cX2_decideInRounds 8 = .ok (.istore_n 3, 1) := by decide +kernel
theorem dX2_decideInRounds_9 : decode cX2_decideInRounds 9 = .ok (.iload_n 2, 1) := by decide +kernel
theorem dX2_decideInRounds_10 : decode cX2_decideInRounds 10 = .ok (.ifCond .eq 49, 3) := by decide +kernel
theorem dX2_decideInRounds_13 : decode cX2_decideInRounds 13 = .ok (.iload_n 3, 1) := by decide +kernel
theorem dX2_decideInRounds_14 : decode cX2_decideInRounds 14 = .ok (.bipush 16, 2) := by decide +kernel
theorem dX2_decideInRounds_16 : decode cX2_decideInRounds 16 = .ok (.if_icmp .ge 43, 3) := by decide +kernel
theorem dX2_decideInRounds_19 : decode cX2_decideInRounds 19 = .ok (.iconst 0, 1) := by decide +kernel
theorem dX2_decideInRounds_20 : decode cX2_decideInRounds 20 = .ok (.istore_n 2, 1) := by decide +kernel
theorem dX2_decideInRounds_21 : decode cX2_decideInRounds 21 = .ok (.iconst 0, 1) := by decide +kernel
theorem dX2_decideInRounds_22 : decode cX2_decideInRounds 22 = .ok (.istore 4, 2) := by decide +kernel
theorem dX2_decideInRounds_24 : decode cX2_decideInRounds 24 = .ok (.iload 4, 2) := by decide +kernel
theorem dX2_decideInRounds_26 : decode cX2_decideInRounds 26 = .ok (.aload_n 0, 1) := by decide +kernel
theorem dX2_decideInRounds_27 : decode cX2_decideInRounds 27 = .ok (.getfield 9, 3) := by decide +kernel
theorem dX2_decideInRounds_30 : decode cX2_decideInRounds 30 = .ok (.invokevirtual 40, 3) := by decide +kernel
theorem dX2_decideInRounds_33 : decode cX2_decideInRounds 33 = .ok (.if_icmp .ge 20, 3) := by decide +kernel
theorem dX2_decideInRounds_36 : decode cX2_decideInRounds 36 = .ok (.aload_n 0, 1) := by decide +kernel
theorem dX2_decideInRounds_37 : decode cX2_decideInRounds 37 = .ok (.iload 4, 2) := by decide +kernel
theorem dX2_decideInRounds_39 : decode cX2_decideInRounds 39 = .ok (.invokevirtual 52, 3) := by decide +kernel
theorem dX2_decideInRounds_42 : decode cX2_decideInRounds 42 = .ok (.ifCond .eq 5, 3) := by decide +kernel
theorem dX2_decideInRounds_45 : decode cX2_decideInRounds 45 = .ok (.iconst 1, 1) := by decide +kernel
theorem dX2_decideInRounds_46 : decode cX2_decideInRounds 46 = .ok (.istore_n 2, 1) := by decide +kernel
theorem dX2_decideInRounds_47 : decode cX2_decideInRounds 47 = .ok (.iinc 4 1, 3) := by decide +kernel
theorem dX2_decideInRounds_50 : decode cX2_decideInRounds 50 = .ok (.goto (-26), 3) := by decide +kernel
theorem dX2_decideInRounds_53 : decode cX2_decideInRounds 53 = .ok (.iinc 3 1, 3) := by decide +kernel
theorem dX2_decideInRounds_56 : decode cX2_decideInRounds 56 = .ok (.goto (-47), 3) := by decide +kernel
theorem dX2_decideInRounds_59 : decode cX2_decideInRounds 59 = .ok (.return_, 1) := by decide +kernel
theorem dX2_openAll_0 : decode cX2_openAll 0 = .ok (.aload_n 0, 1) := by decide +kernel
theorem dX2_openAll_1 : decode cX2_openAll 1 = .ok (.iconst 0, 1) := by decide +kernel
theorem dX2_openAll_2 : decode cX2_openAll 2 = .ok (.putfield 19, 3) := by decide +kernel
theorem dX2_openAll_5 : decode cX2_openAll 5 = .ok (.aload_n 0, 1) := by decide +kernel
theorem dX2_openAll_6 : decode cX2_openAll 6 = .ok (.iload_n 1, 1) := by decide +kernel
theorem dX2_openAll_7 : decode cX2_openAll 7 = .ok (.putfield 23, 3) := by decide +kernel
theorem dX2_openAll_10 : decode cX2_openAll 10 = .ok (.aload_n 0, 1) := by decide +kernel
theorem dX2_openAll_11 : decode cX2_openAll 11 = .ok (.iconst 0, 1) := by decide +kernel
theorem dX2_openAll_12 : decode cX2_openAll 12 = .ok (.putfield 26, 3) := by decide +kernel
theorem dX2_openAll_15 : decode cX2_openAll 15 = .ok (.aload_n 0, 1) := by decide +kernel
theorem dX2_openAll_16 : decode cX2_openAll 16 = .ok (.iconst 0, 1) := by decide +kernel
theorem dX2_openAll_17 : decode cX2_openAll 17 = .ok (.putfield 29, 3) := by decide +kernel
theorem dX2_openAll_20 : decode cX2_openAll 20 = .ok (.return_, 1) := by decide +kernel
set_option maxRecDepth 20000 in
theorem ggX2_goOnFrom_X0_size : GoodIn wsX2_goOnFrom wsX0_size := goodIn_r _ [6, 7, 46, 47, 48, 49, 50, 51, 52] (by decide +kernel) (by decide +kernel)
set_option maxRecDepth 20000 in
theorem gX2_goOnFrom_X0_size : GoodIn wsX2_goOnFrom (wsV RX2 40 RX0 yX0_size wsX0_size) := goodIn_app (goodIn_of _ (by decide +kernel)) ggX2_goOnFrom_X0_size
set_option maxRecDepth 20000 in
theorem ggX2_goOnFrom_X0_matters : GoodIn wsX2_goOnFrom wsX0_matters := goodIn_r _ [11, 12, 13, 14, 15, 16, 46, 47, 48, 49, 50, 51, 52] (by decide +kernel) (by decide +kernel)
set_option maxRecDepth 20000 in
theorem gX2_goOnFrom_X0_matters : GoodIn wsX2_goOnFrom (wsV RX2 56 RX0 yX0_matters wsX0_matters) := goodIn_app (goodIn_of _ (by decide +kernel)) ggX2_goOnFrom_X0_matters
set_option maxRecDepth 20000 in
theorem ggX2_goOnFrom_X2_decideAndQueue : GoodIn wsX2_goOnFrom wsX2_decideAndQueue := goodIn_r _ [21, 22, 23, 24, 25, 26, 20, 27, 28, 29, 1, 30, 14, 15, 16, 31, 32, 33, 5, 34, 35, 12, 13, 36, 37, 38, 39, 40, 41, 42, 43, 44, 45, 46, 47, 48, 49, 50, 51, 52] (by decide +kernel) (by decide +kernel)
set_option maxRecDepth 20000 in
theorem gX2_goOnFrom_X2_decideAndQueue : GoodIn wsX2_goOnFrom (wsV RX2 46 RX2 yX2_decideAndQueue wsX2_decideAndQueue) := goodIn_app (goodIn_of _ (by decide +kernel)) ggX2_goOnFrom_X2_decideAndQueue
theorem dX2_goOnFrom_0 : decode cX2_goOnFrom 0 = .ok (.iconst 0, 1) := by decide +kernel
theorem dX2_goOnFrom_1 : decode cX2_goOnFrom 1 = .ok (.istore_n 2, 1) := by decide +kernel
theorem dX2_goOnFrom_2 : decode cX2_goOnFrom 2 = .ok (.iload_n 2, 1) := by decide +kernel
theorem dX2_goOnFrom_3 : decode cX2_goOnFrom 3 = .ok (.aload_n 0, 1) := by decide +kernel
theorem dX2_goOnFrom_4 : decode cX2_goOnFrom 4 = .ok (.getfield 9, 3) := by decide +kernel
theorem dX2_goOnFrom_7 : decode cX2_goOnFrom 7 = .ok (.invokevirtual 40, 3) := by decide +kernel
theorem dX2_goOnFrom_10 : decode cX2_goOnFrom 10 = .ok (.if_icmp .ge 26, 3) := by decide +kernel
theorem dX2_goOnFrom_13 : decode cX2_goOnFrom 13 = .ok (.aload_n 0, 1) := by decide +kernel
theorem dX2_goOnFrom_14 : decode cX2_goOnFrom 14 = .ok (.getfield 9, 3) := by decide +kernel
theorem dX2_goOnFrom_17 : decode cX2_goOnFrom 17 = .ok (.iload_n 2, 1) := by decide +kernel
theorem dX2_goOnFrom_18 : decode cX2_goOnFrom 18 = .ok (.iload_n 1, 1) := by decide +kernel
theorem dX2_goOnFrom_19 : decode cX2_goOnFrom 19 = .ok (.invokevirtual 56, 3) := by decide +kernel
theorem dX2_goOnFrom_22 : decode cX2_goOnFrom 22 = .ok (.ifCond .eq 8, 3) := by decide +kernel
theorem dX2_goOnFrom_25 : decode cX2_goOnFrom 25 = .ok (.aload_n 0, 1) := by decide +kernel
theorem dX2_goOnFrom_26 : decode cX2_goOnFrom 26 = .ok (.iload_n 2, 1) := by decide +kernel
theorem dX2_goOnFrom_27 : decode cX2_goOnFrom 27 = .ok (.invokevirtual 46, 3) := by decide +kernel
theorem dX2_goOnFrom_30 : decode cX2_goOnFrom 30 = .ok (.iinc 2 1, 3) := by decide +kernel
theorem dX2_goOnFrom_33 : decode cX2_goOnFrom 33 = .ok (.goto (-31), 3) := by decide +kernel
theorem dX2_goOnFrom_36 : decode cX2_goOnFrom 36 = .ok (.return_, 1) := by decide +kernel
set_option maxRecDepth 20000 in
theorem ggX2_decideAndQueue_X2_decide : GoodIn wsX2_decideAndQueue wsX2_decide := goodIn_r _ [7, 8, 9, 10, 11, 12, 13, 14, 15, 16, 17, 18, 19, 20, 21, 22, 23, 24, 25, 26, 27, 28, 29, 30, 31, 32, 33, 34, 35, 36, 37, 38, 39] (by decide +kernel) (by decide +kernel)
set_option maxRecDepth 20000 in
theorem gX2_decideAndQueue_X2_decide : GoodIn wsX2_decideAndQueue (wsV RX2 52 RX2 yX2_decide wsX2_decide) := goodIn_app (goodIn_of _ (by decide +kernel)) ggX2_decideAndQueue_X2_decide
theorem dX2_decideAndQueue_0 : decode cX2_decideAndQueue 0 = .ok (.aload_n 0, 1) := by decide +kernel
theorem dX2_decideAndQueue_1 : decode cX2_decideAndQueue 1 = .ok (.iload_n 1, 1) := by decide +kernel
theorem dX2_decideAndQueue_2 : decode cX2_decideAndQueue 2 = .ok (.invokevirtual 52, 3) := by decide +kernel
theorem dX2_decideAndQueue_5 : decode cX2_decideAndQueue 5 = .ok (.ifCond .eq 32, 3) := by decide +kernel
theorem dX2_decideAndQueue_8 : decode cX2_decideAndQueue 8 = .ok (.aload_n 0, 1) := by decide +kernel
theorem dX2_decideAndQueue_9 : decode cX2_decideAndQueue 9 = .ok (.getfield 19, 3) := by decide +kernel
theorem dX2_decideAndQueue_12 : decode cX2_decideAndQueue 12 = .ok (.bipush 16, 2) := by decide +kernel
theorem dX2_decideAndQueue_14 : decode cX2_decideAndQueue 14 = .ok (.if_icmp .ge 23, 3) := by decide +kernel
theorem dX2_decideAndQueue_17 : decode cX2_decideAndQueue 17 = .ok (.aload_n 0, 1) := by decide +kernel
theorem dX2_decideAndQueue_18 : decode cX2_decideAndQueue 18 = .ok (.getfield 15, 3) := by decide +kernel
theorem dX2_decideAndQueue_21 : decode cX2_decideAndQueue 21 = .ok (.aload_n 0, 1) := by decide +kernel
theorem dX2_decideAndQueue_22 : decode cX2_decideAndQueue 22 = .ok (.getfield 19, 3) := by decide +kernel
theorem dX2_decideAndQueue_25 : decode cX2_decideAndQueue 25 = .ok (.iload_n 1, 1) := by decide +kernel
theorem dX2_decideAndQueue_26 : decode cX2_decideAndQueue 26 = .ok (.iastore, 1) := by decide +kernel
theorem dX2_decideAndQueue_27 : decode cX2_decideAndQueue 27 = .ok (.aload_n 0, 1) := by decide +kernel
theorem dX2_decideAndQueue_28 : decode cX2_decideAndQueue 28 = .ok (.dup, 1) := by decide +kernel
theorem dX2_decideAndQueue_29 : decode cX2_decideAndQueue 29 = .ok (.getfield 19, 3) := by decide +kernel
theorem dX2_decideAndQueue_32 : decode cX2_decideAndQueue 32 = .ok (.iconst 1, 1) := by decide +kernel
theorem dX2_decideAndQueue_33 : decode cX2_decideAndQueue 33 = .ok (.iadd, 1) := by decide +kernel
theorem dX2_decideAndQueue_34 : decode cX2_decideAndQueue 34 = .ok (.putfield 19, 3) := by decide +kernel
theorem dX2_decideAndQueue_37 : decode cX2_decideAndQueue 37 = .ok (.return_, 1) := by decide +kernel
set_option maxRecDepth 20000 in
theorem ggX2_decide_X3_contains : GoodIn wsX2_decide wsX3_contains := goodIn_r _ [7] (by decide +kernel) (by decide +kernel)
set_option maxRecDepth 20000 in
theorem gX2_decide_X3_contains_n32 : GoodIn wsX2_decide (wsX3_contains) := ggX2_decide_X3_contains
set_option maxRecDepth 20000 in
theorem ggX2_decide_X0_fails : GoodIn wsX2_decide wsX0_fails := goodIn_r _ [12, 13, 14, 15, 26, 27, 28, 29, 30, 31, 32] (by decide +kernel) (by decide +kernel)
set_option maxRecDepth 20000 in
theorem gX2_decide_X0_fails : GoodIn wsX2_decide (wsV RX2 59 RX0 yX0_fails wsX0_fails) := goodIn_app (goodIn_of _ (by decide +kernel)) ggX2_decide_X0_fails
set_option maxRecDepth 20000 in
theorem ggX2_decide_X0_holds : GoodIn wsX2_decide wsX0_holds := goodIn_r _ [19, 13, 14, 15, 26, 27, 28, 29, 30, 31, 32] (by decide +kernel) (by decide +kernel)
set_option maxRecDepth 20000 in
theorem gX2_decide_X0_holds : GoodIn wsX2_decide (wsV RX2 63 RX0 yX0_holds wsX0_holds) := goodIn_app (goodIn_of _ (by decide +kernel)) ggX2_decide_X0_holds
theorem dX2_decide_0 : decode cX2_decide 0 = .ok (.aload_n 0, 1) := by decide +kernel
theorem dX2_decide_1 : decode cX2_decide 1 = .ok (.getfield 26, 3) := by decide +kernel
theorem dX2_decide_4 : decode cX2_decide 4 = .ok (.aload_n 0, 1) := by decide +kernel
theorem dX2_decide_5 : decode cX2_decide 5 = .ok (.getfield 29, 3) := by decide +kernel
theorem dX2_decide_8 : decode cX2_decide 8 = .ok (.ior, 1) := by decide +kernel
theorem dX2_decide_9 : decode cX2_decide 9 = .ok (.iload_n 1, 1) := by decide +kernel
theorem dX2_decide_10 : decode cX2_decide 10 = .ok (.invokestatic 32, 3) := by decide +kernel
theorem dX2_decide_13 : decode cX2_decide 13 = .ok (.ifCond .eq 5, 3) := by decide +kernel
theorem dX2_decide_16 : decode cX2_decide 16 = .ok (.iconst 0, 1) := by decide +kernel
theorem dX2_decide_17 : decode cX2_decide 17 = .ok (.ireturn, 1) := by decide +kernel
theorem dX2_decide_18 : decode cX2_decide 18 = .ok (.aload_n 0, 1) := by decide +kernel
theorem dX2_decide_19 : decode cX2_decide 19 = .ok (.getfield 9, 3) := by decide +kernel
theorem dX2_decide_22 : decode cX2_decide 22 = .ok (.iload_n 1, 1) := by decide +kernel
theorem dX2_decide_23 : decode cX2_decide 23 = .ok (.aload_n 0, 1) := by decide +kernel
theorem dX2_decide_24 : decode cX2_decide 24 = .ok (.getfield 23, 3) := by decide +kernel
theorem dX2_decide_27 : decode cX2_decide 27 = .ok (.aload_n 0, 1) := by decide +kernel
theorem dX2_decide_28 : decode cX2_decide 28 = .ok (.getfield 26, 3) := by decide +kernel
theorem dX2_decide_31 : decode cX2_decide 31 = .ok (.aload_n 0, 1) := by decide +kernel
theorem dX2_decide_32 : decode cX2_decide 32 = .ok (.getfield 29, 3) := by decide +kernel
theorem dX2_decide_35 : decode cX2_decide 35 = .ok (.invokevirtual 59, 3) := by decide +kernel
theorem dX2_decide_38 : decode cX2_decide 38 = .ok (.ifCond .eq 17, 3) := by decide +kernel
theorem dX2_decide_41 : decode cX2_decide 41 = .ok (.aload_n 0, 1) := by decide +kernel
theorem dX2_decide_42 : decode cX2_decide 42 = .ok (.dup, 1) := by decide +kernel
theorem dX2_decide_43 : decode cX2_decide 43 = .ok (.getfield 29, 3) := by decide +kernel
theorem dX2_decide_46 : decode cX2_decide 46 = .ok (.iconst 1, 1) := by decide +kernel
theorem dX2_decide_47 : decode cX2_decide 47 = .ok (.iload_n 1, 1) := by decide +kernel
theorem dX2_decide_48 : decode cX2_decide 48 = .ok (.ishl, 1) := by decide +kernel
theorem dX2_decide_49 : decode cX2_decide 49 = .ok (.ior, 1) := by decide +kernel
theorem dX2_decide_50 : decode cX2_decide 50 = .ok (.putfield 29, 3) := by decide +kernel
theorem dX2_decide_53 : decode cX2_decide 53 = .ok (.iconst 1, 1) := by decide +kernel
theorem dX2_decide_54 : decode cX2_decide 54 = .ok (.ireturn, 1) := by decide +kernel
theorem dX2_decide_55 : decode cX2_decide 55 = .ok (.aload_n 0, 1) := by decide +kernel
theorem dX2_decide_56 : decode cX2_decide 56 = .ok (.getfield 9, 3) := by decide +kernel
theorem dX2_decide_59 : decode cX2_decide 59 = .ok (.iload_n 1, 1) := by decide +kernel
theorem dX2_decide_60 : decode cX2_decide 60 = .ok (.aload_n 0, 1) := by decide +kernel
theorem dX2_decide_61 : decode cX2_decide 61 = .ok (.getfield 23, 3) := by decide +kernel
theorem dX2_decide_64 : decode cX2_decide 64 = .ok (.aload_n 0, 1) := by decide +kernel
theorem dX2_decide_65 : decode cX2_decide 65 = .ok (.getfield 26, 3) := by decide +kernel
theorem dX2_decide_68 : decode cX2_decide 68 = .ok (.aload_n 0, 1) := by decide +kernel
theorem dX2_decide_69 : decode cX2_decide 69 = .ok (.getfield 29, 3) := by decide +kernel
theorem dX2_decide_72 : decode cX2_decide 72 = .ok (.invokevirtual 63, 3) := by decide +kernel
theorem dX2_decide_75 : decode cX2_decide 75 = .ok (.ifCond .eq 17, 3) := by decide +kernel
theorem dX2_decide_78 : decode cX2_decide 78 = .ok (.aload_n 0, 1) := by decide +kernel
theorem dX2_decide_79 : decode cX2_decide 79 = .ok (.dup, 1) := by decide +kernel
theorem dX2_decide_80 : decode cX2_decide 80 = .ok (.getfield 26, 3) := by decide +kernel
theorem dX2_decide_83 : decode cX2_decide 83 = .ok (.iconst 1, 1) := by decide +kernel
theorem dX2_decide_84 : decode cX2_decide 84 = .ok (.iload_n 1, 1) := by decide +kernel
theorem dX2_decide_85 : decode cX2_decide 85 = .ok (.ishl, 1) := by decide +kernel
theorem dX2_decide_86 : decode cX2_decide 86 = .ok (.ior, 1) := by decide +kernel
theorem dX2_decide_87 : decode cX2_decide 87 = .ok (.putfield 26, 3) := by decide +kernel
theorem dX2_decide_90 : decode cX2_decide 90 = .ok (.iconst 1, 1) := by decide +kernel
theorem dX2_decide_91 : decode cX2_decide 91 = .ok (.ireturn, 1) := by decide +kernel
theorem dX2_decide_92 : decode cX2_decide 92 = .ok (.iconst 0, 1) := by decide +kernel
theorem dX2_decide_93 : decode cX2_decide 93 = .ok (.ireturn, 1) := by decide +kernel
theorem dJ7_fill_53178_0 : decode cJ7_fill_53178 0 = .ok (.iconst 0, 1) := by decide +kernel
theorem dJ7_fill_53178_1 : decode cJ7_fill_53178 1 = .ok (.istore_n 2, 1) := by decide +kernel
theorem dJ7_fill_53178_2 : decode cJ7_fill_53178 2 = .ok (.aload_n 0, 1) := by decide +kernel
theorem dJ7_fill_53178_3 : decode cJ7_fill_53178 3 = .ok (.arraylength, 1) := by decide +kernel
theorem dJ7_fill_53178_4 : decode cJ7_fill_53178 4 = .ok (.istore_n 3, 1) := by decide +kernel
theorem dJ7_fill_53178_5 : decode cJ7_fill_53178 5 = .ok (.iload_n 2, 1) := by decide +kernel
theorem dJ7_fill_53178_6 : decode cJ7_fill_53178 6 = .ok (.iload_n 3, 1) := by decide +kernel
theorem dJ7_fill_53178_7 : decode cJ7_fill_53178 7 = .ok (.if_icmp .ge 13, 3) := by decide +kernel
theorem dJ7_fill_53178_10 : decode cJ7_fill_53178 10 = .ok (.aload_n 0, 1) := by decide +kernel
theorem dJ7_fill_53178_11 : decode cJ7_fill_53178 11 = .ok (.iload_n 2, 1) := by decide +kernel
theorem dJ7_fill_53178_12 : decode cJ7_fill_53178 12 = .ok (.iload_n 1, 1) := by decide +kernel
theorem dJ7_fill_53178_13 : decode cJ7_fill_53178 13 = .ok (.iastore, 1) := by decide +kernel
theorem dJ7_fill_53178_14 : decode cJ7_fill_53178 14 = .ok (.iinc 2 1, 3) := by decide +kernel
theorem dJ7_fill_53178_17 : decode cJ7_fill_53178 17 = .ok (.goto (-12), 3) := by decide +kernel
theorem dJ7_fill_53178_20 : decode cJ7_fill_53178 20 = .ok (.return_, 1) := by decide +kernel
