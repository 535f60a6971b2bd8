theorem dX4_score_1 : decode cX4_score 1 = .ok (.iload_n 1, 1) := by decide +kernel
theorem dX4_score_2 : decode cX4_score 2 = .ok (.invokevirtual 151, 3) := by decide +kernel
theorem dX4_score_5 : decode cX4_score 5 = .ok (.ifCond .eq 11, 3) := by decide +kernel
theorem dX4_score_8 : decode cX4_score 8 = .ok (.aload_n 0, 1) := by decide +kernel
theorem dX4_score_9 : decode cX4_score 9 = .ok (.iload_n 1, 1) := by decide +kernel
theorem dX4_score_10 : decode cX4_score 10 = .ok (.invokevirtual 61, 3) := by decide +kernel
theorem dX4_score_13 : decode cX4_score 13 = .ok (.goto 4, 3) := by decide +kernel
theorem dX4_score_16 : decode cX4_score 16 = .ok (.iconst (-1), 1) := by decide +kernel
theorem dX4_score_17 : decode cX4_score 17 = .ok (.ireturn, 1) := by decide +kernel
set_option maxRecDepth 20000 in
theorem ggX4_best_X4_isLetter : GoodIn wsX4_best wsX4_isLetter := goodIn_r _ [4, 5, 6, 3, 7] (by decide +kernel) (by decide +kernel)
set_option maxRecDepth 20000 in
theorem gX4_best_X4_isLetter : GoodIn wsX4_best (va_wsS RX4 116 yX4_isLetter wsX4_isLetter) := goodIn_app (goodIn_of _ (by decide +kernel)) ggX4_best_X4_isLetter
set_option maxRecDepth 20000 in
theorem ggX4_best_X4_isIn : GoodIn wsX4_best wsX4_isIn := goodIn_r _ [7] (by decide +kernel) (by decide +kernel)
set_option maxRecDepth 20000 in
theorem gX4_best_X4_isIn : GoodIn wsX4_best (va_wsS RX4 57 yX4_isIn wsX4_isIn) := goodIn_app (goodIn_of _ (by decide +kernel)) ggX4_best_X4_isIn
set_option maxRecDepth 20000 in
theorem ggX4_best_X4_bestOf : GoodIn wsX4_best wsX4_bestOf := goodIn_r _ [11, 12, 5, 6, 3, 7, 13, 14, 15, 16, 17, 18, 19, 20, 25, 26, 27, 28, 29, 30, 31, 32, 33, 34, 35, 36, 37, 38, 39, 40, 41, 42, 43] (by decide +kernel) (by decide +kernel)
set_option maxRecDepth 20000 in
theorem gX4_best_X4_bestOf : GoodIn wsX4_best (wsV RX4 71 RX4 yX4_bestOf wsX4_bestOf) := goodIn_app (goodIn_of _ (by decide +kernel)) ggX4_best_X4_bestOf
set_option maxRecDepth 20000 in
theorem ggX4_best_X4_scoreOf : GoodIn wsX4_best wsX4_scoreOf := goodIn_r _ [16, 12, 25, 26, 27, 28, 29, 30, 31, 32, 33, 34, 35, 36, 37, 38, 39, 40, 41, 42, 43] (by decide +kernel) (by decide +kernel)
set_option maxRecDepth 20000 in
theorem gX4_best_X4_scoreOf : GoodIn wsX4_best (wsV RX4 61 RX4 yX4_scoreOf wsX4_scoreOf) := goodIn_app (goodIn_of _ (by decide +kernel)) ggX4_best_X4_scoreOf
set_option maxRecDepth 20000 in
theorem ggX4_best_X4_isAccepted : GoodIn wsX4_best wsX4_isAccepted := goodIn_r _ [24, 12, 13, 14, 15, 3, 16, 25, 26, 27, 28, 29, 30, 31, 32, 33, 34, 35, 36, 37, 38, 39, 40, 41, 42, 43] (by decide +kernel) (by decide +kernel)
set_option maxRecDepth 20000 in
theorem gX4_best_X4_isAccepted : GoodIn wsX4_best (wsV RX4 74 RX4 yX4_isAccepted wsX4_isAccepted) := goodIn_app (goodIn_of _ (by decide +kernel)) ggX4_best_X4_isAccepted
theorem dX4_best_0 : decode cX4_best 0 = .ok (.iload_n 1, 1) := by decide +kernel
theorem dX4_best_1 : decode cX4_best 1 = .ok (.invokestatic 116, 3) := by decide +kernel
theorem dX4_best_4 : decode cX4_best 4 = .ok (.ifCond .eq 12, 3) := by decide +kernel
theorem dX4_best_7 : decode cX4_best 7 = .ok (.iload_n 2, 1) := by decide +kernel
theorem dX4_best_8 : decode cX4_best 8 = .ok (.iconst 0, 1) := by decide +kernel
theorem dX4_best_9 : decode cX4_best 9 = .ok (.iconst 2, 1) := by decide +kernel
theorem dX4_best_10 : decode cX4_best 10 = .ok (.invokestatic 57, 3) := by decide +kernel
theorem dX4_best_13 : decode cX4_best 13 = .ok (.ifCond .ne 5, 3) := by decide +kernel
theorem dX4_best_16 : decode cX4_best 16 = .ok (.iconst (-1), 1) := by decide +kernel
theorem dX4_best_17 : decode cX4_best 17 = .ok (.ireturn, 1) := by decide +kernel
theorem dX4_best_18 : decode cX4_best 18 = .ok (.aload_n 0, 1) := by decide +kernel
theorem dX4_best_19 : decode cX4_best 19 = .ok (.iload_n 1, 1) := by decide +kernel
theorem dX4_best_20 : decode cX4_best 20 = .ok (.invokevirtual 71, 3) := by decide +kernel
theorem dX4_best_23 : decode cX4_best 23 = .ok (.istore_n 3, 1) := by decide +kernel
theorem dX4_best_24 : decode cX4_best 24 = .ok (.iload_n 3, 1) := by decide +kernel
theorem dX4_best_25 : decode cX4_best 25 = .ok (.bipush (-9), 2) := by decide +kernel
theorem dX4_best_27 : decode cX4_best 27 = .ok (.if_icmp .ne 6, 3) := by decide +kernel
theorem dX4_best_30 : decode cX4_best 30 = .ok (.bipush (-9), 2) := by decide +kernel
theorem dX4_best_32 : decode cX4_best 32 = .ok (.ireturn, 1) := by decide +kernel
theorem dX4_best_33 : decode cX4_best 33 = .ok (.iload_n 2, 1) := by decide +kernel
theorem dX4_best_34 : decode cX4_best 34 = .ok (.ifCond .ne 7, 3) := by decide +kernel
theorem dX4_best_37 : decode cX4_best 37 = .ok (.iload_n 3, 1) := by decide +kernel
theorem dX4_best_38 : decode cX4_best 38 = .ok (.goto 29, 3) := by decide +kernel
theorem dX4_best_41 : decode cX4_best 41 = .ok (.iload_n 2, 1) := by decide +kernel
theorem dX4_best_42 : decode cX4_best 42 = .ok (.iconst 1, 1) := by decide +kernel
theorem dX4_best_43 : decode cX4_best 43 = .ok (.if_icmp .ne 11, 3) := by decide +kernel
theorem dX4_best_46 : decode cX4_best 46 = .ok (.aload_n 0, 1) := by decide +kernel
theorem dX4_best_47 : decode cX4_best 47 = .ok (.iload_n 3, 1) := by decide +kernel
theorem dX4_best_48 : decode cX4_best 48 = .ok (.invokevirtual 61, 3) := by decide +kernel
theorem dX4_best_51 : decode cX4_best 51 = .ok (.goto 16, 3) := by decide +kernel
theorem dX4_best_54 : decode cX4_best 54 = .ok (.aload_n 0, 1) := by decide +kernel
theorem dX4_best_55 : decode cX4_best 55 = .ok (.iload_n 3, 1) := by decide +kernel
theorem dX4_best_56 : decode cX4_best 56 = .ok (.invokevirtual 74, 3) := by decide +kernel
theorem dX4_best_59 : decode cX4_best 59 = .ok (.ifCond .eq 7, 3) := by decide +kernel
theorem dX4_best_62 : decode cX4_best 62 = .ok (.iconst 1, 1) := by decide +kernel
theorem dX4_best_63 : decode cX4_best 63 = .ok (.goto 4, 3) := by decide +kernel
theorem dX4_best_66 : decode cX4_best 66 = .ok (.iconst 0, 1) := by decide +kernel
theorem dX4_best_67 : decode cX4_best 67 = .ok (.ireturn, 1) := by decide +kernel
theorem dX4_isElsewhere_0 : decode cX4_isElsewhere 0 = .ok (.iload_n 2, 1) := by decide +kernel
theorem dX4_isElsewhere_1 : decode cX4_isElsewhere 1 = .ok (.iconst 1, 1) := by decide +kernel
theorem dX4_isElsewhere_2 : decode cX4_isElsewhere 2 = .ok (.isub, 1) := by decide +kernel
theorem dX4_isElsewhere_3 : decode cX4_isElsewhere 3 = .ok (.istore_n 3, 1) := by decide +kernel
theorem dX4_isElsewhere_4 : decode cX4_isElsewhere 4 = .ok (.iload_n 3, 1) := by decide +kernel
theorem dX4_isElsewhere_5 : decode cX4_isElsewhere 5 = .ok (.aload_n 0, 1) := by decide +kernel
theorem dX4_isElsewhere_6 : decode cX4_isElsewhere 6 = .ok (.getfield 7, 3) := by decide +kernel
theorem dX4_isElsewhere_9 : decode cX4_isElsewhere 9 = .ok (.bipush 9, 2) := by decide +kernel
theorem dX4_isElsewhere_11 : decode cX4_isElsewhere 11 = .ok (.iaload, 1) := by decide +kernel
theorem dX4_isElsewhere_12 : decode cX4_isElsewhere 12 = .ok (.if_icmp .ge 84, 3) := by decide +kernel
theorem dX4_isElsewhere_15 : decode cX4_isElsewhere 15 = .ok (.iload_n 3, 1) := by decide +kernel
theorem dX4_isElsewhere_16 : decode cX4_isElsewhere 16 = .ok (.iload_n 1, 1) := by decide +kernel
theorem dX4_isElsewhere_17 : decode cX4_isElsewhere 17 = .ok (.if_icmp .eq 7, 3) := by decide +kernel
theorem dX4_isElsewhere_20 : decode cX4_isElsewhere 20 = .ok (.iconst 1, 1) := by decide +kernel
theorem dX4_isElsewhere_21 : decode cX4_isElsewhere 21 = .ok (.goto 4, 3) := by decide +kernel
theorem dX4_isElsewhere_24 : decode cX4_isElsewhere 24 = .ok (.iconst 0, 1) := by decide +kernel
theorem dX4_isElsewhere_25 : decode cX4_isElsewhere 25 = .ok (.istore 4, 2) := by decide +kernel
theorem dX4_isElsewhere_27 : decode cX4_isElsewhere 27 = .ok (.iconst 0, 1) := by decide +kernel
theorem dX4_isElsewhere_28 : decode cX4_isElsewhere 28 = .ok (.istore 5, 2) := by decide +kernel
theorem dX4_isElsewhere_30 : decode cX4_isElsewhere 30 = .ok (.iload 5, 2) := by decide +kernel
theorem dX4_isElsewhere_32 : decode cX4_isElsewhere 32 = .ok (.iload_n 2, 1) := by decide +kernel
theorem dX4_isElsewhere_33 : decode cX4_isElsewhere 33 = .ok (.if_icmp .ge 50, 3) := by decide +kernel
theorem dX4_isElsewhere_36 : decode cX4_isElsewhere 36 = .ok (.iload 4, 2) := by decide +kernel
theorem dX4_isElsewhere_38 : decode cX4_isElsewhere 38 = .ok (.ifCond .eq 45, 3) := by decide +kernel
theorem dX4_isElsewhere_41 : decode cX4_isElsewhere 41 = .ok (.aload_n 0, 1) := by decide +kernel
theorem dX4_isElsewhere_42 : decode cX4_isElsewhere 42 = .ok (.getfield 7, 3) := by decide +kernel
theorem dX4_isElsewhere_45 : decode cX4_isElsewhere 45 = .ok (.sipush 150, 3) := by decide +kernel
theorem dX4_isElsewhere_48 : decode cX4_isElsewhere 48 = .ok (.iload_n 3, 1) := by decide +kernel
theorem dX4_isElsewhere_49 : decode cX4_isElsewhere 49 = .ok (.iadd, 1) := by decide +kernel
theorem dX4_isElsewhere_50 : decode cX4_isElsewhere 50 = .ok (.iload 5, 2) := by decide +kernel
theorem dX4_isElsewhere_52 : decode cX4_isElsewhere 52 = .ok (.isub, 1) := by decide +kernel
theorem dX4_isElsewhere_53 : decode cX4_isElsewhere 53 = .ok (.iaload, 1) := by decide +kernel
theorem dX4_isElsewhere_54 : decode cX4_isElsewhere 54 = .ok (.aload_n 0, 1) := by decide +kernel
theorem dX4_isElsewhere_55 : decode cX4_isElsewhere 55 = .ok (.getfield 7, 3) := by decide +kernel
theorem dX4_isElsewhere_58 : decode cX4_isElsewhere 58 = .ok (.sipush 150, 3) := by decide +kernel
theorem dX4_isElsewhere_61 : decode cX4_isElsewhere 61 = .ok (.iload_n 1, 1) := by decide +kernel
theorem dX4_isElsewhere_62 : decode cX4_isElsewhere 62 = .ok (.iadd, 1) := by decide +kernel
theorem dX4_isElsewhere_63 : decode cX4_isElsewhere 63 = .ok (.iload 5, 2) := by decide +kernel
theorem dX4_isElsewhere_65 : decode cX4_isElsewhere 65 = .ok (.isub, 1) := by decide +kernel
theorem dX4_isElsewhere_66 : decode cX4_isElsewhere 66 = .ok (.iaload, 1) := by decide +kernel
theorem dX4_isElsewhere_67 : decode cX4_isElsewhere 67 = .ok (.if_icmp .ne 7, 3) := by decide +kernel
theorem dX4_isElsewhere_70 : decode cX4_isElsewhere 70 = .ok (.iconst 1, 1) := by decide +kernel
theorem dX4_isElsewhere_71 : decode cX4_isElsewhere 71 = .ok (.goto 4, 3) := by decide +kernel
theorem dX4_isElsewhere_74 : decode cX4_isElsewhere 74 = .ok (.iconst 0, 1) := by decide +kernel
theorem dX4_isElsewhere_75 : decode cX4_isElsewhere 75 = .ok (.istore 4, 2) := by decide +kernel
theorem dX4_isElsewhere_77 : decode cX4_isElsewhere 77 = .ok (.iinc 5 1, 3) := by decide +kernel
theorem dX4_isElsewhere_80 : decode cX4_isElsewhere 80 = .ok (.goto (-50), 3) := by decide +kernel
theorem dX4_isElsewhere_83 : decode cX4_isElsewhere 83 = .ok (.iload 4, 2) := by decide +kernel
theorem dX4_isElsewhere_85 : decode cX4_isElsewhere 85 = .ok (.ifCond .eq 5, 3) := by decide +kernel
theorem dX4_isElsewhere_88 : decode cX4_isElsewhere 88 = .ok (.iconst 1, 1) := by decide +kernel
theorem dX4_isElsewhere_89 : decode cX4_isElsewhere 89 = .ok (.ireturn, 1) := by decide +kernel
theorem dX4_isElsewhere_90 : decode cX4_isElsewhere 90 = .ok (.iinc 3 1, 3) := by decide +kernel
theorem dX4_isElsewhere_93 : decode cX4_isElsewhere 93 = .ok (.goto (-89), 3) := by decide +kernel
theorem dX4_isElsewhere_96 : decode cX4_isElsewhere 96 = .ok (.iconst 0, 1) := by decide +kernel
theorem dX4_isElsewhere_97 : decode cX4_isElsewhere 97 = .ok (.ireturn, 1) := by decide +kernel
set_option maxRecDepth 20000 in
theorem ggX4_unique_X4_isWord : GoodIn wsX4_unique wsX4_isWord := goodIn_r _ [5, 6, 7, 8, 4, 9, 14, 15, 16, 17, 18, 19, 20, 21, 22, 23, 24, 25, 26, 27, 28, 29, 30, 31, 32] (by decide +kernel) (by decide +kernel)
set_option maxRecDepth 20000 in
theorem gX4_unique_X4_isWord : GoodIn wsX4_unique (wsV RX4 151 RX4 yX4_isWord wsX4_isWord) := goodIn_app (goodIn_of _ (by decide +kernel)) ggX4_unique_X4_isWord
set_option maxRecDepth 20000 in
theorem ggX4_unique_X4_isElsewhere : GoodIn wsX4_unique wsX4_isElsewhere := goodIn_r _ [13, 6, 14, 15, 16, 17, 18, 19, 20, 21, 22, 23, 24, 25, 26, 27, 28, 29, 30, 31, 32] (by decide +kernel) (by decide +kernel)
set_option maxRecDepth 20000 in
theorem gX4_unique_X4_isElsewhere : GoodIn wsX4_unique (wsV RX4 157 RX4 yX4_isElsewhere wsX4_isElsewhere) := goodIn_app (goodIn_of _ (by decide +kernel)) ggX4_unique_X4_isElsewhere
theorem dX4_unique_0 : decode cX4_unique 0 = .ok (.aload_n 0, 1) := by decide +kernel
theorem dX4_unique_1 : decode cX4_unique 1 = .ok (.iload_n 1, 1) := by decide +kernel
theorem dX4_unique_2 : decode cX4_unique 2 = .ok (.invokevirtual 151, 3) := by decide +kernel
theorem dX4_unique_5 : decode cX4_unique 5 = .ok (.ifCond .ne 5, 3) := by decide +kernel
theorem dX4_unique_8 : decode cX4_unique 8 = .ok (.iconst (-1), 1) := by decide +kernel
theorem dX4_unique_9 : decode cX4_unique 9 = .ok (.ireturn, 1) := by decide +kernel
theorem dX4_unique_10 : decode cX4_unique 10 = .ok (.iconst 1, 1) := by decide +kernel
theorem dX4_unique_11 : decode cX4_unique 11 = .ok (.istore_n 2, 1) := by decide +kernel
theorem dX4_unique_12 : decode cX4_unique 12 = .ok (.iload_n 2, 1) := by decide +kernel
theorem dX4_unique_13 : decode cX4_unique 13 = .ok (.iconst 4, 1) := by decide +kernel
theorem dX4_unique_14 : decode cX4_unique 14 = .ok (.if_icmp .gt 27, 3) := by decide +kernel
theorem dX4_unique_17 : decode cX4_unique 17 = .ok (.iload_n 2, 1) := by decide +kernel
theorem dX4_unique_18 : decode cX4_unique 18 = .ok (.iload_n 1, 1) := by decide +kernel
theorem dX4_unique_19 : decode cX4_unique 19 = .ok (.iconst 1, 1) := by decide +kernel
theorem dX4_unique_20 : decode cX4_unique 20 = .ok (.iadd, 1) := by decide +kernel
theorem dX4_unique_21 : decode cX4_unique 21 = .ok (.if_icmp .gt 20, 3) := by decide +kernel
theorem dX4_unique_24 : decode cX4_unique 24 = .ok (.aload_n 0, 1) := by decide +kernel
theorem dX4_unique_25 : decode cX4_unique 25 = .ok (.iload_n 1, 1) := by decide +kernel
theorem dX4_unique_26 : decode cX4_unique 26 = .ok (.iload_n 2, 1) := by decide +kernel
theorem dX4_unique_27 : decode cX4_unique 27 = .ok (.invokevirtual 157, 3) := by decide +kernel
theorem dX4_unique_30 : decode cX4_unique 30 = .ok (.ifCond .ne 5, 3) := by decide +kernel
theorem dX4_unique_33 : decode cX4_unique 33 = .ok (.iload_n 2, 1) := by decide +kernel
theorem dX4_unique_34 : decode cX4_unique 34 = .ok (.ireturn, 1) := by decide +kernel
theorem dX4_unique_35 : decode cX4_unique 35 = .ok (.iinc 2 1, 3) := by decide +kernel
theorem dX4_unique_38 : decode cX4_unique 38 = .ok (.goto (-26), 3) := by decide +kernel
theorem dX4_unique_41 : decode cX4_unique 41 = .ok (.bipush (-9), 2) := by decide +kernel
theorem dX4_unique_43 : decode cX4_unique 43 = .ok (.ireturn, 1) := by decide +kernel
theorem dX4_mean_0 : decode cX4_mean 0 = .ok (.aload_n 0, 1) := by decide +kernel
theorem dX4_mean_1 : decode cX4_mean 1 = .ok (.getfield 7, 3) := by decide +kernel
theorem dX4_mean_4 : decode cX4_mean 4 = .ok (.bipush 9, 2) := by decide +kernel
theorem dX4_mean_6 : decode cX4_mean 6 = .ok (.iaload, 1) := by decide +kernel
theorem dX4_mean_7 : decode cX4_mean 7 = .ok (.i2f, 1) := by decide +kernel
theorem dX4_mean_8 : decode cX4_mean 8 = .ok (.aload_n 0, 1) := by decide +kernel
theorem dX4_mean_9 : decode cX4_mean 9 = .ok (.getfield 50, 3) := by decide +kernel
theorem dX4_mean_12 : decode cX4_mean 12 = .ok (.i2f, 1) := by decide +kernel
theorem dX4_mean_13 : decode cX4_mean 13 = .ok (.fdiv, 1) := by decide +kernel
theorem dX4_mean_14 : decode cX4_mean 14 = .ok (.freturn, 1) := by decide +kernel
theorem dX4_hold_0 : decode cX4_hold 0 = .ok (.iconst 0, 1) := by decide +kernel
theorem dX4_hold_1 : decode cX4_hold 1 = .ok (.istore_n 1, 1) := by decide +kernel
theorem dX4_hold_2 : decode cX4_hold 2 = .ok (.iload_n 1, 1) := by decide +kernel
theorem dX4_hold_3 : decode cX4_hold 3 = .ok (.sipush 510, 3) := by decide +kernel
theorem dX4_hold_6 : decode cX4_hold 6 = .ok (.if_icmp .ge 21, 3) := by decide +kernel
theorem dX4_hold_9 : decode cX4_hold 9 = .ok (.aload_n 0, 1) := by decide +kernel
theorem dX4_hold_10 : decode cX4_hold 10 = .ok (.getfield 41, 3) := by decide +kernel
theorem dX4_hold_13 : decode cX4_hold 13 = .ok (.iload_n 1, 1) := by decide +kernel
theorem dX4_hold_14 : decode cX4_hold 14 = .ok (.aload_n 0, 1) := by decide +kernel
theorem dX4_hold_15 : decode cX4_hold 15 = .ok (.getfield 7, 3) := by decide +kernel
theorem dX4_hold_18 : decode cX4_hold 18 = .ok (.iload_n 1, 1) := by decide +kernel
theorem dX4_hold_19 : decode cX4_hold 19 = .ok (.iaload, 1) := by decide +kernel
theorem dX4_hold_20 : decode cX4_hold 20 = .ok (.iastore, 1) := by decide +kernel
theorem dX4_hold_21 : decode cX4_hold 21 = .ok (.iinc 1 1, 3) := by decide +kernel
theorem dX4_hold_24 : decode cX4_hold 24 = .ok (.goto (-22), 3) := by decide +kernel
theorem dX4_hold_27 : decode cX4_hold 27 = .ok (.return_, 1) := by decide +kernel
theorem dX4_restore_0 : decode cX4_restore 0 = .ok (.iconst 0, 1) := by decide +kernel
theorem dX4_restore_1 : decode cX4_restore 1 = .ok (.istore_n 1, 1) := by decide +kernel
theorem dX4_restore_2 : decode cX4_restore 2 = .ok (.iload_n 1, 1) := by decide +kernel
theorem dX4_restore_3 : decode cX4_restore 3 = .ok (.sipush 510, 3) := by decide +kernel
theorem dX4_restore_6 : decode cX4_restore 6 = .ok (.if_icmp .ge 21, 3) := by decide +kernel
theorem dX4_restore_9 : decode cX4_restore 9 = .ok (.aload_n 0, 1) := by decide +kernel
theorem dX4_restore_10 : decode cX4_restore 10 = .ok (.getfield 7, 3) := by decide +kernel
theorem dX4_restore_13 : decode cX4_restore 13 = .ok (.iload_n 1, 1) := by decide +kernel
theorem dX4_restore_14 : decode cX4_restore 14 = .ok (.aload_n 0, 1) := by decide +kernel
theorem dX4_restore_15 : decode cX4_restore 15 = .ok (.getfield 41, 3) := by decide +kernel
theorem dX4_restore_18 : decode cX4_restore 18 = .ok (.iload_n 1, 1) := by decide +kernel
theorem dX4_restore_19 : decode cX4_restore 19 = .ok (.iaload, 1) := by decide +kernel
theorem dX4_restore_20 : decode cX4_restore 20 = .ok (.iastore, 1) := by decide +kernel
theorem dX4_restore_21 : decode cX4_restore 21 = .ok (.iinc 1 1, 3) := by decide +kernel
theorem dX4_restore_24 : decode cX4_restore 24 = .ok (.goto (-22), 3) := by decide +kernel
theorem dX4_restore_27 : decode cX4_restore 27 = .ok (.return_, 1) := by decide +kernel
set_option maxRecDepth 20000 in
theorem ggX4_reached_X4_isWord : GoodIn wsX4_reached wsX4_isWord := goodIn_r _ [6, 1, 7, 8, 5, 9, 18, 19, 20, 21, 22, 23, 24, 25, 26, 27, 28, 29, 30, 31, 32, 33, 34, 35, 36] (by decide +kernel) (by decide +kernel)
set_option maxRecDepth 20000 in
theorem gX4_reached_X4_isWord : GoodIn wsX4_reached (wsV RX4 151 RX4 yX4_isWord wsX4_isWord) := goodIn_app (goodIn_of _ (by decide +kernel)) ggX4_reached_X4_isWord
set_option maxRecDepth 20000 in
theorem ggX4_reached_X4_estimated : GoodIn wsX4_reached wsX4_estimated := goodIn_r _ [13, 1, 14, 15, 16, 5, 17, 18, 19, 20, 21, 22, 23, 24, 25, 26, 27, 28, 29, 30, 31, 32, 33, 34, 35, 36] (by decide +kernel) (by decide +kernel)
set_option maxRecDepth 20000 in
theorem gX4_reached_X4_estimated : GoodIn wsX4_reached (wsV RX4 88 RX4 yX4_estimated wsX4_estimated) := goodIn_app (goodIn_of _ (by decide +kernel)) ggX4_reached_X4_estimated
theorem dX4_reached_0 : decode cX4_reached 0 = .ok (.aload_n 0, 1) := by decide +kernel
theorem dX4_reached_1 : decode cX4_reached 1 = .ok (.iload_n 1, 1) := by decide +kernel
theorem dX4_reached_2 : decode cX4_reached 2 = .ok (.invokevirtual 151, 3) := by decide +kernel
theorem dX4_reached_5 : decode cX4_reached 5 = .ok (.ifCond .ne 5, 3) := by decide +kernel
theorem dX4_reached_8 : decode cX4_reached 8 = .ok (.iconst (-1), 1) := by decide +kernel
theorem dX4_reached_9 : decode cX4_reached 9 = .ok (.ireturn, 1) := by decide +kernel
theorem dX4_reached_10 : decode cX4_reached 10 = .ok (.aload_n 0, 1) := by decide +kernel
theorem dX4_reached_11 : decode cX4_reached 11 = .ok (.getfield 7, 3) := by decide +kernel
theorem dX4_reached_14 : decode cX4_reached 14 = .ok (.bipush 10, 2) := by decide +kernel
theorem dX4_reached_16 : decode cX4_reached 16 = .ok (.iaload, 1) := by decide +kernel
theorem dX4_reached_17 : decode cX4_reached 17 = .ok (.istore_n 2, 1) := by decide +kernel
theorem dX4_reached_18 : decode cX4_reached 18 = .ok (.iconst 0, 1) := by decide +kernel
theorem dX4_reached_19 : decode cX4_reached 19 = .ok (.istore_n 3, 1) := by decide +kernel
theorem dX4_reached_20 : decode cX4_reached 20 = .ok (.iload_n 3, 1) := by decide +kernel
theorem dX4_reached_21 : decode cX4_reached 21 = .ok (.sipush 500, 3) := by decide +kernel
theorem dX4_reached_24 : decode cX4_reached 24 = .ok (.if_icmp .ge 28, 3) := by decide +kernel
theorem dX4_reached_27 : decode cX4_reached 27 = .ok (.aload_n 0, 1) := by decide +kernel
theorem dX4_reached_28 : decode cX4_reached 28 = .ok (.invokevirtual 88, 3) := by decide +kernel
theorem dX4_reached_31 : decode cX4_reached 31 = .ok (.iload_n 1, 1) := by decide +kernel
theorem dX4_reached_32 : decode cX4_reached 32 = .ok (.if_icmp .ge 20, 3) := by decide +kernel
theorem dX4_reached_35 : decode cX4_reached 35 = .ok (.aload_n 0, 1) := by decide +kernel
theorem dX4_reached_36 : decode cX4_reached 36 = .ok (.getfield 7, 3) := by decide +kernel
theorem dX4_reached_39 : decode cX4_reached 39 = .ok (.bipush 10, 2) := by decide +kernel
theorem dX4_reached_41 : decode cX4_reached 41 = .ok (.dup2, 1) := by decide +kernel
theorem dX4_reached_42 : decode cX4_reached 42 = .ok (.iaload, 1) := by decide +kernel
theorem dX4_reached_43 : decode cX4_reached 43 = .ok (.iconst 1, 1) := by decide +kernel
theorem dX4_reached_44 : decode cX4_reached 44 = .ok (.iadd, 1) := by decide +kernel
theorem dX4_reached_45 : decode cX4_reached 45 = .ok (.iastore, 1) := by decide +kernel
theorem dX4_reached_46 : decode cX4_reached 46 = .ok (.iinc 3 1, 3) := by decide +kernel
theorem dX4_reached_49 : decode cX4_reached 49 = .ok (.goto (-29), 3) := by decide +kernel
theorem dX4_reached_52 : decode cX4_reached 52 = .ok (.aload_n 0, 1) := by decide +kernel
theorem dX4_reached_53 : decode cX4_reached 53 = .ok (.invokevirtual 88, 3) := by decide +kernel
theorem dX4_reached_56 : decode cX4_reached 56 = .ok (.iload_n 1, 1) := by decide +kernel
theorem dX4_reached_57 : decode cX4_reached 57 = .ok (.if_icmp .lt 7, 3) := by decide +kernel
theorem dX4_reached_60 : decode cX4_reached 60 = .ok (.iconst 1, 1) := by decide +kernel
theorem dX4_reached_61 : decode cX4_reached 61 = .ok (.goto 4, 3) := by decide +kernel
theorem dX4_reached_64 : decode cX4_reached 64 = .ok (.iconst 0, 1) := by decide +kernel
theorem dX4_reached_65 : decode cX4_reached 65 = .ok (.istore 4, 2) := by decide +kernel
theorem dX4_reached_67 : decode cX4_reached 67 = .ok (.aload_n 0, 1) := by decide +kernel
theorem dX4_reached_68 : decode cX4_reached 68 = .ok (.getfield 7, 3) := by decide +kernel
theorem dX4_reached_71 : decode cX4_reached 71 = .ok (.bipush 10, 2) := by decide +kernel
theorem dX4_reached_73 : decode cX4_reached 73 = .ok (.iload_n 2, 1) := by decide +kernel
theorem dX4_reached_74 : decode cX4_reached 74 = .ok (.iastore, 1) := by decide +kernel
theorem dX4_reached_75 : decode cX4_reached 75 = .ok (.iload 4, 2) := by decide +kernel
theorem dX4_reached_77 : decode cX4_reached 77 = .ok (.ifCond .eq 7, 3) := by decide +kernel
theorem dX4_reached_80 : decode cX4_reached 80 = .ok (.iload_n 3, 1) := by decide +kernel
theorem dX4_reached_81 : decode cX4_reached 81 = .ok (.goto 5, 3) := by decide +kernel
theorem dX4_reached_84 : decode cX4_reached 84 = .ok (.bipush (-9), 2) := by decide +kernel
theorem dX4_reached_86 : decode cX4_reached 86 = .ok (.ireturn, 1) := by decide +kernel
set_option maxRecDepth 20000 in
theorem ggX4_rehearse_X4_isIn : GoodIn wsX4_rehearse wsX4_isIn := goodIn_r _ [6] (by decide +kernel) (by decide +kernel)
set_option maxRecDepth 20000 in
theorem gX4_rehearse_X4_isIn : GoodIn wsX4_rehearse (va_wsS RX4 57 yX4_isIn wsX4_isIn) := goodIn_app (goodIn_of _ (by decide +kernel)) ggX4_rehearse_X4_isIn
set_option maxRecDepth 20000 in
theorem ggX4_rehearse_X4_hold : GoodIn wsX4_rehearse wsX4_hold := goodIn_r _ [10, 1, 2, 81, 82, 83, 84, 85, 86, 87, 88, 89, 90, 91, 92, 93, 94, 95, 96, 97, 98, 99] (by decide +kernel) (by decide +kernel)
set_option maxRecDepth 20000 in
theorem gX4_rehearse_X4_hold : GoodIn wsX4_rehearse (wsV RX4 160 RX4 yX4_hold wsX4_hold) := goodIn_app (goodIn_of _ (by decide +kernel)) ggX4_rehearse_X4_hold
set_option maxRecDepth 20000 in
theorem ggX4_rehearse_X4_tickOnce : GoodIn wsX4_rehearse wsX4_tickOnce := goodIn_r _ [14, 2, 15, 16, 17, 18, 5, 19, 20, 21, 22, 23, 24, 25, 26, 27, 28, 29, 30, 31, 32, 33, 34, 35, 36, 37, 38, 39, 40, 81, 82, 83, 84, 85, 86, 87, 88, 89, 90, 91, 92, 93, 94, 95, 96, 97, 98, 99] (by decide +kernel) (by decide +kernel)
set_option maxRecDepth 20000 in
theorem gX4_rehearse_X4_tickOnce : GoodIn wsX4_rehearse (wsV RX4 145 RX4 yX4_tickOnce wsX4_tickOnce) := goodIn_app (goodIn_of _ (by decide +kernel)) ggX4_rehearse_X4_tickOnce
set_option maxRecDepth 20000 in
theorem ggX4_rehearse_X4_hearNow : GoodIn wsX4_rehearse wsX4_hearNow := goodIn_r _ [44, 2, 45, 46, 47, 5, 48, 3, 4, 6, 49, 50, 51, 52, 53, 54, 55, 56, 57, 58, 59, 60, 61, 62, 63, 64, 65, 66, 67, 68, 69, 70, 71, 72, 81, 82, 83, 84, 85, 86, 87, 88, 89, 90, 91, 92, 93, 94, 95, 96, 97, 98, 99] (by decide +kernel) (by decide +kernel)
set_option maxRecDepth 20000 in
theorem gX4_rehearse_X4_hearNow : GoodIn wsX4_rehearse (wsV RX4 142 RX4 yX4_hearNow wsX4_hearNow) := goodIn_app (goodIn_of _ (by decide +kernel)) ggX4_rehearse_X4_hearNow
set_option maxRecDepth 20000 in
theorem ggX4_rehearse_X4_nextCue : GoodIn wsX4_rehearse wsX4_nextCue := goodIn_r _ [27, 2, 81, 82, 83, 84, 85, 86, 87, 88, 89, 90, 91, 92, 93, 94, 95, 96, 97, 98, 99] (by decide +kernel) (by decide +kernel)
set_option maxRecDepth 20000 in
theorem gX4_rehearse_X4_nextCue : GoodIn wsX4_rehearse (wsV RX4 85 RX4 yX4_nextCue wsX4_nextCue) := goodIn_app (goodIn_of _ (by decide +kernel)) ggX4_rehearse_X4_nextCue
set_option maxRecDepth 20000 in
theorem ggX4_rehearse_X4_releaseNext : GoodIn wsX4_rehearse wsX4_releaseNext := goodIn_r _ [76, 2, 24, 25, 26, 5, 27, 81, 82, 83, 84, 85, 86, 87, 88, 89, 90, 91, 92, 93, 94, 95, 96, 97, 98, 99] (by decide +kernel) (by decide +kernel)
set_option maxRecDepth 20000 in
theorem gX4_rehearse_X4_releaseNext : GoodIn wsX4_rehearse (wsV RX4 148 RX4 yX4_releaseNext wsX4_releaseNext) := goodIn_app (goodIn_of _ (by decide +kernel)) ggX4_rehearse_X4_releaseNext
set_option maxRecDepth 20000 in
theorem ggX4_rehearse_X4_restore : GoodIn wsX4_rehearse wsX4_restore := goodIn_r _ [80, 2, 1, 81, 82, 83, 84, 85, 86, 87, 88, 89, 90, 91, 92, 93, 94, 95, 96, 97, 98, 99] (by decide +kernel) (by decide +kernel)
set_option maxRecDepth 20000 in
theorem gX4_rehearse_X4_restore : GoodIn wsX4_rehearse (wsV RX4 163 RX4 yX4_restore wsX4_restore) := goodIn_app (goodIn_of _ (by decide +kernel)) ggX4_rehearse_X4_restore
theorem dX4_rehearse_0 : decode cX4_rehearse 0 = .ok (.iload_n 1, 1) := by decide +kernel
theorem dX4_rehearse_1 : decode cX4_rehearse 1 = .ok (.iconst 1, 1) := by decide +kernel
theorem dX4_rehearse_2 : decode cX4_rehearse 2 = .ok (.bipush 10, 2) := by decide +kernel
theorem dX4_rehearse_4 : decode cX4_rehearse 4 = .ok (.invokestatic 57, 3) := by decide +kernel
theorem dX4_rehearse_7 : decode cX4_rehearse 7 = .ok (.ifCond .eq 12, 3) := by decide +kernel
theorem dX4_rehearse_10 : decode cX4_rehearse 10 = .ok (.iload_n 2, 1) := by decide +kernel
theorem dX4_rehearse_11 : decode cX4_rehearse 11 = .ok (.iconst 0, 1) := by decide +kernel
theorem dX4_rehearse_12 : decode cX4_rehearse 12 = .ok (.iconst 3, 1) := by decide +kernel
theorem dX4_rehearse_13 : decode cX4_rehearse 13 = .ok (.invokestatic 57, 3) := by decide +kernel
theorem dX4_rehearse_16 : decode cX4_rehearse 16 = .ok (.ifCond .ne 5, 3) := by decide +kernel
theorem dX4_rehearse_19 : decode cX4_rehearse 19 = .ok (.iconst (-1), 1) := by decide +kernel
theorem dX4_rehearse_20 : decode cX4_rehearse 20 = .ok (.ireturn, 1) := by decide +kernel
theorem dX4_rehearse_21 : decode cX4_rehearse 21 = .ok (.aload_n 0, 1) := by decide +kernel
theorem dX4_rehearse_22 : decode cX4_rehearse 22 = .ok (.invokevirtual 160, 3) := by decide +kernel
theorem dX4_rehearse_25 : decode cX4_rehearse 25 = .ok (.aload_n 0, 1) := by decide +kernel
theorem dX4_rehearse_26 : decode cX4_rehearse 26 = .ok (.getfield 41, 3) := by decide +kernel
theorem dX4_rehearse_29 : decode cX4_rehearse 29 = .ok (.bipush 11, 2) := by decide +kernel
theorem dX4_rehearse_31 : decode cX4_rehearse 31 = .ok (.iaload, 1) := by decide +kernel
theorem dX4_rehearse_32 : decode cX4_rehearse 32 = .ok (.istore_n 3, 1) := by decide +kernel
theorem dX4_rehearse_33 : decode cX4_rehearse 33 = .ok (.iload_n 3, 1) := by decide +kernel
theorem dX4_rehearse_34 : decode cX4_rehearse 34 = .ok (.aload_n 0, 1) := by decide +kernel
theorem dX4_rehearse_35 : decode cX4_rehearse 35 = .ok (.getfield 7, 3) := by decide +kernel
theorem dX4_rehearse_38 : decode cX4_rehearse 38 = .ok (.bipush 9, 2) := by decide +kernel
theorem dX4_rehearse_40 : decode cX4_rehearse 40 = .ok (.iaload, 1) := by decide +kernel
theorem dX4_rehearse_41 : decode cX4_rehearse 41 = .ok (.if_icmp .ge 58, 3) := by decide +kernel
theorem dX4_rehearse_44 : decode cX4_rehearse 44 = .ok (.iconst 0, 1) := by decide +kernel
theorem dX4_rehearse_45 : decode cX4_rehearse 45 = .ok (.istore 4, 2) := by decide +kernel
theorem dX4_rehearse_47 : decode cX4_rehearse 47 = .ok (.iload 4, 2) := by decide +kernel
theorem dX4_rehearse_49 : decode cX4_rehearse 49 = .ok (.iload_n 1, 1) := by decide +kernel
theorem dX4_rehearse_50 : decode cX4_rehearse 50 = .ok (.if_icmp .ge 13, 3) := by decide +kernel
theorem dX4_rehearse_53 : decode cX4_rehearse 53 = .ok (.aload_n 0, 1) := by decide +kernel
theorem dX4_rehearse_54 : decode cX4_rehearse 54 = .ok (.invokevirtual 145, 3) := by decide +kernel
theorem dX4_rehearse_57 : decode cX4_rehearse 57 = .ok (.iinc 4 1, 3) := by decide +kernel
theorem dX4_rehearse_60 : decode cX4_rehearse 60 = .ok (.goto (-13), 3) := by decide +kernel
theorem dX4_rehearse_63 : decode cX4_rehearse 63 = .ok (.aload_n 0, 1) := by decide +kernel
theorem dX4_rehearse_64 : decode cX4_rehearse 64 = .ok (.aload_n 0, 1) := by decide +kernel
theorem dX4_rehearse_65 : decode cX4_rehearse 65 = .ok (.getfield 7, 3) := by decide +kernel
theorem dX4_rehearse_68 : decode cX4_rehearse 68 = .ok (.sipush 150, 3) := by decide +kernel
theorem dX4_rehearse_71 : decode cX4_rehearse 71 = .ok (.iload_n 3, 1) := by decide +kernel
theorem dX4_rehearse_72 : decode cX4_rehearse 72 = .ok (.iadd, 1) := by decide +kernel
theorem dX4_rehearse_73 : decode cX4_rehearse 73 = .ok (.iaload, 1) := by decide +kernel
theorem dX4_rehearse_74 : decode cX4_rehearse 74 = .ok (.invokevirtual 142, 3) := by decide +kernel
theorem dX4_rehearse_77 : decode cX4_rehearse 77 = .ok (.istore 4, 2) := by decide +kernel
theorem dX4_rehearse_79 : decode cX4_rehearse 79 = .ok (.aload_n 0, 1) := by decide +kernel
theorem dX4_rehearse_80 : decode cX4_rehearse 80 = .ok (.invokevirtual 85, 3) := by decide +kernel
theorem dX4_rehearse_83 : decode cX4_rehearse 83 = .ok (.iload_n 3, 1) := by decide +kernel
theorem dX4_rehearse_84 : decode cX4_rehearse 84 = .ok (.if_icmp .ne 9, 3) := by decide +kernel
theorem dX4_rehearse_87 : decode cX4_rehearse 87 = .ok (.aload_n 0, 1) := by decide +kernel
theorem dX4_rehearse_88 : decode cX4_rehearse 88 = .ok (.invokevirtual 148, 3) := by decide +kernel
theorem dX4_rehearse_91 : decode cX4_rehearse 91 = .ok (.istore 5, 2) := by decide +kernel
theorem dX4_rehearse_93 : decode cX4_rehearse 93 = .ok (.iinc 3 1, 3) := by decide +kernel
theorem dX4_rehearse_96 : decode cX4_rehearse 96 = .ok (.goto (-63), 3) := by decide +kernel
theorem dX4_rehearse_99 : decode cX4_rehearse 99 = .ok (.aload_n 0, 1) := by decide +kernel
theorem dX4_rehearse_100 : decode cX4_rehearse 100 = .ok (.getfield 7, 3) := by decide +kernel
theorem dX4_rehearse_103 : decode cX4_rehearse 103 = .ok (.bipush 18, 2) := by decide +kernel
theorem dX4_rehearse_105 : decode cX4_rehearse 105 = .ok (.iaload, 1) := by decide +kernel
theorem dX4_rehearse_106 : decode cX4_rehearse 106 = .ok (.aload_n 0, 1) := by decide +kernel
theorem dX4_rehearse_107 : decode cX4_rehearse 107 = .ok (.getfield 41, 3) := by decide +kernel
theorem dX4_rehearse_110 : decode cX4_rehearse 110 = .ok (.bipush 18, 2) := by decide +kernel
theorem dX4_rehearse_112 : decode cX4_rehearse 112 = .ok (.iaload, 1) := by decide +kernel
theorem dX4_rehearse_113 : decode cX4_rehearse 113 = .ok (.isub, 1) := by decide +kernel
theorem dX4_rehearse_114 : decode cX4_rehearse 114 = .ok (.istore_n 3, 1) := by decide +kernel
theorem dX4_rehearse_115 : decode cX4_rehearse 115 = .ok (.aload_n 0, 1) := by decide +kernel
theorem dX4_rehearse_116 : decode cX4_rehearse 116 = .ok (.getfield 7, 3) := by decide +kernel
theorem dX4_rehearse_119 : decode cX4_rehearse 119 = .ok (.bipush 15, 2) := by decide +kernel
theorem dX4_rehearse_121 : decode cX4_rehearse 121 = .ok (.iaload, 1) := by decide +kernel
theorem dX4_rehearse_122 : decode cX4_rehearse 122 = .ok (.aload_n 0, 1) := by decide +kernel
theorem dX4_rehearse_123 : decode cX4_rehearse 123 = .ok (.getfield 41, 3) := by decide +kernel
theorem dX4_rehearse_126 : decode cX4_rehearse 126 = .ok (.bipush 15, 2) := by decide +kernel
theorem dX4_rehearse_128 : decode cX4_rehearse 128 = .ok (.iaload, 1) := by decide +kernel
theorem dX4_rehearse_129 : decode cX4_rehearse 129 = .ok (.isub, 1) := by decide +kernel
theorem dX4_rehearse_130 : decode cX4_rehearse 130 = .ok (.aload_n 0, 1) := by decide +kernel
theorem dX4_rehearse_131 : decode cX4_rehearse 131 = .ok (.getfield 7, 3) := by decide +kernel
theorem dX4_rehearse_134 : decode cX4_rehearse 134 = .ok (.bipush 16, 2) := by decide +kernel
theorem dX4_rehearse_136 : decode cX4_rehearse 136 = .ok (.iaload, 1) := by decide +kernel
theorem dX4_rehearse_137 : decode cX4_rehearse 137 = .ok (.iadd, 1) := by decide +kernel
theorem dX4_rehearse_138 : decode cX4_rehearse 138 = .ok (.aload_n 0, 1) := by decide +kernel
theorem dX4_rehearse_139 : decode cX4_rehearse 139 = .ok (.getfield 41, 3) := by decide +kernel
theorem dX4_rehearse_142 : decode cX4_rehearse 142 = .ok (.bipush 16, 2) := by decide +kernel
theorem dX4_rehearse_144 : decode cX4_rehearse 144 = .ok (.iaload, 1) := by decide +kernel
theorem dX4_rehearse_145 : decode cX4_rehearse 145 = .ok (.isub, 1) := by decide +kernel
theorem dX4_rehearse_146 : decode cX4_rehearse 146 = .ok (.istore 4, 2) := by decide +kernel
theorem dX4_rehearse_148 : decode cX4_rehearse 148 = .ok (.aload_n 0, 1) := by decide +kernel
theorem dX4_rehearse_149 : decode cX4_rehearse 149 = .ok (.getfield 7, 3) := by decide +kernel
theorem dX4_rehearse_152 : decode cX4_rehearse 152 = .ok (.bipush 17, 2) := by decide +kernel
theorem dX4_rehearse_154 : decode cX4_rehearse 154 = .ok (.iaload, 1) := by decide +kernel
theorem dX4_rehearse_155 : decode cX4_rehearse 155 = .ok (.aload_n 0, 1) := by decide +kernel
theorem dX4_rehearse_156 : decode cX4_rehearse 156 = .ok (.getfield 41, 3) := by decide +kernel
theorem dX4_rehearse_159 : decode cX4_rehearse 159 = .ok (.bipush 17, 2) := by decide +kernel
theorem dX4_rehearse_161 : decode cX4_rehearse 161 = .ok (.iaload, 1) := by decide +kernel
theorem dX4_rehearse_162 : decode cX4_rehearse 162 = .ok (.isub, 1) := by decide +kernel
theorem dX4_rehearse_163 : decode cX4_rehearse 163 = .ok (.istore 5, 2) := by decide +kernel
theorem dX4_rehearse_165 : decode cX4_rehearse 165 = .ok (.aload_n 0, 1) := by decide +kernel
theorem dX4_rehearse_166 : decode cX4_rehearse 166 = .ok (.getfield 7, 3) := by decide +kernel
theorem dX4_rehearse_169 : decode cX4_rehearse 169 = .ok (.bipush 11, 2) := by decide +kernel
theorem dX4_rehearse_171 : decode cX4_rehearse 171 = .ok (.iaload, 1) := by decide +kernel
theorem dX4_rehearse_172 : decode cX4_rehearse 172 = .ok (.istore 6, 2) := by decide +kernel
theorem dX4_rehearse_174 : decode cX4_rehearse 174 = .ok (.aload_n 0, 1) := by decide +kernel
theorem dX4_rehearse_175 : decode cX4_rehearse 175 = .ok (.invokevirtual 163, 3) := by decide +kernel
theorem dX4_rehearse_178 : decode cX4_rehearse 178 = .ok (.iload_n 2, 1) := by decide +kernel
theorem dX4_rehearse_179 : decode cX4_rehearse 179 = .ok (.ifCond .ne 7, 3) := by decide +kernel
theorem dX4_rehearse_182 : decode cX4_rehearse 182 = .ok (.iload_n 3, 1) := by decide +kernel
theorem dX4_rehearse_183 : decode cX4_rehearse 183 = .ok (.goto 25, 3) := by decide +kernel
theorem dX4_rehearse_186 : decode cX4_rehearse 186 = .ok (.iload_n 2, 1) := by decide +kernel
theorem dX4_rehearse_187 : decode cX4_rehearse 187 = .ok (.iconst 1, 1) := by decide +kernel
theorem dX4_rehearse_188 : decode cX4_rehearse 188 = .ok (.if_icmp .ne 8, 3) := by decide +kernel
theorem dX4_rehearse_191 : decode cX4_rehearse 191 = .ok (.iload 4, 2) := by decide +kernel
theorem dX4_rehearse_193 : decode cX4_rehearse 193 = .ok (.goto 15, 3) := by decide +kernel
theorem dX4_rehearse_196 : decode cX4_rehearse 196 = .ok (.iload_n 2, 1) := by decide +kernel
theorem dX4_rehearse_197 : decode cX4_rehearse 197 = .ok (.iconst 2, 1) := by decide +kernel
theorem dX4_rehearse_198 : decode cX4_rehearse 198 = .ok (.if_icmp .ne 8, 3) := by decide +kernel
theorem dX4_rehearse_201 : decode cX4_rehearse 201 = .ok (.iload 5, 2) := by decide +kernel
theorem dX4_rehearse_203 : decode cX4_rehearse 203 = .ok (.goto 5, 3) := by decide +kernel
theorem dX4_rehearse_206 : decode cX4_rehearse 206 = .ok (.iload 6, 2) := by decide +kernel
theorem dX4_rehearse_208 : decode cX4_rehearse 208 = .ok (.ireturn, 1) := by decide +kernel
set_option maxRecDepth 20000 in
theorem ggX4_isImage_X4_isIn : GoodIn wsX4_isImage wsX4_isIn := goodIn_r _ [4] (by decide +kernel) (by decide +kernel)
set_option maxRecDepth 20000 in
theorem gX4_isImage_X4_isIn : GoodIn wsX4_isImage (va_wsS RX4 57 yX4_isIn wsX4_isIn) := goodIn_app (goodIn_of _ (by decide +kernel)) ggX4_isImage_X4_isIn
theorem dX4_isImage_0 : decode cX4_isImage 0 = .ok (.iload_n 0, 1) := by decide +kernel
theorem dX4_isImage_1 : decode cX4_isImage 1 = .ok (.iconst 0, 1) := by decide +kernel
theorem dX4_isImage_2 : decode cX4_isImage 2 = .ok (.iconst 1, 1) := by decide +kernel
theorem dX4_isImage_3 : decode cX4_isImage 3 = .ok (.invokestatic 57, 3) := by decide +kernel
theorem dX4_isImage_6 : decode cX4_isImage 6 = .ok (.ireturn, 1) := by decide +kernel
set_option maxRecDepth 20000 in
theorem ggX4_keep_X4_isImage : GoodIn wsX4_keep wsX4_isImage := goodIn_r _ [7, 8, 9, 6, 10] (by decide +kernel) (by decide +kernel)
set_option maxRecDepth 20000 in
theorem gX4_keep_X4_isImage : GoodIn wsX4_keep (va_wsS RX4 166 yX4_isImage wsX4_isImage) := goodIn_app (goodIn_of _ (by decide +kernel)) ggX4_keep_X4_isImage
theorem dX4_keep_0 : decode cX4_keep 0 = .ok (.iload_n 1, 1) := by decide +kernel
theorem dX4_keep_1 : decode cX4_keep 1 = .ok (.invokestatic 166, 3) := by decide +kernel
theorem dX4_keep_4 : decode cX4_keep 4 = .ok (.ifCond .ne 5, 3) := by decide +kernel
theorem dX4_keep_7 : decode cX4_keep 7 = .ok (.iconst (-1), 1) := by decide +kernel
theorem dX4_keep_8 : decode cX4_keep 8 = .ok (.ireturn, 1) := by decide +kernel
theorem dX4_keep_9 : decode cX4_keep 9 = .ok (.iconst 0, 1) := by decide +kernel
theorem dX4_keep_10 : decode cX4_keep 10 = .ok (.istore_n 2, 1) := by decide +kernel
theorem dX4_keep_11 : decode cX4_keep 11 = .ok (.iload_n 2, 1) := by decide +kernel
theorem dX4_keep_12 : decode cX4_keep 12 = .ok (.sipush 510, 3) := by decide +kernel
theorem dX4_keep_15 : decode cX4_keep 15 = .ok (.if_icmp .ge 27, 3) := by decide +kernel
theorem dX4_keep_18 : decode cX4_keep 18 = .ok (.aload_n 0, 1) := by decide +kernel
theorem dX4_keep_19 : decode cX4_keep 19 = .ok (.getfield 16, 3) := by decide +kernel
theorem dX4_keep_22 : decode cX4_keep 22 = .ok (.sipush 510, 3) := by decide +kernel
theorem dX4_keep_25 : decode cX4_keep 25 = .ok (.iload_n 1, 1) := by decide +kernel
theorem dX4_keep_26 : decode cX4_keep 26 = .ok (.imul, 1) := by decide +kernel
theorem dX4_keep_27 : decode cX4_keep 27 = .ok (.iload_n 2, 1) := by decide +kernel
theorem dX4_keep_28 : decode cX4_keep 28 = .ok (.iadd, 1) := by decide +kernel
theorem dX4_keep_29 : decode cX4_keep 29 = .ok (.aload_n 0, 1) := by decide +kernel
theorem dX4_keep_30 : decode cX4_keep 30 = .ok (.getfield 7, 3) := by decide +kernel
theorem dX4_keep_33 : decode cX4_keep 33 = .ok (.iload_n 2, 1) := by decide +kernel
theorem dX4_keep_34 : decode cX4_keep 34 = .ok (.iaload, 1) := by decide +kernel
theorem dX4_keep_35 : decode cX4_keep 35 = .ok (.iastore, 1) := by decide +kernel
theorem dX4_keep_36 : decode cX4_keep 36 = .ok (.iinc 2 1, 3) := by decide +kernel
theorem dX4_keep_39 : decode cX4_keep 39 = .ok (.goto (-28), 3) := by decide +kernel
theorem dX4_keep_42 : decode cX4_keep 42 = .ok (.aload_n 0, 1) := by decide +kernel
theorem dX4_keep_43 : decode cX4_keep 43 = .ok (.dup, 1) := by decide +kernel
theorem dX4_keep_44 : decode cX4_keep 44 = .ok (.getfield 169, 3) := by decide +kernel
theorem dX4_keep_47 : decode cX4_keep 47 = .ok (.iconst 1, 1) := by decide +kernel
theorem dX4_keep_48 : decode cX4_keep 48 = .ok (.iload_n 1, 1) := by decide +kernel
theorem dX4_keep_49 : decode cX4_keep 49 = .ok (.ishl, 1) := by decide +kernel
theorem dX4_keep_50 : decode cX4_keep 50 = .ok (.ior, 1) := by decide +kernel
theorem dX4_keep_51 : decode cX4_keep 51 = .ok (.putfield 169, 3) := by decide +kernel
theorem dX4_keep_54 : decode cX4_keep 54 = .ok (.aload_n 0, 1) := by decide +kernel
theorem dX4_keep_55 : decode cX4_keep 55 = .ok (.getfield 7, 3) := by decide +kernel
theorem dX4_keep_58 : decode cX4_keep 58 = .ok (.bipush 11, 2) := by decide +kernel
theorem dX4_keep_60 : decode cX4_keep 60 = .ok (.iaload, 1) := by decide +kernel
theorem dX4_keep_61 : decode cX4_keep 61 = .ok (.ireturn, 1) := by decide +kernel
set_option maxRecDepth 20000 in
theorem ggX4_back_X4_isImage : GoodIn wsX4_back wsX4_isImage := goodIn_r _ [7, 8, 9, 6, 10] (by decide +kernel) (by decide +kernel)
set_option maxRecDepth 20000 in
theorem gX4_back_X4_isImage : GoodIn wsX4_back (va_wsS RX4 166 yX4_isImage wsX4_isImage) := goodIn_app (goodIn_of _ (by decide +kernel)) ggX4_back_X4_isImage
set_option maxRecDepth 20000 in
theorem ggX4_back_X4_remember : GoodIn wsX4_back wsX4_remember := goodIn_r _ [14, 15, 16, 2, 23, 24, 25, 26, 27, 28, 29, 30, 31, 32, 33, 34, 35, 36, 37, 38, 39, 40, 41] (by decide +kernel) (by decide +kernel)
set_option maxRecDepth 20000 in
theorem gX4_back_X4_remember : GoodIn wsX4_back (wsV RX4 135 RX4 yX4_remember wsX4_remember) := goodIn_app (goodIn_of _ (by decide +kernel)) ggX4_back_X4_remember
set_option maxRecDepth 20000 in
theorem ggX4_back_X4_layRows : GoodIn wsX4_back wsX4_layRows := goodIn_r _ [20, 21, 2, 22, 23, 24, 25, 26, 27, 28, 29, 30, 31, 32, 33, 34, 35, 36, 37, 38, 39, 40, 41] (by decide +kernel) (by decide +kernel)
set_option maxRecDepth 20000 in
theorem gX4_back_X4_layRows : GoodIn wsX4_back (wsV RX4 44 RX4 yX4_layRows wsX4_layRows) := goodIn_app (goodIn_of _ (by decide +kernel)) ggX4_back_X4_layRows
theorem dX4_back_0 : decode cX4_back 0 = .ok (.iload_n 1, 1) := by decide +kernel
theorem dX4_back_1 : decode cX4_back 1 = .ok (.invokestatic 166, 3) := by decide +kernel
theorem dX4_back_4 : decode cX4_back 4 = .ok (.ifCond .ne 5, 3) := by decide +kernel
theorem dX4_back_7 : decode cX4_back 7 = .ok (.iconst (-1), 1) := by decide +kernel
theorem dX4_back_8 : decode cX4_back 8 = .ok (.ireturn, 1) := by decide +kernel
theorem dX4_back_9 : decode cX4_back 9 = .ok (.aload_n 0, 1) := by decide +kernel
theorem dX4_back_10 : decode cX4_back 10 = .ok (.getfield 169, 3) := by decide +kernel
theorem dX4_back_13 : decode cX4_back 13 = .ok (.iload_n 1, 1) := by decide +kernel
theorem dX4_back_14 : decode cX4_back 14 = .ok (.ishr, 1) := by decide +kernel
theorem dX4_back_15 : decode cX4_back 15 = .ok (.iconst 1, 1) := by decide +kernel
theorem dX4_back_16 : decode cX4_back 16 = .ok (.iand, 1) := by decide +kernel
theorem dX4_back_17 : decode cX4_back 17 = .ok (.ifCond .ne 6, 3) := by decide +kernel
theorem dX4_back_20 : decode cX4_back 20 = .ok (.bipush (-2), 2) := by decide +kernel
theorem dX4_back_22 : decode cX4_back 22 = .ok (.ireturn, 1) := by decide +kernel
theorem dX4_back_23 : decode cX4_back 23 = .ok (.aload_n 0, 1) := by decide +kernel
theorem dX4_back_24 : decode cX4_back 24 = .ok (.invokevirtual 135, 3) := by decide +kernel
theorem dX4_back_27 : decode cX4_back 27 = .ok (.iconst 0, 1) := by decide +kernel
theorem dX4_back_28 : decode cX4_back 28 = .ok (.istore_n 2, 1) := by decide +kernel
theorem dX4_back_29 : decode cX4_back 29 = .ok (.iload_n 2, 1) := by decide +kernel
theorem dX4_back_30 : decode cX4_back 30 = .ok (.sipush 510, 3) := by decide +kernel
theorem dX4_back_33 : decode cX4_back 33 = .ok (.if_icmp .ge 27, 3) := by decide +kernel
theorem dX4_back_36 : decode cX4_back 36 = .ok (.aload_n 0, 1) := by decide +kernel
theorem dX4_back_37 : decode cX4_back 37 = .ok (.getfield 7, 3) := by decide +kernel
theorem dX4_back_40 : decode cX4_back 40 = .ok (.iload_n 2, 1) := by decide +kernel
theorem dX4_back_41 : decode cX4_back 41 = .ok (.aload_n 0, 1) := by decide +kernel
theorem dX4_back_42 : decode cX4_back 42 = .ok (.getfield 16, 3) := by decide +kernel
theorem dX4_back_45 : decode cX4_back 45 = .ok (.sipush 510, 3) := by decide +kernel
theorem dX4_back_48 : decode cX4_back 48 = .ok (.iload_n 1, 1) := by decide +kernel
theorem dX4_back_49 : decode cX4_back 49 = .ok (.imul, 1) := by decide +kernel
theorem dX4_back_50 : decode cX4_back 50 = .ok (.iload_n 2, 1) := by decide +kernel
theorem dX4_back_51 : decode cX4_back 51 = .ok (.iadd, 1) := by decide +kernel
theorem dX4_back_52 : decode cX4_back 52 = .ok (.iaload, 1) := by decide +kernel
theorem dX4_back_53 : decode cX4_back 53 = .ok (.iastore, 1) := by decide +kernel
theorem dX4_back_54 : decode cX4_back 54 = .ok (.iinc 2 1, 3) := by decide +kernel
theorem dX4_back_57 : decode cX4_back 57 = .ok (.goto (-28), 3) := by decide +kernel
theorem dX4_back_60 : decode cX4_back 60 = .ok (.aload_n 0, 1) := by decide +kernel
theorem dX4_back_61 : decode cX4_back 61 = .ok (.invokevirtual 44, 3) := by decide +kernel
theorem dX4_back_64 : decode cX4_back 64 = .ok (.aload_n 0, 1) := by decide +kernel
theorem dX4_back_65 : decode cX4_back 65 = .ok (.getfield 7, 3) := by decide +kernel
theorem dX4_back_68 : decode cX4_back 68 = .ok (.bipush 11, 2) := by decide +kernel
theorem dX4_back_70 : decode cX4_back 70 = .ok (.iaload, 1) := by decide +kernel
theorem dX4_back_71 : decode cX4_back 71 = .ok (.ireturn, 1) := by decide +kernel
theorem dJ9_abs_0f7a4_0 : decode cJ9_abs_0f7a4 0 = .ok (.iload_n 0, 1) := by decide +kernel
theorem dJ9_abs_0f7a4_1 : decode cJ9_abs_0f7a4 1 = .ok (.ifCond .ge 8, 3) := by decide +kernel
theorem dJ9_abs_0f7a4_4 : decode cJ9_abs_0f7a4 4 = .ok (.iload_n 0, 1) := by decide +kernel
theorem dJ9_abs_0f7a4_5 : decode cJ9_abs_0f7a4 5 = .ok (.ineg, 1) := by decide +kernel
theorem dJ9_abs_0f7a4_6 : decode cJ9_abs_0f7a4 6 = .ok (.goto 4, 3) := by decide +kernel
theorem dJ9_abs_0f7a4_9 : decode cJ9_abs_0f7a4 9 = .ok (.iload_n 0, 1) := by decide +kernel
theorem dJ9_abs_0f7a4_10 : decode cJ9_abs_0f7a4 10 = .ok (.ireturn, 1) := by decide +kernel
theorem dJ9_max_7cf53_0 : decode cJ9_max_7cf53 0 = .ok (.iload_n 0, 1) := by decide +kernel
theorem dJ9_max_7cf53_1 : decode cJ9_max_7cf53 1 = .ok (.iload_n 1, 1) := by decide +kernel
theorem dJ9_max_7cf53_2 : decode cJ9_max_7cf53 2 = .ok (.if_icmp .lt 7, 3) := by decide +kernel
theorem dJ9_max_7cf53_5 : decode cJ9_max_7cf53 5 = .ok (.iload_n 0, 1) := by decide +kernel
theorem dJ9_max_7cf53_6 : decode cJ9_max_7cf53 6 = .ok (.goto 4, 3) := by decide +kernel
theorem dJ9_max_7cf53_9 : decode cJ9_max_7cf53 9 = .ok (.iload_n 1, 1) := by decide +kernel
theorem dJ9_max_7cf53_10 : decode cJ9_max_7cf53 10 = .ok (.ireturn, 1) := by decide +kernel
theorem dJ9_max_f86c9_0 : decode cJ9_max_f86c9 0 = .ok (.lload_n 0, 1) := by decide +kernel
theorem dJ9_max_f86c9_1 : decode cJ9_max_f86c9 1 = .ok (.lload_n 2, 1) := by decide +kernel
theorem dJ9_max_f86c9_2 : decode cJ9_max_f86c9 2 = .ok (.lcmp, 1) := by decide +kernel
theorem dJ9_max_f86c9_3 : decode cJ9_max_f86c9 3 = .ok (.ifCond .lt 7, 3) := by decide +kernel
theorem dJ9_max_f86c9_6 : decode cJ9_max_f86c9 6 = .ok (.lload_n 0, 1) := by decide +kernel
theorem dJ9_max_f86c9_7 : decode cJ9_max_f86c9 7 = .ok (.goto 4, 3) := by decide +kernel
theorem dJ9_max_f86c9_10 : decode cJ9_max_f86c9 10 = .ok (.lload_n 2, 1) := by decide +kernel
theorem dJ9_max_f86c9_11 : decode cJ9_max_f86c9 11 = .ok (.lreturn, 1) := by decide +kernel
theorem dJ9_min_7cf53_0 : decode cJ9_min_7cf53 0 = .ok (.iload_n 0, 1) := by decide +kernel
theorem dJ9_min_7cf53_1 : decode cJ9_min_7cf53 1 = .ok (.iload_n 1, 1) := by decide +kernel
theorem dJ9_min_7cf53_2 : decode cJ9_min_7cf53 2 = .ok (.if_icmp .gt 7, 3) := by decide +kernel
theorem dJ9_min_7cf53_5 : decode cJ9_min_7cf53 5 = .ok (.iload_n 0, 1) := by decide +kernel
theorem dJ9_min_7cf53_6 : decode cJ9_min_7cf53 6 = .ok (.goto 4, 3) := by decide +kernel
theorem dJ9_min_7cf53_9 : decode cJ9_min_7cf53 9 = .ok (.iload_n 1, 1) := by decide +kernel
theorem dJ9_min_7cf53_10 : decode cJ9_min_7cf53 10 = .ok (.ireturn, 1) := by decide +kernel
theorem dJ9_min_f86c9_0 : decode cJ9_min_f86c9 0 = .ok (.lload_n 0, 1) := by decide +kernel
theorem dJ9_min_f86c9_1 : decode cJ9_min_f86c9 1 = .ok (.lload_n 2, 1) := by decide +kernel
theorem dJ9_min_f86c9_2 : decode cJ9_min_f86c9 2 = .ok (.lcmp, 1) := by decide +kernel
theorem dJ9_min_f86c9_3 : decode cJ9_min_f86c9 3 = .ok (.ifCond .gt 7, 3) := by decide +kernel
theorem dJ9_min_f86c9_6 : decode cJ9_min_f86c9 6 = .ok (.lload_n 0, 1) := by decide +kernel
theorem dJ9_min_f86c9_7 : decode cJ9_min_f86c9 7 = .ok (.goto 4, 3) := by decide +kernel
theorem dJ9_min_f86c9_10 : decode cJ9_min_f86c9 10 = .ok (.lload_n 2, 1) := by decide +kernel
theorem dJ9_min_f86c9_11 : decode cJ9_min_f86c9 11 = .ok (.lreturn, 1) := by decide +kernel
