theorem dX4_estimated_14 : decode cX4_estimated 14 = .ok (.bipush 12, 2) := by decide +kernel
theorem dX4_estimated_16 : decode cX4_estimated 16 = .ok (.iaload, 1) := by decide +kernel
theorem dX4_estimated_17 : decode cX4_estimated 17 = .ok (.aload_n 0, 1) := by decide +kernel
theorem dX4_estimated_18 : decode cX4_estimated 18 = .ok (.getfield 7, 3) := by decide +kernel
theorem dX4_estimated_21 : decode cX4_estimated 21 = .ok (.bipush 10, 2) := by decide +kernel
theorem dX4_estimated_23 : decode cX4_estimated 23 = .ok (.iaload, 1) := by decide +kernel
theorem dX4_estimated_24 : decode cX4_estimated 24 = .ok (.aload_n 0, 1) := by decide +kernel
theorem dX4_estimated_25 : decode cX4_estimated 25 = .ok (.getfield 7, 3) := by decide +kernel
theorem dX4_estimated_28 : decode cX4_estimated 28 = .ok (.bipush 13, 2) := by decide +kernel
theorem dX4_estimated_30 : decode cX4_estimated 30 = .ok (.iaload, 1) := by decide +kernel
theorem dX4_estimated_31 : decode cX4_estimated 31 = .ok (.isub, 1) := by decide +kernel
theorem dX4_estimated_32 : decode cX4_estimated 32 = .ok (.aload_n 0, 1) := by decide +kernel
theorem dX4_estimated_33 : decode cX4_estimated 33 = .ok (.getfield 7, 3) := by decide +kernel
theorem dX4_estimated_36 : decode cX4_estimated 36 = .ok (.bipush 8, 2) := by decide +kernel
theorem dX4_estimated_38 : decode cX4_estimated 38 = .ok (.iaload, 1) := by decide +kernel
theorem dX4_estimated_39 : decode cX4_estimated 39 = .ok (.iadd, 1) := by decide +kernel
theorem dX4_estimated_40 : decode cX4_estimated 40 = .ok (.imul, 1) := by decide +kernel
theorem dX4_estimated_41 : decode cX4_estimated 41 = .ok (.iadd, 1) := by decide +kernel
theorem dX4_estimated_42 : decode cX4_estimated 42 = .ok (.bipush 100, 2) := by decide +kernel
theorem dX4_estimated_44 : decode cX4_estimated 44 = .ok (.idiv, 1) := by decide +kernel
theorem dX4_estimated_45 : decode cX4_estimated 45 = .ok (.istore_n 1, 1) := by decide +kernel
theorem dX4_estimated_46 : decode cX4_estimated 46 = .ok (.aload_n 0, 1) := by decide +kernel
theorem dX4_estimated_47 : decode cX4_estimated 47 = .ok (.invokevirtual 85, 3) := by decide +kernel
theorem dX4_estimated_50 : decode cX4_estimated 50 = .ok (.istore_n 2, 1) := by decide +kernel
theorem dX4_estimated_51 : decode cX4_estimated 51 = .ok (.iload_n 2, 1) := by decide +kernel
theorem dX4_estimated_52 : decode cX4_estimated 52 = .ok (.bipush (-9), 2) := by decide +kernel
theorem dX4_estimated_54 : decode cX4_estimated 54 = .ok (.if_icmp .eq 12, 3) := by decide +kernel
theorem dX4_estimated_57 : decode cX4_estimated 57 = .ok (.iload_n 2, 1) := by decide +kernel
theorem dX4_estimated_58 : decode cX4_estimated 58 = .ok (.iload_n 1, 1) := by decide +kernel
theorem dX4_estimated_59 : decode cX4_estimated 59 = .ok (.if_icmp .ge 7, 3) := by decide +kernel
theorem dX4_estimated_62 : decode cX4_estimated 62 = .ok (.iload_n 2, 1) := by decide +kernel
theorem dX4_estimated_63 : decode cX4_estimated 63 = .ok (.goto 4, 3) := by decide +kernel
theorem dX4_estimated_66 : decode cX4_estimated 66 = .ok (.iload_n 1, 1) := by decide +kernel
theorem dX4_estimated_67 : decode cX4_estimated 67 = .ok (.istore_n 1, 1) := by decide +kernel
theorem dX4_estimated_68 : decode cX4_estimated 68 = .ok (.iload_n 1, 1) := by decide +kernel
theorem dX4_estimated_69 : decode cX4_estimated 69 = .ok (.aload_n 0, 1) := by decide +kernel
theorem dX4_estimated_70 : decode cX4_estimated 70 = .ok (.getfield 7, 3) := by decide +kernel
theorem dX4_estimated_73 : decode cX4_estimated 73 = .ok (.bipush 9, 2) := by decide +kernel
theorem dX4_estimated_75 : decode cX4_estimated 75 = .ok (.iaload, 1) := by decide +kernel
theorem dX4_estimated_76 : decode cX4_estimated 76 = .ok (.iconst 1, 1) := by decide +kernel
theorem dX4_estimated_77 : decode cX4_estimated 77 = .ok (.isub, 1) := by decide +kernel
theorem dX4_estimated_78 : decode cX4_estimated 78 = .ok (.if_icmp .ge 7, 3) := by decide +kernel
theorem dX4_estimated_81 : decode cX4_estimated 81 = .ok (.iload_n 1, 1) := by decide +kernel
theorem dX4_estimated_82 : decode cX4_estimated 82 = .ok (.goto 12, 3) := by decide +kernel
theorem dX4_estimated_85 : decode cX4_estimated 85 = .ok (.aload_n 0, 1) := by decide +kernel
theorem dX4_estimated_86 : decode cX4_estimated 86 = .ok (.getfield 7, 3) := by decide +kernel
theorem dX4_estimated_89 : decode cX4_estimated 89 = .ok (.bipush 9, 2) := by decide +kernel
theorem dX4_estimated_91 : decode cX4_estimated 91 = .ok (.iaload, 1) := by decide +kernel
theorem dX4_estimated_92 : decode cX4_estimated 92 = .ok (.iconst 1, 1) := by decide +kernel
theorem dX4_estimated_93 : decode cX4_estimated 93 = .ok (.isub, 1) := by decide +kernel
theorem dX4_estimated_94 : decode cX4_estimated 94 = .ok (.ireturn, 1) := by decide +kernel
set_option maxRecDepth 20000 in
theorem ggX4_desired_X4_estimated : GoodIn wsX4_desired wsX4_estimated := goodIn_r _ [7, 1, 8, 9, 10, 6, 11, 21, 22, 23, 24, 25, 26, 27, 28, 29, 30, 31, 32, 33, 34, 35, 36, 37, 38, 39] (by decide +kernel) (by decide +kernel)
set_option maxRecDepth 20000 in
theorem gX4_desired_X4_estimated : GoodIn wsX4_desired (wsV RX4 88 RX4 yX4_estimated wsX4_estimated) := goodIn_app (goodIn_of _ (by decide +kernel)) ggX4_desired_X4_estimated
set_option maxRecDepth 20000 in
theorem ggX4_desired_X4_limited : GoodIn wsX4_desired wsX4_limited := goodIn_r _ [15, 16, 17, 18, 6, 19, 20, 1, 21, 22, 23, 24, 25, 26, 27, 28, 29, 30, 31, 32, 33, 34, 35, 36, 37, 38, 39] (by decide +kernel) (by decide +kernel)
set_option maxRecDepth 20000 in
theorem gX4_desired_X4_limited : GoodIn wsX4_desired (wsV RX4 91 RX4 yX4_limited wsX4_limited) := goodIn_app (goodIn_of _ (by decide +kernel)) ggX4_desired_X4_limited
theorem dX4_desired_0 : decode cX4_desired 0 = .ok (.aload_n 0, 1) := by decide +kernel
theorem dX4_desired_1 : decode cX4_desired 1 = .ok (.getfield 7, 3) := by decide +kernel
theorem dX4_desired_4 : decode cX4_desired 4 = .ok (.iconst 2, 1) := by decide +kernel
theorem dX4_desired_5 : decode cX4_desired 5 = .ok (.iaload, 1) := by decide +kernel
theorem dX4_desired_6 : decode cX4_desired 6 = .ok (.aload_n 0, 1) := by decide +kernel
theorem dX4_desired_7 : decode cX4_desired 7 = .ok (.getfield 7, 3) := by decide +kernel
theorem dX4_desired_10 : decode cX4_desired 10 = .ok (.iconst 1, 1) := by decide +kernel
theorem dX4_desired_11 : decode cX4_desired 11 = .ok (.iaload, 1) := by decide +kernel
theorem dX4_desired_12 : decode cX4_desired 12 = .ok (.iconst 1, 1) := by decide +kernel
theorem dX4_desired_13 : decode cX4_desired 13 = .ok (.isub, 1) := by decide +kernel
theorem dX4_desired_14 : decode cX4_desired 14 = .ok (.if_icmp .ge 12, 3) := by decide +kernel
theorem dX4_desired_17 : decode cX4_desired 17 = .ok (.aload_n 0, 1) := by decide +kernel
theorem dX4_desired_18 : decode cX4_desired 18 = .ok (.getfield 7, 3) := by decide +kernel
theorem dX4_desired_21 : decode cX4_desired 21 = .ok (.iconst 2, 1) := by decide +kernel
theorem dX4_desired_22 : decode cX4_desired 22 = .ok (.iaload, 1) := by decide +kernel
theorem dX4_desired_23 : decode cX4_desired 23 = .ok (.goto 11, 3) := by decide +kernel
theorem dX4_desired_26 : decode cX4_desired 26 = .ok (.aload_n 0, 1) := by decide +kernel
theorem dX4_desired_27 : decode cX4_desired 27 = .ok (.getfield 7, 3) := by decide +kernel
theorem dX4_desired_30 : decode cX4_desired 30 = .ok (.iconst 1, 1) := by decide +kernel
theorem dX4_desired_31 : decode cX4_desired 31 = .ok (.iaload, 1) := by decide +kernel
theorem dX4_desired_32 : decode cX4_desired 32 = .ok (.iconst 1, 1) := by decide +kernel
theorem dX4_desired_33 : decode cX4_desired 33 = .ok (.isub, 1) := by decide +kernel
theorem dX4_desired_34 : decode cX4_desired 34 = .ok (.istore_n 1, 1) := by decide +kernel
theorem dX4_desired_35 : decode cX4_desired 35 = .ok (.aload_n 0, 1) := by decide +kernel
theorem dX4_desired_36 : decode cX4_desired 36 = .ok (.bipush 100, 2) := by decide +kernel
theorem dX4_desired_38 : decode cX4_desired 38 = .ok (.aload_n 0, 1) := by decide +kernel
theorem dX4_desired_39 : decode cX4_desired 39 = .ok (.getfield 29, 3) := by decide +kernel
theorem dX4_desired_42 : decode cX4_desired 42 = .ok (.aload_n 0, 1) := by decide +kernel
theorem dX4_desired_43 : decode cX4_desired 43 = .ok (.invokevirtual 88, 3) := by decide +kernel
theorem dX4_desired_46 : decode cX4_desired 46 = .ok (.iaload, 1) := by decide +kernel
theorem dX4_desired_47 : decode cX4_desired 47 = .ok (.iload_n 1, 1) := by decide +kernel
theorem dX4_desired_48 : decode cX4_desired 48 = .ok (.isub, 1) := by decide +kernel
theorem dX4_desired_49 : decode cX4_desired 49 = .ok (.imul, 1) := by decide +kernel
theorem dX4_desired_50 : decode cX4_desired 50 = .ok (.invokevirtual 91, 3) := by decide +kernel
theorem dX4_desired_53 : decode cX4_desired 53 = .ok (.ireturn, 1) := by decide +kernel
theorem dX4_isShown_0 : decode cX4_isShown 0 = .ok (.bipush 100, 2) := by decide +kernel
theorem dX4_isShown_2 : decode cX4_isShown 2 = .ok (.iload_n 1, 1) := by decide +kernel
theorem dX4_isShown_3 : decode cX4_isShown 3 = .ok (.imul, 1) := by decide +kernel
theorem dX4_isShown_4 : decode cX4_isShown 4 = .ok (.aload_n 0, 1) := by decide +kernel
theorem dX4_isShown_5 : decode cX4_isShown 5 = .ok (.getfield 7, 3) := by decide +kernel
theorem dX4_isShown_8 : decode cX4_isShown 8 = .ok (.bipush 14, 2) := by decide +kernel
theorem dX4_isShown_10 : decode cX4_isShown 10 = .ok (.iaload, 1) := by decide +kernel
theorem dX4_isShown_11 : decode cX4_isShown 11 = .ok (.if_icmp .lt 33, 3) := by decide +kernel
theorem dX4_isShown_14 : decode cX4_isShown 14 = .ok (.bipush 100, 2) := by decide +kernel
theorem dX4_isShown_16 : decode cX4_isShown 16 = .ok (.iload_n 1, 1) := by decide +kernel
theorem dX4_isShown_17 : decode cX4_isShown 17 = .ok (.imul, 1) := by decide +kernel
theorem dX4_isShown_18 : decode cX4_isShown 18 = .ok (.aload_n 0, 1) := by decide +kernel
theorem dX4_isShown_19 : decode cX4_isShown 19 = .ok (.getfield 7, 3) := by decide +kernel
theorem dX4_isShown_22 : decode cX4_isShown 22 = .ok (.bipush 14, 2) := by decide +kernel
theorem dX4_isShown_24 : decode cX4_isShown 24 = .ok (.iaload, 1) := by decide +kernel
theorem dX4_isShown_25 : decode cX4_isShown 25 = .ok (.bipush 100, 2) := by decide +kernel
theorem dX4_isShown_27 : decode cX4_isShown 27 = .ok (.aload_n 0, 1) := by decide +kernel
theorem dX4_isShown_28 : decode cX4_isShown 28 = .ok (.getfield 7, 3) := by decide +kernel
theorem dX4_isShown_31 : decode cX4_isShown 31 = .ok (.iconst 1, 1) := by decide +kernel
theorem dX4_isShown_32 : decode cX4_isShown 32 = .ok (.iaload, 1) := by decide +kernel
theorem dX4_isShown_33 : decode cX4_isShown 33 = .ok (.iconst 1, 1) := by decide +kernel
theorem dX4_isShown_34 : decode cX4_isShown 34 = .ok (.isub, 1) := by decide +kernel
theorem dX4_isShown_35 : decode cX4_isShown 35 = .ok (.imul, 1) := by decide +kernel
theorem dX4_isShown_36 : decode cX4_isShown 36 = .ok (.iadd, 1) := by decide +kernel
theorem dX4_isShown_37 : decode cX4_isShown 37 = .ok (.if_icmp .gt 7, 3) := by decide +kernel
theorem dX4_isShown_40 : decode cX4_isShown 40 = .ok (.iconst 1, 1) := by decide +kernel
theorem dX4_isShown_41 : decode cX4_isShown 41 = .ok (.goto 4, 3) := by decide +kernel
theorem dX4_isShown_44 : decode cX4_isShown 44 = .ok (.iconst 0, 1) := by decide +kernel
theorem dX4_isShown_45 : decode cX4_isShown 45 = .ok (.ireturn, 1) := by decide +kernel
set_option maxRecDepth 20000 in
theorem ggX4_tickOnce_X4_desired : GoodIn wsX4_tickOnce wsX4_desired := goodIn_r _ [7, 1, 2, 8, 9, 10, 6, 11, 12, 13, 14, 15, 16, 17, 18, 19, 20, 21, 22, 23, 24, 29, 30, 31, 32, 33, 34, 35, 36, 37, 38, 39, 40, 41, 42, 43, 44, 45, 46, 47] (by decide +kernel) (by decide +kernel)
set_option maxRecDepth 20000 in
theorem gX4_tickOnce_X4_desired : GoodIn wsX4_tickOnce (wsV RX4 94 RX4 yX4_desired wsX4_desired) := goodIn_app (goodIn_of _ (by decide +kernel)) ggX4_tickOnce_X4_desired
set_option maxRecDepth 20000 in
theorem ggX4_tickOnce_X4_estimated : GoodIn wsX4_tickOnce wsX4_estimated := goodIn_r _ [11, 1, 12, 13, 14, 6, 15, 29, 30, 31, 32, 33, 34, 35, 36, 37, 38, 39, 40, 41, 42, 43, 44, 45, 46, 47] (by decide +kernel) (by decide +kernel)
set_option maxRecDepth 20000 in
theorem gX4_tickOnce_X4_estimated : GoodIn wsX4_tickOnce (wsV RX4 88 RX4 yX4_estimated wsX4_estimated) := goodIn_app (goodIn_of _ (by decide +kernel)) ggX4_tickOnce_X4_estimated
set_option maxRecDepth 20000 in
theorem ggX4_tickOnce_X4_isShown : GoodIn wsX4_tickOnce wsX4_isShown := goodIn_r _ [28, 1, 29, 30, 31, 32, 33, 34, 35, 36, 37, 38, 39, 40, 41, 42, 43, 44, 45, 46, 47] (by decide +kernel) (by decide +kernel)
set_option maxRecDepth 20000 in
theorem gX4_tickOnce_X4_isShown : GoodIn wsX4_tickOnce (wsV RX4 97 RX4 yX4_isShown wsX4_isShown) := goodIn_app (goodIn_of _ (by decide +kernel)) ggX4_tickOnce_X4_isShown
theorem dX4_tickOnce_0 : decode cX4_tickOnce 0 = .ok (.aload_n 0, 1) := by decide +kernel
theorem dX4_tickOnce_1 : decode cX4_tickOnce 1 = .ok (.getfield 7, 3) := by decide +kernel
theorem dX4_tickOnce_4 : decode cX4_tickOnce 4 = .ok (.bipush 10, 2) := by decide +kernel
theorem dX4_tickOnce_6 : decode cX4_tickOnce 6 = .ok (.dup2, 1) := by decide +kernel
theorem dX4_tickOnce_7 : decode cX4_tickOnce 7 = .ok (.iaload, 1) := by decide +kernel
theorem dX4_tickOnce_8 : decode cX4_tickOnce 8 = .ok (.iconst 1, 1) := by decide +kernel
theorem dX4_tickOnce_9 : decode cX4_tickOnce 9 = .ok (.iadd, 1) := by decide +kernel
theorem dX4_tickOnce_10 : decode cX4_tickOnce 10 = .ok (.iastore, 1) := by decide +kernel
theorem dX4_tickOnce_11 : decode cX4_tickOnce 11 = .ok (.aload_n 0, 1) := by decide +kernel
theorem dX4_tickOnce_12 : decode cX4_tickOnce 12 = .ok (.invokevirtual 94, 3) := by decide +kernel
theorem dX4_tickOnce_15 : decode cX4_tickOnce 15 = .ok (.aload_n 0, 1) := by decide +kernel
theorem dX4_tickOnce_16 : decode cX4_tickOnce 16 = .ok (.getfield 7, 3) := by decide +kernel
theorem dX4_tickOnce_19 : decode cX4_tickOnce 19 = .ok (.bipush 14, 2) := by decide +kernel
theorem dX4_tickOnce_21 : decode cX4_tickOnce 21 = .ok (.iaload, 1) := by decide +kernel
theorem dX4_tickOnce_22 : decode cX4_tickOnce 22 = .ok (.isub, 1) := by decide +kernel
theorem dX4_tickOnce_23 : decode cX4_tickOnce 23 = .ok (.istore_n 1, 1) := by decide +kernel
theorem dX4_tickOnce_24 : decode cX4_tickOnce 24 = .ok (.aload_n 0, 1) := by decide +kernel
theorem dX4_tickOnce_25 : decode cX4_tickOnce 25 = .ok (.getfield 7, 3) := by decide +kernel
theorem dX4_tickOnce_28 : decode cX4_tickOnce 28 = .ok (.bipush 14, 2) := by decide +kernel
theorem dX4_tickOnce_30 : decode cX4_tickOnce 30 = .ok (.dup2, 1) := by decide +kernel
theorem dX4_tickOnce_31 : decode cX4_tickOnce 31 = .ok (.iaload, 1) := by decide +kernel
theorem dX4_tickOnce_32 : decode cX4_tickOnce 32 = .ok (.iload_n 1, 1) := by decide +kernel
theorem dX4_tickOnce_33 : decode cX4_tickOnce 33 = .ok (.aload_n 0, 1) := by decide +kernel
theorem dX4_tickOnce_34 : decode cX4_tickOnce 34 = .ok (.getfield 7, 3) := by decide +kernel
theorem dX4_tickOnce_37 : decode cX4_tickOnce 37 = .ok (.bipush 7, 2) := by decide +kernel
theorem dX4_tickOnce_39 : decode cX4_tickOnce 39 = .ok (.iaload, 1) := by decide +kernel
theorem dX4_tickOnce_40 : decode cX4_tickOnce 40 = .ok (.if_icmp .le 13, 3) := by decide +kernel
theorem dX4_tickOnce_43 : decode cX4_tickOnce 43 = .ok (.aload_n 0, 1) := by decide +kernel
theorem dX4_tickOnce_44 : decode cX4_tickOnce 44 = .ok (.getfield 7, 3) := by decide +kernel
theorem dX4_tickOnce_47 : decode cX4_tickOnce 47 = .ok (.bipush 7, 2) := by decide +kernel
theorem dX4_tickOnce_49 : decode cX4_tickOnce 49 = .ok (.iaload, 1) := by decide +kernel
theorem dX4_tickOnce_50 : decode cX4_tickOnce 50 = .ok (.goto 27, 3) := by decide +kernel
theorem dX4_tickOnce_53 : decode cX4_tickOnce 53 = .ok (.iload_n 1, 1) := by decide +kernel
theorem dX4_tickOnce_54 : decode cX4_tickOnce 54 = .ok (.aload_n 0, 1) := by decide +kernel
theorem dX4_tickOnce_55 : decode cX4_tickOnce 55 = .ok (.getfield 7, 3) := by decide +kernel
theorem dX4_tickOnce_58 : decode cX4_tickOnce 58 = .ok (.bipush 7, 2) := by decide +kernel
theorem dX4_tickOnce_60 : decode cX4_tickOnce 60 = .ok (.iaload, 1) := by decide +kernel
theorem dX4_tickOnce_61 : decode cX4_tickOnce 61 = .ok (.ineg, 1) := by decide +kernel
theorem dX4_tickOnce_62 : decode cX4_tickOnce 62 = .ok (.if_icmp .ge 14, 3) := by decide +kernel
theorem dX4_tickOnce_65 : decode cX4_tickOnce 65 = .ok (.aload_n 0, 1) := by decide +kernel
theorem dX4_tickOnce_66 : decode cX4_tickOnce 66 = .ok (.getfield 7, 3) := by decide +kernel
theorem dX4_tickOnce_69 : decode cX4_tickOnce 69 = .ok (.bipush 7, 2) := by decide +kernel
theorem dX4_tickOnce_71 : decode cX4_tickOnce 71 = .ok (.iaload, 1) := by decide +kernel
theorem dX4_tickOnce_72 : decode cX4_tickOnce 72 = .ok (.ineg, 1) := by decide +kernel
theorem dX4_tickOnce_73 : decode cX4_tickOnce 73 = .ok (.goto 4, 3) := by decide +kernel
theorem dX4_tickOnce_76 : decode cX4_tickOnce 76 = .ok (.iload_n 1, 1) := by decide +kernel
theorem dX4_tickOnce_77 : decode cX4_tickOnce 77 = .ok (.iadd, 1) := by decide +kernel
theorem dX4_tickOnce_78 : decode cX4_tickOnce 78 = .ok (.iastore, 1) := by decide +kernel
theorem dX4_tickOnce_79 : decode cX4_tickOnce 79 = .ok (.aload_n 0, 1) := by decide +kernel
theorem dX4_tickOnce_80 : decode cX4_tickOnce 80 = .ok (.getfield 29, 3) := by decide +kernel
theorem dX4_tickOnce_83 : decode cX4_tickOnce 83 = .ok (.aload_n 0, 1) := by decide +kernel
theorem dX4_tickOnce_84 : decode cX4_tickOnce 84 = .ok (.invokevirtual 88, 3) := by decide +kernel
theorem dX4_tickOnce_87 : decode cX4_tickOnce 87 = .ok (.iaload, 1) := by decide +kernel
theorem dX4_tickOnce_88 : decode cX4_tickOnce 88 = .ok (.istore_n 2, 1) := by decide +kernel
theorem dX4_tickOnce_89 : decode cX4_tickOnce 89 = .ok (.aload_n 0, 1) := by decide +kernel
theorem dX4_tickOnce_90 : decode cX4_tickOnce 90 = .ok (.iload_n 2, 1) := by decide +kernel
theorem dX4_tickOnce_91 : decode cX4_tickOnce 91 = .ok (.invokevirtual 97, 3) := by decide +kernel
theorem dX4_tickOnce_94 : decode cX4_tickOnce 94 = .ok (.ifCond .ne 58, 3) := by decide +kernel
theorem dX4_tickOnce_97 : decode cX4_tickOnce 97 = .ok (.aload_n 0, 1) := by decide +kernel
theorem dX4_tickOnce_98 : decode cX4_tickOnce 98 = .ok (.getfield 7, 3) := by decide +kernel
theorem dX4_tickOnce_101 : decode cX4_tickOnce 101 = .ok (.bipush 14, 2) := by decide +kernel
theorem dX4_tickOnce_103 : decode cX4_tickOnce 103 = .ok (.bipush 100, 2) := by decide +kernel
theorem dX4_tickOnce_105 : decode cX4_tickOnce 105 = .ok (.iload_n 2, 1) := by decide +kernel
theorem dX4_tickOnce_106 : decode cX4_tickOnce 106 = .ok (.imul, 1) := by decide +kernel
theorem dX4_tickOnce_107 : decode cX4_tickOnce 107 = .ok (.aload_n 0, 1) := by decide +kernel
theorem dX4_tickOnce_108 : decode cX4_tickOnce 108 = .ok (.getfield 7, 3) := by decide +kernel
theorem dX4_tickOnce_111 : decode cX4_tickOnce 111 = .ok (.bipush 14, 2) := by decide +kernel
theorem dX4_tickOnce_113 : decode cX4_tickOnce 113 = .ok (.iaload, 1) := by decide +kernel
theorem dX4_tickOnce_114 : decode cX4_tickOnce 114 = .ok (.if_icmp .ge 10, 3) := by decide +kernel
theorem dX4_tickOnce_117 : decode cX4_tickOnce 117 = .ok (.bipush 100, 2) := by decide +kernel
theorem dX4_tickOnce_119 : decode cX4_tickOnce 119 = .ok (.iload_n 2, 1) := by decide +kernel
theorem dX4_tickOnce_120 : decode cX4_tickOnce 120 = .ok (.imul, 1) := by decide +kernel
theorem dX4_tickOnce_121 : decode cX4_tickOnce 121 = .ok (.goto 19, 3) := by decide +kernel
theorem dX4_tickOnce_124 : decode cX4_tickOnce 124 = .ok (.bipush 100, 2) := by decide +kernel
theorem dX4_tickOnce_126 : decode cX4_tickOnce 126 = .ok (.iload_n 2, 1) := by decide +kernel
theorem dX4_tickOnce_127 : decode cX4_tickOnce 127 = .ok (.imul, 1) := by decide +kernel
theorem dX4_tickOnce_128 : decode cX4_tickOnce 128 = .ok (.bipush 100, 2) := by decide +kernel
theorem dX4_tickOnce_130 : decode cX4_tickOnce 130 = .ok (.aload_n 0, 1) := by decide +kernel
theorem dX4_tickOnce_131 : decode cX4_tickOnce 131 = .ok (.getfield 7, 3) := by decide +kernel
theorem dX4_tickOnce_134 : decode cX4_tickOnce 134 = .ok (.iconst 1, 1) := by decide +kernel
theorem dX4_tickOnce_135 : decode cX4_tickOnce 135 = .ok (.iaload, 1) := by decide +kernel
theorem dX4_tickOnce_136 : decode cX4_tickOnce 136 = .ok (.iconst 1, 1) := by decide +kernel
theorem dX4_tickOnce_137 : decode cX4_tickOnce 137 = .ok (.isub, 1) := by decide +kernel
theorem dX4_tickOnce_138 : decode cX4_tickOnce 138 = .ok (.imul, 1) := by decide +kernel
theorem dX4_tickOnce_139 : decode cX4_tickOnce 139 = .ok (.isub, 1) := by decide +kernel
theorem dX4_tickOnce_140 : decode cX4_tickOnce 140 = .ok (.iastore, 1) := by decide +kernel
theorem dX4_tickOnce_141 : decode cX4_tickOnce 141 = .ok (.aload_n 0, 1) := by decide +kernel
theorem dX4_tickOnce_142 : decode cX4_tickOnce 142 = .ok (.getfield 7, 3) := by decide +kernel
theorem dX4_tickOnce_145 : decode cX4_tickOnce 145 = .ok (.bipush 18, 2) := by decide +kernel
theorem dX4_tickOnce_147 : decode cX4_tickOnce 147 = .ok (.dup2, 1) := by decide +kernel
theorem dX4_tickOnce_148 : decode cX4_tickOnce 148 = .ok (.iaload, 1) := by decide +kernel
theorem dX4_tickOnce_149 : decode cX4_tickOnce 149 = .ok (.iconst 1, 1) := by decide +kernel
theorem dX4_tickOnce_150 : decode cX4_tickOnce 150 = .ok (.iadd, 1) := by decide +kernel
theorem dX4_tickOnce_151 : decode cX4_tickOnce 151 = .ok (.iastore, 1) := by decide +kernel
theorem dX4_tickOnce_152 : decode cX4_tickOnce 152 = .ok (.return_, 1) := by decide +kernel
set_option maxRecDepth 20000 in
theorem ggX4_releaseNext_X4_nextCue : GoodIn wsX4_releaseNext wsX4_nextCue := goodIn_r _ [6, 1, 7, 8, 9, 10, 11, 12, 13, 14, 15, 16, 17, 18, 19, 20, 21, 22, 23, 24, 25] (by decide +kernel) (by decide +kernel)
set_option maxRecDepth 20000 in
theorem gX4_releaseNext_X4_nextCue : GoodIn wsX4_releaseNext (wsV RX4 85 RX4 yX4_nextCue wsX4_nextCue) := goodIn_app (goodIn_of _ (by decide +kernel)) ggX4_releaseNext_X4_nextCue
theorem dX4_releaseNext_0 : decode cX4_releaseNext 0 = .ok (.aload_n 0, 1) := by decide +kernel
theorem dX4_releaseNext_1 : decode cX4_releaseNext 1 = .ok (.invokevirtual 85, 3) := by decide +kernel
theorem dX4_releaseNext_4 : decode cX4_releaseNext 4 = .ok (.istore_n 1, 1) := by decide +kernel
theorem dX4_releaseNext_5 : decode cX4_releaseNext 5 = .ok (.aload_n 0, 1) := by decide +kernel
theorem dX4_releaseNext_6 : decode cX4_releaseNext 6 = .ok (.getfield 7, 3) := by decide +kernel
theorem dX4_releaseNext_9 : decode cX4_releaseNext 9 = .ok (.sipush 270, 3) := by decide +kernel
theorem dX4_releaseNext_12 : decode cX4_releaseNext 12 = .ok (.iload_n 1, 1) := by decide +kernel
theorem dX4_releaseNext_13 : decode cX4_releaseNext 13 = .ok (.iadd, 1) := by decide +kernel
theorem dX4_releaseNext_14 : decode cX4_releaseNext 14 = .ok (.iconst 2, 1) := by decide +kernel
theorem dX4_releaseNext_15 : decode cX4_releaseNext 15 = .ok (.iastore, 1) := by decide +kernel
theorem dX4_releaseNext_16 : decode cX4_releaseNext 16 = .ok (.iload_n 1, 1) := by decide +kernel
theorem dX4_releaseNext_17 : decode cX4_releaseNext 17 = .ok (.ireturn, 1) := by decide +kernel
theorem dX4_fails_0 : decode cX4_fails 0 = .ok (.aload_n 0, 1) := by decide +kernel
theorem dX4_fails_1 : decode cX4_fails 1 = .ok (.iload_n 1, 1) := by decide +kernel
theorem dX4_fails_2 : decode cX4_fails 2 = .ok (.putfield 100, 3) := by decide +kernel
theorem dX4_fails_5 : decode cX4_fails 5 = .ok (.aload_n 0, 1) := by decide +kernel
theorem dX4_fails_6 : decode cX4_fails 6 = .ok (.iload_n 2, 1) := by decide +kernel
theorem dX4_fails_7 : decode cX4_fails 7 = .ok (.putfield 103, 3) := by decide +kernel
theorem dX4_fails_10 : decode cX4_fails 10 = .ok (.return_, 1) := by decide +kernel
set_option maxRecDepth 20000 in
theorem ggX4_readWord_X4_fails : GoodIn wsX4_readWord wsX4_fails := goodIn_r _ [11, 12, 13, 14, 15, 16, 17, 18, 19, 20, 21, 22, 23, 24, 25, 26, 27, 28, 29, 30, 31, 32] (by decide +kernel) (by decide +kernel)
set_option maxRecDepth 20000 in
theorem gX4_readWord_X4_fails : GoodIn wsX4_readWord (wsV RX4 109 RX4 yX4_fails wsX4_fails) := goodIn_app (goodIn_of _ (by decide +kernel)) ggX4_readWord_X4_fails
theorem dX4_readWord_0 : decode cX4_readWord 0 = .ok (.aload_n 0, 1) := by decide +kernel
theorem dX4_readWord_1 : decode cX4_readWord 1 = .ok (.getfield 106, 3) := by decide +kernel
theorem dX4_readWord_4 : decode cX4_readWord 4 = .ok (.bipush 120, 2) := by decide +kernel
theorem dX4_readWord_6 : decode cX4_readWord 6 = .ok (.if_icmp .ne 10, 3) := by decide +kernel
theorem dX4_readWord_9 : decode cX4_readWord 9 = .ok (.aload_n 0, 1) := by decide +kernel
theorem dX4_readWord_10 : decode cX4_readWord 10 = .ok (.iconst 4, 1) := by decide +kernel
theorem dX4_readWord_11 : decode cX4_readWord 11 = .ok (.iload_n 1, 1) := by decide +kernel
theorem dX4_readWord_12 : decode cX4_readWord 12 = .ok (.invokevirtual 109, 3) := by decide +kernel
theorem dX4_readWord_15 : decode cX4_readWord 15 = .ok (.return_, 1) := by decide +kernel
theorem dX4_readWord_16 : decode cX4_readWord 16 = .ok (.aload_n 0, 1) := by decide +kernel
theorem dX4_readWord_17 : decode cX4_readWord 17 = .ok (.getfield 32, 3) := by decide +kernel
theorem dX4_readWord_20 : decode cX4_readWord 20 = .ok (.aload_n 0, 1) := by decide +kernel
theorem dX4_readWord_21 : decode cX4_readWord 21 = .ok (.getfield 106, 3) := by decide +kernel
theorem dX4_readWord_24 : decode cX4_readWord 24 = .ok (.aload_n 0, 1) := by decide +kernel
theorem dX4_readWord_25 : decode cX4_readWord 25 = .ok (.getfield 19, 3) := by decide +kernel
theorem dX4_readWord_28 : decode cX4_readWord 28 = .ok (.iload_n 1, 1) := by decide +kernel
theorem dX4_readWord_29 : decode cX4_readWord 29 = .ok (.iaload, 1) := by decide +kernel
theorem dX4_readWord_30 : decode cX4_readWord 30 = .ok (.iastore, 1) := by decide +kernel
theorem dX4_readWord_31 : decode cX4_readWord 31 = .ok (.aload_n 0, 1) := by decide +kernel
theorem dX4_readWord_32 : decode cX4_readWord 32 = .ok (.getfield 35, 3) := by decide +kernel
theorem dX4_readWord_35 : decode cX4_readWord 35 = .ok (.aload_n 0, 1) := by decide +kernel
theorem dX4_readWord_36 : decode cX4_readWord 36 = .ok (.getfield 106, 3) := by decide +kernel
theorem dX4_readWord_39 : decode cX4_readWord 39 = .ok (.iconst 0, 1) := by decide +kernel
theorem dX4_readWord_40 : decode cX4_readWord 40 = .ok (.iastore, 1) := by decide +kernel
theorem dX4_readWord_41 : decode cX4_readWord 41 = .ok (.aload_n 0, 1) := by decide +kernel
theorem dX4_readWord_42 : decode cX4_readWord 42 = .ok (.getfield 38, 3) := by decide +kernel
theorem dX4_readWord_45 : decode cX4_readWord 45 = .ok (.aload_n 0, 1) := by decide +kernel
theorem dX4_readWord_46 : decode cX4_readWord 46 = .ok (.getfield 106, 3) := by decide +kernel
theorem dX4_readWord_49 : decode cX4_readWord 49 = .ok (.aload_n 0, 1) := by decide +kernel
theorem dX4_readWord_50 : decode cX4_readWord 50 = .ok (.getfield 113, 3) := by decide +kernel
theorem dX4_readWord_53 : decode cX4_readWord 53 = .ok (.iastore, 1) := by decide +kernel
theorem dX4_readWord_54 : decode cX4_readWord 54 = .ok (.aload_n 0, 1) := by decide +kernel
theorem dX4_readWord_55 : decode cX4_readWord 55 = .ok (.dup, 1) := by decide +kernel
theorem dX4_readWord_56 : decode cX4_readWord 56 = .ok (.getfield 106, 3) := by decide +kernel
theorem dX4_readWord_59 : decode cX4_readWord 59 = .ok (.iconst 1, 1) := by decide +kernel
theorem dX4_readWord_60 : decode cX4_readWord 60 = .ok (.iadd, 1) := by decide +kernel
theorem dX4_readWord_61 : decode cX4_readWord 61 = .ok (.putfield 106, 3) := by decide +kernel
theorem dX4_readWord_64 : decode cX4_readWord 64 = .ok (.return_, 1) := by decide +kernel
theorem dX4_hasWord_0 : decode cX4_hasWord 0 = .ok (.aload_n 0, 1) := by decide +kernel
theorem dX4_hasWord_1 : decode cX4_hasWord 1 = .ok (.getfield 106, 3) := by decide +kernel
theorem dX4_hasWord_4 : decode cX4_hasWord 4 = .ok (.ifCond .le 25, 3) := by decide +kernel
theorem dX4_hasWord_7 : decode cX4_hasWord 7 = .ok (.aload_n 0, 1) := by decide +kernel
theorem dX4_hasWord_8 : decode cX4_hasWord 8 = .ok (.getfield 38, 3) := by decide +kernel
theorem dX4_hasWord_11 : decode cX4_hasWord 11 = .ok (.aload_n 0, 1) := by decide +kernel
theorem dX4_hasWord_12 : decode cX4_hasWord 12 = .ok (.getfield 106, 3) := by decide +kernel
theorem dX4_hasWord_15 : decode cX4_hasWord 15 = .ok (.iconst 1, 1) := by decide +kernel
theorem dX4_hasWord_16 : decode cX4_hasWord 16 = .ok (.isub, 1) := by decide +kernel
theorem dX4_hasWord_17 : decode cX4_hasWord 17 = .ok (.iaload, 1) := by decide +kernel
theorem dX4_hasWord_18 : decode cX4_hasWord 18 = .ok (.aload_n 0, 1) := by decide +kernel
theorem dX4_hasWord_19 : decode cX4_hasWord 19 = .ok (.getfield 113, 3) := by decide +kernel
theorem dX4_hasWord_22 : decode cX4_hasWord 22 = .ok (.if_icmp .ne 7, 3) := by decide +kernel
theorem dX4_hasWord_25 : decode cX4_hasWord 25 = .ok (.iconst 1, 1) := by decide +kernel
theorem dX4_hasWord_26 : decode cX4_hasWord 26 = .ok (.goto 4, 3) := by decide +kernel
theorem dX4_hasWord_29 : decode cX4_hasWord 29 = .ok (.iconst 0, 1) := by decide +kernel
theorem dX4_hasWord_30 : decode cX4_hasWord 30 = .ok (.ireturn, 1) := by decide +kernel
set_option maxRecDepth 20000 in
theorem ggX4_readByte_X4_isLetter : GoodIn wsX4_readByte wsX4_isLetter := goodIn_r _ [8, 9, 10, 7, 11] (by decide +kernel) (by decide +kernel)
set_option maxRecDepth 20000 in
theorem gX4_readByte_X4_isLetter : GoodIn wsX4_readByte (va_wsS RX4 116 yX4_isLetter wsX4_isLetter) := goodIn_app (goodIn_of _ (by decide +kernel)) ggX4_readByte_X4_isLetter
set_option maxRecDepth 20000 in
theorem ggX4_readByte_X4_readWord : GoodIn wsX4_readByte wsX4_readWord := goodIn_r _ [15, 3, 16, 1, 2, 17, 4, 18, 19, 20, 7, 21, 22, 23, 28, 29, 30, 31, 32, 33, 34, 35, 36, 37, 38, 39, 40, 41, 42, 43, 44, 45, 46] (by decide +kernel) (by decide +kernel)
set_option maxRecDepth 20000 in
theorem gX4_readByte_X4_readWord : GoodIn wsX4_readByte (wsV RX4 119 RX4 yX4_readWord wsX4_readWord) := goodIn_app (goodIn_of _ (by decide +kernel)) ggX4_readByte_X4_readWord
set_option maxRecDepth 20000 in
theorem ggX4_readByte_X4_fails : GoodIn wsX4_readByte wsX4_fails := goodIn_r _ [21, 22, 23, 28, 29, 30, 31, 32, 33, 34, 35, 36, 37, 38, 39, 40, 41, 42, 43, 44, 45, 46] (by decide +kernel) (by decide +kernel)
set_option maxRecDepth 20000 in
theorem gX4_readByte_X4_fails : GoodIn wsX4_readByte (wsV RX4 109 RX4 yX4_fails wsX4_fails) := goodIn_app (goodIn_of _ (by decide +kernel)) ggX4_readByte_X4_fails
set_option maxRecDepth 20000 in
theorem ggX4_readByte_X4_hasWord : GoodIn wsX4_readByte wsX4_hasWord := goodIn_r _ [27, 3, 17, 4, 28, 29, 30, 31, 32, 33, 34, 35, 36, 37, 38, 39, 40, 41, 42, 43, 44, 45, 46] (by decide +kernel) (by decide +kernel)
set_option maxRecDepth 20000 in
theorem gX4_readByte_X4_hasWord : GoodIn wsX4_readByte (wsV RX4 122 RX4 yX4_hasWord wsX4_hasWord) := goodIn_app (goodIn_of _ (by decide +kernel)) ggX4_readByte_X4_hasWord
theorem dX4_readByte_0 : decode cX4_readByte 0 = .ok (.aload_n 0, 1) := by decide +kernel
theorem dX4_readByte_1 : decode cX4_readByte 1 = .ok (.getfield 19, 3) := by decide +kernel
theorem dX4_readByte_4 : decode cX4_readByte 4 = .ok (.iload_n 1, 1) := by decide +kernel
theorem dX4_readByte_5 : decode cX4_readByte 5 = .ok (.iaload, 1) := by decide +kernel
theorem dX4_readByte_6 : decode cX4_readByte 6 = .ok (.istore_n 2, 1) := by decide +kernel
theorem dX4_readByte_7 : decode cX4_readByte 7 = .ok (.iload_n 2, 1) := by decide +kernel
theorem dX4_readByte_8 : decode cX4_readByte 8 = .ok (.invokestatic 116, 3) := by decide +kernel
theorem dX4_readByte_11 : decode cX4_readByte 11 = .ok (.ifCond .eq 11, 3) := by decide +kernel
theorem dX4_readByte_14 : decode cX4_readByte 14 = .ok (.aload_n 0, 1) := by decide +kernel
theorem dX4_readByte_15 : decode cX4_readByte 15 = .ok (.iload_n 1, 1) := by decide +kernel
theorem dX4_readByte_16 : decode cX4_readByte 16 = .ok (.invokevirtual 119, 3) := by decide +kernel
theorem dX4_readByte_19 : decode cX4_readByte 19 = .ok (.goto 98, 3) := by decide +kernel
theorem dX4_readByte_22 : decode cX4_readByte 22 = .ok (.iload_n 2, 1) := by decide +kernel
theorem dX4_readByte_23 : decode cX4_readByte 23 = .ok (.bipush 47, 2) := by decide +kernel
theorem dX4_readByte_25 : decode cX4_readByte 25 = .ok (.if_icmp .ne 45, 3) := by decide +kernel
theorem dX4_readByte_28 : decode cX4_readByte 28 = .ok (.iload_n 1, 1) := by decide +kernel
theorem dX4_readByte_29 : decode cX4_readByte 29 = .ok (.ifCond .le 32, 3) := by decide +kernel
theorem dX4_readByte_32 : decode cX4_readByte 32 = .ok (.aload_n 0, 1) := by decide +kernel
theorem dX4_readByte_33 : decode cX4_readByte 33 = .ok (.getfield 19, 3) := by decide +kernel
theorem dX4_readByte_36 : decode cX4_readByte 36 = .ok (.iload_n 1, 1) := by decide +kernel
theorem dX4_readByte_37 : decode cX4_readByte 37 = .ok (.iconst 1, 1) := by decide +kernel
theorem dX4_readByte_38 : decode cX4_readByte 38 = .ok (.isub, 1) := by decide +kernel
theorem dX4_readByte_39 : decode cX4_readByte 39 = .ok (.iaload, 1) := by decide +kernel
theorem dX4_readByte_40 : decode cX4_readByte 40 = .ok (.invokestatic 116, 3) := by decide +kernel
theorem dX4_readByte_43 : decode cX4_readByte 43 = .ok (.ifCond .eq 18, 3) := by decide +kernel
theorem dX4_readByte_46 : decode cX4_readByte 46 = .ok (.aload_n 0, 1) := by decide +kernel
theorem dX4_readByte_47 : decode cX4_readByte 47 = .ok (.getfield 35, 3) := by decide +kernel
theorem dX4_readByte_50 : decode cX4_readByte 50 = .ok (.aload_n 0, 1) := by decide +kernel
theorem dX4_readByte_51 : decode cX4_readByte 51 = .ok (.getfield 106, 3) := by decide +kernel
theorem dX4_readByte_54 : decode cX4_readByte 54 = .ok (.iconst 1, 1) := by decide +kernel
theorem dX4_readByte_55 : decode cX4_readByte 55 = .ok (.isub, 1) := by decide +kernel
theorem dX4_readByte_56 : decode cX4_readByte 56 = .ok (.iconst 1, 1) := by decide +kernel
theorem dX4_readByte_57 : decode cX4_readByte 57 = .ok (.iastore, 1) := by decide +kernel
theorem dX4_readByte_58 : decode cX4_readByte 58 = .ok (.goto 59, 3) := by decide +kernel
theorem dX4_readByte_61 : decode cX4_readByte 61 = .ok (.aload_n 0, 1) := by decide +kernel
theorem dX4_readByte_62 : decode cX4_readByte 62 = .ok (.iconst 2, 1) := by decide +kernel
theorem dX4_readByte_63 : decode cX4_readByte 63 = .ok (.iload_n 1, 1) := by decide +kernel
theorem dX4_readByte_64 : decode cX4_readByte 64 = .ok (.invokevirtual 109, 3) := by decide +kernel
theorem dX4_readByte_67 : decode cX4_readByte 67 = .ok (.goto 50, 3) := by decide +kernel
theorem dX4_readByte_70 : decode cX4_readByte 70 = .ok (.iload_n 2, 1) := by decide +kernel
theorem dX4_readByte_71 : decode cX4_readByte 71 = .ok (.bipush 124, 2) := by decide +kernel
theorem dX4_readByte_73 : decode cX4_readByte 73 = .ok (.if_icmp .ne 32, 3) := by decide +kernel
theorem dX4_readByte_76 : decode cX4_readByte 76 = .ok (.aload_n 0, 1) := by decide +kernel
theorem dX4_readByte_77 : decode cX4_readByte 77 = .ok (.invokevirtual 122, 3) := by decide +kernel
theorem dX4_readByte_80 : decode cX4_readByte 80 = .ok (.ifCond .eq 16, 3) := by decide +kernel
theorem dX4_readByte_83 : decode cX4_readByte 83 = .ok (.aload_n 0, 1) := by decide +kernel
theorem dX4_readByte_84 : decode cX4_readByte 84 = .ok (.dup, 1) := by decide +kernel
theorem dX4_readByte_85 : decode cX4_readByte 85 = .ok (.getfield 113, 3) := by decide +kernel
theorem dX4_readByte_88 : decode cX4_readByte 88 = .ok (.iconst 1, 1) := by decide +kernel
theorem dX4_readByte_89 : decode cX4_readByte 89 = .ok (.iadd, 1) := by decide +kernel
theorem dX4_readByte_90 : decode cX4_readByte 90 = .ok (.putfield 113, 3) := by decide +kernel
theorem dX4_readByte_93 : decode cX4_readByte 93 = .ok (.goto 24, 3) := by decide +kernel
theorem dX4_readByte_96 : decode cX4_readByte 96 = .ok (.aload_n 0, 1) := by decide +kernel
theorem dX4_readByte_97 : decode cX4_readByte 97 = .ok (.iconst 3, 1) := by decide +kernel
theorem dX4_readByte_98 : decode cX4_readByte 98 = .ok (.iload_n 1, 1) := by decide +kernel
theorem dX4_readByte_99 : decode cX4_readByte 99 = .ok (.invokevirtual 109, 3) := by decide +kernel
theorem dX4_readByte_102 : decode cX4_readByte 102 = .ok (.goto 15, 3) := by decide +kernel
theorem dX4_readByte_105 : decode cX4_readByte 105 = .ok (.iload_n 2, 1) := by decide +kernel
theorem dX4_readByte_106 : decode cX4_readByte 106 = .ok (.bipush 32, 2) := by decide +kernel
theorem dX4_readByte_108 : decode cX4_readByte 108 = .ok (.if_icmp .eq 9, 3) := by decide +kernel
theorem dX4_readByte_111 : decode cX4_readByte 111 = .ok (.aload_n 0, 1) := by decide +kernel
theorem dX4_readByte_112 : decode cX4_readByte 112 = .ok (.iconst 1, 1) := by decide +kernel
theorem dX4_readByte_113 : decode cX4_readByte 113 = .ok (.iload_n 1, 1) := by decide +kernel
theorem dX4_readByte_114 : decode cX4_readByte 114 = .ok (.invokevirtual 109, 3) := by decide +kernel
theorem dX4_readByte_117 : decode cX4_readByte 117 = .ok (.return_, 1) := by decide +kernel
set_option maxRecDepth 20000 in
theorem ggX4_readText_X4_fails : GoodIn wsX4_readText wsX4_fails := goodIn_r _ [9, 4, 10, 33, 34, 35, 36, 37, 38, 39, 40, 41, 42, 43, 44, 45, 46, 47, 48, 49, 50, 51] (by decide +kernel) (by decide +kernel)
set_option maxRecDepth 20000 in
theorem gX4_readText_X4_fails : GoodIn wsX4_readText (wsV RX4 109 RX4 yX4_fails wsX4_fails) := goodIn_app (goodIn_of _ (by decide +kernel)) ggX4_readText_X4_fails
set_option maxRecDepth 20000 in
theorem ggX4_readText_X4_readByte : GoodIn wsX4_readText wsX4_readByte := goodIn_r _ [14, 15, 16, 1, 2, 17, 18, 8, 19, 20, 21, 22, 23, 24, 25, 26, 27, 28, 5, 6, 7, 9, 4, 10, 29, 30, 31, 32, 33, 34, 35, 36, 37, 38, 39, 40, 41, 42, 43, 44, 45, 46, 47, 48, 49, 50, 51] (by decide +kernel) (by decide +kernel)
set_option maxRecDepth 20000 in
theorem gX4_readText_X4_readByte : GoodIn wsX4_readText (wsV RX4 129 RX4 yX4_readByte wsX4_readByte) := goodIn_app (goodIn_of _ (by decide +kernel)) ggX4_readText_X4_readByte
set_option maxRecDepth 20000 in
theorem ggX4_readText_X4_hasWord : GoodIn wsX4_readText wsX4_hasWord := goodIn_r _ [32, 1, 28, 2, 33, 34, 35, 36, 37, 38, 39, 40, 41, 42, 43, 44, 45, 46, 47, 48, 49, 50, 51] (by decide +kernel) (by decide +kernel)
set_option maxRecDepth 20000 in
theorem gX4_readText_X4_hasWord : GoodIn wsX4_readText (wsV RX4 122 RX4 yX4_hasWord wsX4_hasWord) := goodIn_app (goodIn_of _ (by decide +kernel)) ggX4_readText_X4_hasWord
theorem dX4_readText_0 : decode cX4_readText 0 = .ok (.aload_n 0, 1) := by decide +kernel
theorem dX4_readText_1 : decode cX4_readText 1 = .ok (.iconst 0, 1) := by decide +kernel
theorem dX4_readText_2 : decode cX4_readText 2 = .ok (.putfield 106, 3) := by decide +kernel
theorem dX4_readText_5 : decode cX4_readText 5 = .ok (.aload_n 0, 1) := by decide +kernel
theorem dX4_readText_6 : decode cX4_readText 6 = .ok (.iconst 0, 1) := by decide +kernel
theorem dX4_readText_7 : decode cX4_readText 7 = .ok (.putfield 113, 3) := by decide +kernel
theorem dX4_readText_10 : decode cX4_readText 10 = .ok (.aload_n 0, 1) := by decide +kernel
theorem dX4_readText_11 : decode cX4_readText 11 = .ok (.bipush (-9), 2) := by decide +kernel
theorem dX4_readText_13 : decode cX4_readText 13 = .ok (.bipush (-9), 2) := by decide +kernel
theorem dX4_readText_15 : decode cX4_readText 15 = .ok (.invokevirtual 109, 3) := by decide +kernel
theorem dX4_readText_18 : decode cX4_readText 18 = .ok (.iconst 0, 1) := by decide +kernel
theorem dX4_readText_19 : decode cX4_readText 19 = .ok (.istore_n 1, 1) := by decide +kernel
theorem dX4_readText_20 : decode cX4_readText 20 = .ok (.iload_n 1, 1) := by decide +kernel
theorem dX4_readText_21 : decode cX4_readText 21 = .ok (.aload_n 0, 1) := by decide +kernel
theorem dX4_readText_22 : decode cX4_readText 22 = .ok (.getfield 126, 3) := by decide +kernel
theorem dX4_readText_25 : decode cX4_readText 25 = .ok (.if_icmp .ge 23, 3) := by decide +kernel
theorem dX4_readText_28 : decode cX4_readText 28 = .ok (.aload_n 0, 1) := by decide +kernel
theorem dX4_readText_29 : decode cX4_readText 29 = .ok (.getfield 100, 3) := by decide +kernel
theorem dX4_readText_32 : decode cX4_readText 32 = .ok (.bipush (-9), 2) := by decide +kernel
theorem dX4_readText_34 : decode cX4_readText 34 = .ok (.if_icmp .ne 14, 3) := by decide +kernel
theorem dX4_readText_37 : decode cX4_readText 37 = .ok (.aload_n 0, 1) := by decide +kernel
theorem dX4_readText_38 : decode cX4_readText 38 = .ok (.iload_n 1, 1) := by decide +kernel
theorem dX4_readText_39 : decode cX4_readText 39 = .ok (.invokevirtual 129, 3) := by decide +kernel
theorem dX4_readText_42 : decode cX4_readText 42 = .ok (.iinc 1 1, 3) := by decide +kernel
theorem dX4_readText_45 : decode cX4_readText 45 = .ok (.goto (-25), 3) := by decide +kernel
theorem dX4_readText_48 : decode cX4_readText 48 = .ok (.aload_n 0, 1) := by decide +kernel
theorem dX4_readText_49 : decode cX4_readText 49 = .ok (.getfield 100, 3) := by decide +kernel
theorem dX4_readText_52 : decode cX4_readText 52 = .ok (.bipush (-9), 2) := by decide +kernel
theorem dX4_readText_54 : decode cX4_readText 54 = .ok (.if_icmp .ne 19, 3) := by decide +kernel
theorem dX4_readText_57 : decode cX4_readText 57 = .ok (.aload_n 0, 1) := by decide +kernel
theorem dX4_readText_58 : decode cX4_readText 58 = .ok (.invokevirtual 122, 3) := by decide +kernel
theorem dX4_readText_61 : decode cX4_readText 61 = .ok (.ifCond .ne 12, 3) := by decide +kernel
theorem dX4_readText_64 : decode cX4_readText 64 = .ok (.aload_n 0, 1) := by decide +kernel
theorem dX4_readText_65 : decode cX4_readText 65 = .ok (.iconst 5, 1) := by decide +kernel
theorem dX4_readText_66 : decode cX4_readText 66 = .ok (.aload_n 0, 1) := by decide +kernel
theorem dX4_readText_67 : decode cX4_readText 67 = .ok (.getfield 126, 3) := by decide +kernel
theorem dX4_readText_70 : decode cX4_readText 70 = .ok (.invokevirtual 109, 3) := by decide +kernel
theorem dX4_readText_73 : decode cX4_readText 73 = .ok (.return_, 1) := by decide +kernel
set_option maxRecDepth 20000 in
theorem ggX4_load_X4_readText : GoodIn wsX4_load wsX4_readText := goodIn_r _ [14, 6, 15, 16, 1, 17, 18, 19, 13, 20, 3, 21, 22, 23, 24, 25, 8, 26, 27, 28, 29, 30, 31, 32, 33, 34, 35, 7, 9, 36, 37, 38, 39, 52, 53, 54, 55, 56, 57, 58, 59, 60, 61, 62, 63, 64, 65, 66, 67, 68, 69, 70] (by decide +kernel) (by decide +kernel)
set_option maxRecDepth 20000 in
theorem gX4_load_X4_readText : GoodIn wsX4_load (wsV RX4 132 RX4 yX4_readText wsX4_readText) := goodIn_app (goodIn_of _ (by decide +kernel)) ggX4_load_X4_readText
set_option maxRecDepth 20000 in
theorem ggX4_load_X4_remember : GoodIn wsX4_load wsX4_remember := goodIn_r _ [43, 44, 45, 5, 52, 53, 54, 55, 56, 57, 58, 59, 60, 61, 62, 63, 64, 65, 66, 67, 68, 69, 70] (by decide +kernel) (by decide +kernel)
set_option maxRecDepth 20000 in
theorem gX4_load_X4_remember : GoodIn wsX4_load (wsV RX4 135 RX4 yX4_remember wsX4_remember) := goodIn_app (goodIn_of _ (by decide +kernel)) ggX4_load_X4_remember
set_option maxRecDepth 20000 in
theorem ggX4_load_X4_layRows : GoodIn wsX4_load wsX4_layRows := goodIn_r _ [49, 50, 5, 51, 52, 53, 54, 55, 56, 57, 58, 59, 60, 61, 62, 63, 64, 65, 66, 67, 68, 69, 70] (by decide +kernel) (by decide +kernel)
set_option maxRecDepth 20000 in
theorem gX4_load_X4_layRows : GoodIn wsX4_load (wsV RX4 44 RX4 yX4_layRows wsX4_layRows) := goodIn_app (goodIn_of _ (by decide +kernel)) ggX4_load_X4_layRows
theorem dX4_load_0 : decode cX4_load 0 = .ok (.aload_n 0, 1) := by decide +kernel
theorem dX4_load_1 : decode cX4_load 1 = .ok (.invokevirtual 132, 3) := by decide +kernel
theorem dX4_load_4 : decode cX4_load 4 = .ok (.aload_n 0, 1) := by decide +kernel
theorem dX4_load_5 : decode cX4_load 5 = .ok (.getfield 100, 3) := by decide +kernel
theorem dX4_load_8 : decode cX4_load 8 = .ok (.bipush (-9), 2) := by decide +kernel
theorem dX4_load_10 : decode cX4_load 10 = .ok (.if_icmp .eq 22, 3) := by decide +kernel
theorem dX4_load_13 : decode cX4_load 13 = .ok (.aload_n 0, 1) := by decide +kernel
theorem dX4_load_14 : decode cX4_load 14 = .ok (.aload_n 0, 1) := by decide +kernel
theorem dX4_load_15 : decode cX4_load 15 = .ok (.getfield 100, 3) := by decide +kernel
theorem dX4_load_18 : decode cX4_load 18 = .ok (.putfield 22, 3) := by decide +kernel
theorem dX4_load_21 : decode cX4_load 21 = .ok (.aload_n 0, 1) := by decide +kernel
theorem dX4_load_22 : decode cX4_load 22 = .ok (.aload_n 0, 1) := by decide +kernel
theorem dX4_load_23 : decode cX4_load 23 = .ok (.getfield 103, 3) := by decide +kernel
theorem dX4_load_26 : decode cX4_load 26 = .ok (.putfield 26, 3) := by decide +kernel
theorem dX4_load_29 : decode cX4_load 29 = .ok (.bipush (-2), 2) := by decide +kernel
theorem dX4_load_31 : decode cX4_load 31 = .ok (.ireturn, 1) := by decide +kernel
theorem dX4_load_32 : decode cX4_load 32 = .ok (.aload_n 0, 1) := by decide +kernel
theorem dX4_load_33 : decode cX4_load 33 = .ok (.invokevirtual 135, 3) := by decide +kernel
theorem dX4_load_36 : decode cX4_load 36 = .ok (.bipush 10, 2) := by decide +kernel
theorem dX4_load_38 : decode cX4_load 38 = .ok (.istore_n 1, 1) := by decide +kernel
theorem dX4_load_39 : decode cX4_load 39 = .ok (.iload_n 1, 1) := by decide +kernel
theorem dX4_load_40 : decode cX4_load 40 = .ok (.sipush 510, 3) := by decide +kernel
theorem dX4_load_43 : decode cX4_load 43 = .ok (.if_icmp .ge 16, 3) := by decide +kernel
theorem dX4_load_46 : decode cX4_load 46 = .ok (.aload_n 0, 1) := by decide +kernel
theorem dX4_load_47 : decode cX4_load 47 = .ok (.getfield 7, 3) := by decide +kernel
theorem dX4_load_50 : decode cX4_load 50 = .ok (.iload_n 1, 1) := by decide +kernel
theorem dX4_load_51 : decode cX4_load 51 = .ok (.iconst 0, 1) := by decide +kernel
theorem dX4_load_52 : decode cX4_load 52 = .ok (.iastore, 1) := by decide +kernel
theorem dX4_load_53 : decode cX4_load 53 = .ok (.iinc 1 1, 3) := by decide +kernel
theorem dX4_load_56 : decode cX4_load 56 = .ok (.goto (-17), 3) := by decide +kernel
theorem dX4_load_59 : decode cX4_load 59 = .ok (.aload_n 0, 1) := by decide +kernel
theorem dX4_load_60 : decode cX4_load 60 = .ok (.getfield 7, 3) := by decide +kernel
theorem dX4_load_63 : decode cX4_load 63 = .ok (.bipush 9, 2) := by decide +kernel
theorem dX4_load_65 : decode cX4_load 65 = .ok (.aload_n 0, 1) := by decide +kernel
theorem dX4_load_66 : decode cX4_load 66 = .ok (.getfield 106, 3) := by decide +kernel
theorem dX4_load_69 : decode cX4_load 69 = .ok (.iastore, 1) := by decide +kernel
theorem dX4_load_70 : decode cX4_load 70 = .ok (.iconst 0, 1) := by decide +kernel
theorem dX4_load_71 : decode cX4_load 71 = .ok (.istore_n 1, 1) := by decide +kernel
theorem dX4_load_72 : decode cX4_load 72 = .ok (.iload_n 1, 1) := by decide +kernel
theorem dX4_load_73 : decode cX4_load 73 = .ok (.aload_n 0, 1) := by decide +kernel
theorem dX4_load_74 : decode cX4_load 74 = .ok (.getfield 106, 3) := by decide +kernel
theorem dX4_load_77 : decode cX4_load 77 = .ok (.if_icmp .ge 57, 3) := by decide +kernel
theorem dX4_load_80 : decode cX4_load 80 = .ok (.aload_n 0, 1) := by decide +kernel
theorem dX4_load_81 : decode cX4_load 81 = .ok (.getfield 7, 3) := by decide +kernel
theorem dX4_load_84 : decode cX4_load 84 = .ok (.sipush 150, 3) := by decide +kernel
theorem dX4_load_87 : decode cX4_load 87 = .ok (.iload_n 1, 1) := by decide +kernel
theorem dX4_load_88 : decode cX4_load 88 = .ok (.iadd, 1) := by decide +kernel
theorem dX4_load_89 : decode cX4_load 89 = .ok (.aload_n 0, 1) := by decide +kernel
theorem dX4_load_90 : decode cX4_load 90 = .ok (.getfield 32, 3) := by decide +kernel
theorem dX4_load_93 : decode cX4_load 93 = .ok (.iload_n 1, 1) := by decide +kernel
theorem dX4_load_94 : decode cX4_load 94 = .ok (.iaload, 1) := by decide +kernel
theorem dX4_load_95 : decode cX4_load 95 = .ok (.iastore, 1) := by decide +kernel
theorem dX4_load_96 : decode cX4_load 96 = .ok (.aload_n 0, 1) := by decide +kernel
theorem dX4_load_97 : decode cX4_load 97 = .ok (.getfield 7, 3) := by decide +kernel
theorem dX4_load_100 : decode cX4_load 100 = .ok (.sipush 270, 3) := by decide +kernel
theorem dX4_load_103 : decode cX4_load 103 = .ok (.iload_n 1, 1) := by decide +kernel
theorem dX4_load_104 : decode cX4_load 104 = .ok (.iadd, 1) := by decide +kernel
theorem dX4_load_105 : decode cX4_load 105 = .ok (.aload_n 0, 1) := by decide +kernel
theorem dX4_load_106 : decode cX4_load 106 = .ok (.getfield 35, 3) := by decide +kernel
theorem dX4_load_109 : decode cX4_load 109 = .ok (.iload_n 1, 1) := by decide +kernel
theorem dX4_load_110 : decode cX4_load 110 = .ok (.iaload, 1) := by decide +kernel
theorem dX4_load_111 : decode cX4_load 111 = .ok (.iastore, 1) := by decide +kernel
theorem dX4_load_112 : decode cX4_load 112 = .ok (.aload_n 0, 1) := by decide +kernel
theorem dX4_load_113 : decode cX4_load 113 = .ok (.getfield 7, 3) := by decide +kernel
theorem dX4_load_116 : decode cX4_load 116 = .ok (.sipush 390, 3) := by decide +kernel
theorem dX4_load_119 : decode cX4_load 119 = .ok (.iload_n 1, 1) := by decide +kernel
theorem dX4_load_120 : decode cX4_load 120 = .ok (.iadd, 1) := by decide +kernel
theorem dX4_load_121 : decode cX4_load 121 = .ok (.aload_n 0, 1) := by decide +kernel
theorem dX4_load_122 : decode cX4_load 122 = .ok (.getfield 38, 3) := by decide +kernel
theorem dX4_load_125 : decode cX4_load 125 = .ok (.iload_n 1, 1) := by decide +kernel
theorem dX4_load_126 : decode cX4_load 126 = .ok (.iaload, 1) := by decide +kernel
theorem dX4_load_127 : decode cX4_load 127 = .ok (.iastore, 1) := by decide +kernel
theorem dX4_load_128 : decode cX4_load 128 = .ok (.iinc 1 1, 3) := by decide +kernel
theorem dX4_load_131 : decode cX4_load 131 = .ok (.goto (-59), 3) := by decide +kernel
theorem dX4_load_134 : decode cX4_load 134 = .ok (.aload_n 0, 1) := by decide +kernel
theorem dX4_load_135 : decode cX4_load 135 = .ok (.invokevirtual 44, 3) := by decide +kernel
theorem dX4_load_138 : decode cX4_load 138 = .ok (.aload_n 0, 1) := by decide +kernel
theorem dX4_load_139 : decode cX4_load 139 = .ok (.getfield 106, 3) := by decide +kernel
theorem dX4_load_142 : decode cX4_load 142 = .ok (.ireturn, 1) := by decide +kernel
set_option maxRecDepth 20000 in
theorem ggX4_write_X4_isIn : GoodIn wsX4_write wsX4_isIn := goodIn_r _ [6] (by decide +kernel) (by decide +kernel)
set_option maxRecDepth 20000 in
theorem gX4_write_X4_isIn : GoodIn wsX4_write (va_wsS RX4 57 yX4_isIn wsX4_isIn) := goodIn_app (goodIn_of _ (by decide +kernel)) ggX4_write_X4_isIn
theorem dX4_write_0 : decode cX4_write 0 = .ok (.iload_n 1, 1) := by decide +kernel
theorem dX4_write_1 : decode cX4_write 1 = .ok (.bipush 32, 2) := by decide +kernel
theorem dX4_write_3 : decode cX4_write 3 = .ok (.bipush 126, 2) := by decide +kernel
theorem dX4_write_5 : decode cX4_write 5 = .ok (.invokestatic 57, 3) := by decide +kernel
theorem dX4_write_8 : decode cX4_write 8 = .ok (.ifCond .ne 5, 3) := by decide +kernel
theorem dX4_write_11 : decode cX4_write 11 = .ok (.iconst (-1), 1) := by decide +kernel
theorem dX4_write_12 : decode cX4_write 12 = .ok (.ireturn, 1) := by decide +kernel
theorem dX4_write_13 : decode cX4_write 13 = .ok (.aload_n 0, 1) := by decide +kernel
theorem dX4_write_14 : decode cX4_write 14 = .ok (.getfield 126, 3) := by decide +kernel
theorem dX4_write_17 : decode cX4_write 17 = .ok (.sipush 140, 3) := by decide +kernel
theorem dX4_write_20 : decode cX4_write 20 = .ok (.if_icmp .ne 6, 3) := by decide +kernel
theorem dX4_write_23 : decode cX4_write 23 = .ok (.bipush (-3), 2) := by decide +kernel
theorem dX4_write_25 : decode cX4_write 25 = .ok (.ireturn, 1) := by decide +kernel
theorem dX4_write_26 : decode cX4_write 26 = .ok (.aload_n 0, 1) := by decide +kernel
theorem dX4_write_27 : decode cX4_write 27 = .ok (.getfield 19, 3) := by decide +kernel
theorem dX4_write_30 : decode cX4_write 30 = .ok (.aload_n 0, 1) := by decide +kernel
theorem dX4_write_31 : decode cX4_write 31 = .ok (.getfield 126, 3) := by decide +kernel
theorem dX4_write_34 : decode cX4_write 34 = .ok (.iload_n 1, 1) := by decide +kernel
theorem dX4_write_35 : decode cX4_write 35 = .ok (.iastore, 1) := by decide +kernel
theorem dX4_write_36 : decode cX4_write 36 = .ok (.aload_n 0, 1) := by decide +kernel
theorem dX4_write_37 : decode cX4_write 37 = .ok (.dup, 1) := by decide +kernel
theorem dX4_write_38 : decode cX4_write 38 = .ok (.getfield 126, 3) := by decide +kernel
theorem dX4_write_41 : decode cX4_write 41 = .ok (.iconst 1, 1) := by decide +kernel
theorem dX4_write_42 : decode cX4_write 42 = .ok (.iadd, 1) := by decide +kernel
theorem dX4_write_43 : decode cX4_write 43 = .ok (.putfield 126, 3) := by decide +kernel
theorem dX4_write_46 : decode cX4_write 46 = .ok (.aload_n 0, 1) := by decide +kernel
theorem dX4_write_47 : decode cX4_write 47 = .ok (.getfield 126, 3) := by decide +kernel
theorem dX4_write_50 : decode cX4_write 50 = .ok (.ireturn, 1) := by decide +kernel
theorem dX4_wipe_0 : decode cX4_wipe 0 = .ok (.aload_n 0, 1) := by decide +kernel
theorem dX4_wipe_1 : decode cX4_wipe 1 = .ok (.getfield 126, 3) := by decide +kernel
theorem dX4_wipe_4 : decode cX4_wipe 4 = .ok (.istore_n 1, 1) := by decide +kernel
theorem dX4_wipe_5 : decode cX4_wipe 5 = .ok (.aload_n 0, 1) := by decide +kernel
theorem dX4_wipe_6 : decode cX4_wipe 6 = .ok (.iconst 0, 1) := by decide +kernel
theorem dX4_wipe_7 : decode cX4_wipe 7 = .ok (.putfield 126, 3) := by decide +kernel
theorem dX4_wipe_10 : decode cX4_wipe 10 = .ok (.iload_n 1, 1) := by decide +kernel
theorem dX4_wipe_11 : decode cX4_wipe 11 = .ok (.ireturn, 1) := by decide +kernel
theorem dX4_fault_0 : decode cX4_fault 0 = .ok (.iload_n 1, 1) := by decide +kernel
theorem dX4_fault_1 : decode cX4_fault 1 = .ok (.ifCond .ne 10, 3) := by decide +kernel
theorem dX4_fault_4 : decode cX4_fault 4 = .ok (.aload_n 0, 1) := by decide +kernel
theorem dX4_fault_5 : decode cX4_fault 5 = .ok (.getfield 22, 3) := by decide +kernel
theorem dX4_fault_8 : decode cX4_fault 8 = .ok (.goto 16, 3) := by decide +kernel
theorem dX4_fault_11 : decode cX4_fault 11 = .ok (.iload_n 1, 1) := by decide +kernel
theorem dX4_fault_12 : decode cX4_fault 12 = .ok (.iconst 1, 1) := by decide +kernel
theorem dX4_fault_13 : decode cX4_fault 13 = .ok (.if_icmp .ne 10, 3) := by decide +kernel
theorem dX4_fault_16 : decode cX4_fault 16 = .ok (.aload_n 0, 1) := by decide +kernel
theorem dX4_fault_17 : decode cX4_fault 17 = .ok (.getfield 26, 3) := by decide +kernel
theorem dX4_fault_20 : decode cX4_fault 20 = .ok (.goto 4, 3) := by decide +kernel
theorem dX4_fault_23 : decode cX4_fault 23 = .ok (.iconst (-1), 1) := by decide +kernel
theorem dX4_fault_24 : decode cX4_fault 24 = .ok (.ireturn, 1) := by decide +kernel
set_option maxRecDepth 20000 in
theorem ggX4_isOf_X4_isIn : GoodIn wsX4_isOf wsX4_isIn := goodIn_r _ [4] (by decide +kernel) (by decide +kernel)
set_option maxRecDepth 20000 in
theorem gX4_isOf_X4_isIn : GoodIn wsX4_isOf (va_wsS RX4 57 yX4_isIn wsX4_isIn) := goodIn_app (goodIn_of _ (by decide +kernel)) ggX4_isOf_X4_isIn
theorem dX4_isOf_0 : decode cX4_isOf 0 = .ok (.iload_n 0, 1) := by decide +kernel
theorem dX4_isOf_1 : decode cX4_isOf 1 = .ok (.tableswitch 102 0 7 #[47, 55, 63, 71, 79, 87, 79, 94], 47) := by decide +kernel
theorem dX4_isOf_48 : decode cX4_isOf 48 = .ok (.iload_n 1, 1) := by decide +kernel
theorem dX4_isOf_49 : decode cX4_isOf 49 = .ok (.iconst 1, 1) := by decide +kernel
theorem dX4_isOf_50 : decode cX4_isOf 50 = .ok (.bipush 12, 2) := by decide +kernel
theorem dX4_isOf_52 : decode cX4_isOf 52 = .ok (.invokestatic 57, 3) := by decide +kernel
theorem dX4_isOf_55 : decode cX4_isOf 55 = .ok (.ireturn, 1) := by decide +kernel
theorem dX4_isOf_56 : decode cX4_isOf 56 = .ok (.iload_n 1, 1) := by decide +kernel
theorem dX4_isOf_57 : decode cX4_isOf 57 = .ok (.iconst 1, 1) := by decide +kernel
theorem dX4_isOf_58 : decode cX4_isOf 58 = .ok (.bipush 8, 2) := by decide +kernel
theorem dX4_isOf_60 : decode cX4_isOf 60 = .ok (.invokestatic 57, 3) := by decide +kernel
theorem dX4_isOf_63 : decode cX4_isOf 63 = .ok (.ireturn, 1) := by decide +kernel
theorem dX4_isOf_64 : decode cX4_isOf 64 = .ok (.iload_n 1, 1) := by decide +kernel
theorem dX4_isOf_65 : decode cX4_isOf 65 = .ok (.iconst 0, 1) := by decide +kernel
theorem dX4_isOf_66 : decode cX4_isOf 66 = .ok (.bipush 7, 2) := by decide +kernel
theorem dX4_isOf_68 : decode cX4_isOf 68 = .ok (.invokestatic 57, 3) := by decide +kernel
theorem dX4_isOf_71 : decode cX4_isOf 71 = .ok (.ireturn, 1) := by decide +kernel
theorem dX4_isOf_72 : decode cX4_isOf 72 = .ok (.iload_n 1, 1) := by decide +kernel
theorem dX4_isOf_73 : decode cX4_isOf 73 = .ok (.iconst 0, 1) := by decide +kernel
theorem dX4_isOf_74 : decode cX4_isOf 74 = .ok (.bipush 30, 2) := by decide +kernel
theorem dX4_isOf_76 : decode cX4_isOf 76 = .ok (.invokestatic 57, 3) := by decide +kernel
theorem dX4_isOf_79 : decode cX4_isOf 79 = .ok (.ireturn, 1) := by decide +kernel
theorem dX4_isOf_80 : decode cX4_isOf 80 = .ok (.iload_n 1, 1) := by decide +kernel
theorem dX4_isOf_81 : decode cX4_isOf 81 = .ok (.iconst 1, 1) := by decide +kernel
theorem dX4_isOf_82 : decode cX4_isOf 82 = .ok (.bipush 60, 2) := by decide +kernel
theorem dX4_isOf_84 : decode cX4_isOf 84 = .ok (.invokestatic 57, 3) := by decide +kernel
theorem dX4_isOf_87 : decode cX4_isOf 87 = .ok (.ireturn, 1) := by decide +kernel
theorem dX4_isOf_88 : decode cX4_isOf 88 = .ok (.iload_n 1, 1) := by decide +kernel
theorem dX4_isOf_89 : decode cX4_isOf 89 = .ok (.iconst 1, 1) := by decide +kernel
theorem dX4_isOf_90 : decode cX4_isOf 90 = .ok (.iconst 4, 1) := by decide +kernel
theorem dX4_isOf_91 : decode cX4_isOf 91 = .ok (.invokestatic 57, 3) := by decide +kernel
theorem dX4_isOf_94 : decode cX4_isOf 94 = .ok (.ireturn, 1) := by decide +kernel
theorem dX4_isOf_95 : decode cX4_isOf 95 = .ok (.iload_n 1, 1) := by decide +kernel
theorem dX4_isOf_96 : decode cX4_isOf 96 = .ok (.iconst 1, 1) := by decide +kernel
theorem dX4_isOf_97 : decode cX4_isOf 97 = .ok (.bipush 100, 2) := by decide +kernel
theorem dX4_isOf_99 : decode cX4_isOf 99 = .ok (.invokestatic 57, 3) := by decide +kernel
theorem dX4_isOf_102 : decode cX4_isOf 102 = .ok (.ireturn, 1) := by decide +kernel
theorem dX4_isOf_103 : decode cX4_isOf 103 = .ok (.iload_n 0, 1) := by decide +kernel
theorem dX4_isOf_104 : decode cX4_isOf 104 = .ok (.bipush 8, 2) := by decide +kernel
theorem dX4_isOf_106 : decode cX4_isOf 106 = .ok (.if_icmp .ne 17, 3) := by decide +kernel
theorem dX4_isOf_109 : decode cX4_isOf 109 = .ok (.iload_n 1, 1) := by decide +kernel
theorem dX4_isOf_110 : decode cX4_isOf 110 = .ok (.iconst 0, 1) := by decide +kernel
theorem dX4_isOf_111 : decode cX4_isOf 111 = .ok (.bipush 10, 2) := by decide +kernel
theorem dX4_isOf_113 : decode cX4_isOf 113 = .ok (.invokestatic 57, 3) := by decide +kernel
theorem dX4_isOf_116 : decode cX4_isOf 116 = .ok (.ifCond .eq 7, 3) := by decide +kernel
theorem dX4_isOf_119 : decode cX4_isOf 119 = .ok (.iconst 1, 1) := by decide +kernel
theorem dX4_isOf_120 : decode cX4_isOf 120 = .ok (.goto 4, 3) := by decide +kernel
theorem dX4_isOf_123 : decode cX4_isOf 123 = .ok (.iconst 0, 1) := by decide +kernel
theorem dX4_isOf_124 : decode cX4_isOf 124 = .ok (.ireturn, 1) := by decide +kernel
set_option maxRecDepth 20000 in
theorem ggX4_set_X4_isOf : GoodIn wsX4_set wsX4_isOf := goodIn_r _ [5, 6, 7, 4, 8] (by decide +kernel) (by decide +kernel)
set_option maxRecDepth 20000 in
theorem gX4_set_X4_isOf : GoodIn wsX4_set (va_wsS RX4 138 yX4_isOf wsX4_isOf) := goodIn_app (goodIn_of _ (by decide +kernel)) ggX4_set_X4_isOf
set_option maxRecDepth 20000 in
theorem ggX4_set_X4_remember : GoodIn wsX4_set wsX4_remember := goodIn_r _ [12, 13, 14, 1, 29, 30, 31, 32, 33, 34, 35, 36, 37, 38, 39, 40, 41, 42, 43, 44, 45, 46, 47] (by decide +kernel) (by decide +kernel)
set_option maxRecDepth 20000 in
theorem gX4_set_X4_remember : GoodIn wsX4_set (wsV RX4 135 RX4 yX4_remember wsX4_remember) := goodIn_app (goodIn_of _ (by decide +kernel)) ggX4_set_X4_remember
set_option maxRecDepth 20000 in
theorem ggX4_set_X4_layRows : GoodIn wsX4_set wsX4_layRows := goodIn_r _ [18, 19, 1, 20, 29, 30, 31, 32, 33, 34, 35, 36, 37, 38, 39, 40, 41, 42, 43, 44, 45, 46, 47] (by decide +kernel) (by decide +kernel)
set_option maxRecDepth 20000 in
theorem gX4_set_X4_layRows : GoodIn wsX4_set (wsV RX4 44 RX4 yX4_layRows wsX4_layRows) := goodIn_app (goodIn_of _ (by decide +kernel)) ggX4_set_X4_layRows
set_option maxRecDepth 20000 in
theorem ggX4_set_X4_limited : GoodIn wsX4_set wsX4_limited := goodIn_r _ [24, 25, 26, 27, 4, 28, 19, 1, 29, 30, 31, 32, 33, 34, 35, 36, 37, 38, 39, 40, 41, 42, 43, 44, 45, 46, 47] (by decide +kernel) (by decide +kernel)
set_option maxRecDepth 20000 in
theorem gX4_set_X4_limited : GoodIn wsX4_set (wsV RX4 91 RX4 yX4_limited wsX4_limited) := goodIn_app (goodIn_of _ (by decide +kernel)) ggX4_set_X4_limited
theorem dX4_set_0 : decode cX4_set 0 = .ok (.iload_n 1, 1) := by decide +kernel
theorem dX4_set_1 : decode cX4_set 1 = .ok (.iload_n 2, 1) := by decide +kernel
theorem dX4_set_2 : decode cX4_set 2 = .ok (.invokestatic 138, 3) := by decide +kernel
theorem dX4_set_5 : decode cX4_set 5 = .ok (.ifCond .ne 5, 3) := by decide +kernel
theorem dX4_set_8 : decode cX4_set 8 = .ok (.iconst (-1), 1) := by decide +kernel
theorem dX4_set_9 : decode cX4_set 9 = .ok (.ireturn, 1) := by decide +kernel
theorem dX4_set_10 : decode cX4_set 10 = .ok (.aload_n 0, 1) := by decide +kernel
theorem dX4_set_11 : decode cX4_set 11 = .ok (.invokevirtual 135, 3) := by decide +kernel
theorem dX4_set_14 : decode cX4_set 14 = .ok (.aload_n 0, 1) := by decide +kernel
theorem dX4_set_15 : decode cX4_set 15 = .ok (.getfield 7, 3) := by decide +kernel
theorem dX4_set_18 : decode cX4_set 18 = .ok (.iload_n 1, 1) := by decide +kernel
theorem dX4_set_19 : decode cX4_set 19 = .ok (.iaload, 1) := by decide +kernel
theorem dX4_set_20 : decode cX4_set 20 = .ok (.istore_n 3, 1) := by decide +kernel
theorem dX4_set_21 : decode cX4_set 21 = .ok (.aload_n 0, 1) := by decide +kernel
theorem dX4_set_22 : decode cX4_set 22 = .ok (.getfield 7, 3) := by decide +kernel
theorem dX4_set_25 : decode cX4_set 25 = .ok (.iload_n 1, 1) := by decide +kernel
theorem dX4_set_26 : decode cX4_set 26 = .ok (.iload_n 2, 1) := by decide +kernel
theorem dX4_set_27 : decode cX4_set 27 = .ok (.iastore, 1) := by decide +kernel
theorem dX4_set_28 : decode cX4_set 28 = .ok (.aload_n 0, 1) := by decide +kernel
theorem dX4_set_29 : decode cX4_set 29 = .ok (.invokevirtual 44, 3) := by decide +kernel
theorem dX4_set_32 : decode cX4_set 32 = .ok (.aload_n 0, 1) := by decide +kernel
theorem dX4_set_33 : decode cX4_set 33 = .ok (.getfield 7, 3) := by decide +kernel
theorem dX4_set_36 : decode cX4_set 36 = .ok (.bipush 14, 2) := by decide +kernel
theorem dX4_set_38 : decode cX4_set 38 = .ok (.aload_n 0, 1) := by decide +kernel
theorem dX4_set_39 : decode cX4_set 39 = .ok (.aload_n 0, 1) := by decide +kernel
theorem dX4_set_40 : decode cX4_set 40 = .ok (.getfield 7, 3) := by decide +kernel
theorem dX4_set_43 : decode cX4_set 43 = .ok (.bipush 14, 2) := by decide +kernel
theorem dX4_set_45 : decode cX4_set 45 = .ok (.iaload, 1) := by decide +kernel
theorem dX4_set_46 : decode cX4_set 46 = .ok (.invokevirtual 91, 3) := by decide +kernel
theorem dX4_set_49 : decode cX4_set 49 = .ok (.iastore, 1) := by decide +kernel
theorem dX4_set_50 : decode cX4_set 50 = .ok (.iload_n 3, 1) := by decide +kernel
theorem dX4_set_51 : decode cX4_set 51 = .ok (.ireturn, 1) := by decide +kernel
set_option maxRecDepth 20000 in
theorem ggX4_hear_X4_isLetter : GoodIn wsX4_hear wsX4_isLetter := goodIn_r _ [4, 5, 6, 3, 7] (by decide +kernel) (by decide +kernel)
set_option maxRecDepth 20000 in
theorem gX4_hear_X4_isLetter : GoodIn wsX4_hear (va_wsS RX4 116 yX4_isLetter wsX4_isLetter) := goodIn_app (goodIn_of _ (by decide +kernel)) ggX4_hear_X4_isLetter
set_option maxRecDepth 20000 in
theorem ggX4_hear_X4_remember : GoodIn wsX4_hear wsX4_remember := goodIn_r _ [11, 12, 13, 14, 47, 48, 49, 50, 51, 52, 53, 54, 55, 56, 57, 58, 59, 60, 61, 62, 63, 64, 65] (by decide +kernel) (by decide +kernel)
set_option maxRecDepth 20000 in
theorem gX4_hear_X4_remember : GoodIn wsX4_hear (wsV RX4 135 RX4 yX4_remember wsX4_remember) := goodIn_app (goodIn_of _ (by decide +kernel)) ggX4_hear_X4_remember
set_option maxRecDepth 20000 in
theorem ggX4_hear_X4_hearNow : GoodIn wsX4_hear wsX4_hearNow := goodIn_r _ [18, 14, 19, 20, 21, 3, 22, 5, 6, 7, 23, 24, 25, 26, 27, 28, 29, 30, 31, 32, 33, 34, 35, 36, 37, 38, 39, 40, 41, 42, 43, 44, 45, 46, 47, 48, 49, 50, 51, 52, 53, 54, 55, 56, 57, 58, 59, 60, 61, 62, 63, 64, 65] (by decide +kernel) (by decide +kernel)
set_option maxRecDepth 20000 in
theorem gX4_hear_X4_hearNow : GoodIn wsX4_hear (wsV RX4 142 RX4 yX4_hearNow wsX4_hearNow) := goodIn_app (goodIn_of _ (by decide +kernel)) ggX4_hear_X4_hearNow
theorem dX4_hear_0 : decode cX4_hear 0 = .ok (.iload_n 1, 1) := by decide +kernel
theorem dX4_hear_1 : decode cX4_hear 1 = .ok (.invokestatic 116, 3) := by decide +kernel
theorem dX4_hear_4 : decode cX4_hear 4 = .ok (.ifCond .ne 5, 3) := by decide +kernel
theorem dX4_hear_7 : decode cX4_hear 7 = .ok (.iconst (-1), 1) := by decide +kernel
theorem dX4_hear_8 : decode cX4_hear 8 = .ok (.ireturn, 1) := by decide +kernel
theorem dX4_hear_9 : decode cX4_hear 9 = .ok (.aload_n 0, 1) := by decide +kernel
theorem dX4_hear_10 : decode cX4_hear 10 = .ok (.invokevirtual 135, 3) := by decide +kernel
theorem dX4_hear_13 : decode cX4_hear 13 = .ok (.aload_n 0, 1) := by decide +kernel
theorem dX4_hear_14 : decode cX4_hear 14 = .ok (.iload_n 1, 1) := by decide +kernel
theorem dX4_hear_15 : decode cX4_hear 15 = .ok (.invokevirtual 142, 3) := by decide +kernel
theorem dX4_hear_18 : decode cX4_hear 18 = .ok (.ireturn, 1) := by decide +kernel
set_option maxRecDepth 20000 in
theorem ggX4_tick_X4_isIn : GoodIn wsX4_tick wsX4_isIn := goodIn_r _ [5] (by decide +kernel) (by decide +kernel)
set_option maxRecDepth 20000 in
theorem gX4_tick_X4_isIn : GoodIn wsX4_tick (va_wsS RX4 57 yX4_isIn wsX4_isIn) := goodIn_app (goodIn_of _ (by decide +kernel)) ggX4_tick_X4_isIn
set_option maxRecDepth 20000 in
theorem ggX4_tick_X4_remember : GoodIn wsX4_tick wsX4_remember := goodIn_r _ [9, 10, 11, 1, 42, 43, 44, 45, 46, 47, 48, 49, 50, 51, 52, 53, 54, 55, 56, 57, 58, 59, 60] (by decide +kernel) (by decide +kernel)
set_option maxRecDepth 20000 in
theorem gX4_tick_X4_remember : GoodIn wsX4_tick (wsV RX4 135 RX4 yX4_remember wsX4_remember) := goodIn_app (goodIn_of _ (by decide +kernel)) ggX4_tick_X4_remember
set_option maxRecDepth 20000 in
theorem ggX4_tick_X4_tickOnce : GoodIn wsX4_tick wsX4_tickOnce := goodIn_r _ [15, 1, 16, 17, 18, 19, 4, 20, 21, 22, 23, 24, 25, 26, 27, 28, 29, 30, 31, 32, 33, 34, 35, 36, 37, 38, 39, 40, 41, 42, 43, 44, 45, 46, 47, 48, 49, 50, 51, 52, 53, 54, 55, 56, 57, 58, 59, 60] (by decide +kernel) (by decide +kernel)
set_option maxRecDepth 20000 in
theorem gX4_tick_X4_tickOnce : GoodIn wsX4_tick (wsV RX4 145 RX4 yX4_tickOnce wsX4_tickOnce) := goodIn_app (goodIn_of _ (by decide +kernel)) ggX4_tick_X4_tickOnce
theorem dX4_tick_0 : decode cX4_tick 0 = .ok (.iload_n 1, 1) := by decide +kernel
theorem dX4_tick_1 : decode cX4_tick 1 = .ok (.iconst 1, 1) := by decide +kernel
theorem dX4_tick_2 : decode cX4_tick 2 = .ok (.bipush 100, 2) := by decide +kernel
theorem dX4_tick_4 : decode cX4_tick 4 = .ok (.invokestatic 57, 3) := by decide +kernel
theorem dX4_tick_7 : decode cX4_tick 7 = .ok (.ifCond .ne 5, 3) := by decide +kernel
theorem dX4_tick_10 : decode cX4_tick 10 = .ok (.iconst (-1), 1) := by decide +kernel
theorem dX4_tick_11 : decode cX4_tick 11 = .ok (.ireturn, 1) := by decide +kernel
theorem dX4_tick_12 : decode cX4_tick 12 = .ok (.aload_n 0, 1) := by decide +kernel
theorem dX4_tick_13 : decode cX4_tick 13 = .ok (.invokevirtual 135, 3) := by decide +kernel
theorem dX4_tick_16 : decode cX4_tick 16 = .ok (.aload_n 0, 1) := by decide +kernel
theorem dX4_tick_17 : decode cX4_tick 17 = .ok (.getfield 7, 3) := by decide +kernel
theorem dX4_tick_20 : decode cX4_tick 20 = .ok (.bipush 18, 2) := by decide +kernel
theorem dX4_tick_22 : decode cX4_tick 22 = .ok (.iaload, 1) := by decide +kernel
theorem dX4_tick_23 : decode cX4_tick 23 = .ok (.istore_n 2, 1) := by decide +kernel
theorem dX4_tick_24 : decode cX4_tick 24 = .ok (.iconst 0, 1) := by decide +kernel
theorem dX4_tick_25 : decode cX4_tick 25 = .ok (.istore_n 3, 1) := by decide +kernel
theorem dX4_tick_26 : decode cX4_tick 26 = .ok (.iload_n 3, 1) := by decide +kernel
theorem dX4_tick_27 : decode cX4_tick 27 = .ok (.iload_n 1, 1) := by decide +kernel
theorem dX4_tick_28 : decode cX4_tick 28 = .ok (.if_icmp .ge 13, 3) := by decide +kernel
theorem dX4_tick_31 : decode cX4_tick 31 = .ok (.aload_n 0, 1) := by decide +kernel
theorem dX4_tick_32 : decode cX4_tick 32 = .ok (.invokevirtual 145, 3) := by decide +kernel
theorem dX4_tick_35 : decode cX4_tick 35 = .ok (.iinc 3 1, 3) := by decide +kernel
theorem dX4_tick_38 : decode cX4_tick 38 = .ok (.goto (-12), 3) := by decide +kernel
theorem dX4_tick_41 : decode cX4_tick 41 = .ok (.aload_n 0, 1) := by decide +kernel
theorem dX4_tick_42 : decode cX4_tick 42 = .ok (.getfield 7, 3) := by decide +kernel
theorem dX4_tick_45 : decode cX4_tick 45 = .ok (.bipush 18, 2) := by decide +kernel
theorem dX4_tick_47 : decode cX4_tick 47 = .ok (.iaload, 1) := by decide +kernel
theorem dX4_tick_48 : decode cX4_tick 48 = .ok (.iload_n 2, 1) := by decide +kernel
theorem dX4_tick_49 : decode cX4_tick 49 = .ok (.isub, 1) := by decide +kernel
theorem dX4_tick_50 : decode cX4_tick 50 = .ok (.ireturn, 1) := by decide +kernel
set_option maxRecDepth 20000 in
theorem ggX4_release_X4_nextCue : GoodIn wsX4_release wsX4_nextCue := goodIn_r _ [5, 6, 17, 18, 19, 20, 21, 22, 23, 24, 25, 26, 27, 28, 29, 30, 31, 32, 33, 34, 35] (by decide +kernel) (by decide +kernel)
set_option maxRecDepth 20000 in
theorem gX4_release_X4_nextCue : GoodIn wsX4_release (wsV RX4 85 RX4 yX4_nextCue wsX4_nextCue) := goodIn_app (goodIn_of _ (by decide +kernel)) ggX4_release_X4_nextCue
set_option maxRecDepth 20000 in
theorem ggX4_release_X4_remember : GoodIn wsX4_release wsX4_remember := goodIn_r _ [10, 11, 12, 6, 17, 18, 19, 20, 21, 22, 23, 24, 25, 26, 27, 28, 29, 30, 31, 32, 33, 34, 35] (by decide +kernel) (by decide +kernel)
set_option maxRecDepth 20000 in
theorem gX4_release_X4_remember : GoodIn wsX4_release (wsV RX4 135 RX4 yX4_remember wsX4_remember) := goodIn_app (goodIn_of _ (by decide +kernel)) ggX4_release_X4_remember
set_option maxRecDepth 20000 in
theorem ggX4_release_X4_releaseNext : GoodIn wsX4_release wsX4_releaseNext := goodIn_r _ [16, 6, 1, 2, 3, 4, 5, 17, 18, 19, 20, 21, 22, 23, 24, 25, 26, 27, 28, 29, 30, 31, 32, 33, 34, 35] (by decide +kernel) (by decide +kernel)
set_option maxRecDepth 20000 in
theorem gX4_release_X4_releaseNext : GoodIn wsX4_release (wsV RX4 148 RX4 yX4_releaseNext wsX4_releaseNext) := goodIn_app (goodIn_of _ (by decide +kernel)) ggX4_release_X4_releaseNext
theorem dX4_release_0 : decode cX4_release 0 = .ok (.aload_n 0, 1) := by decide +kernel
theorem dX4_release_1 : decode cX4_release 1 = .ok (.invokevirtual 85, 3) := by decide +kernel
theorem dX4_release_4 : decode cX4_release 4 = .ok (.bipush (-9), 2) := by decide +kernel
theorem dX4_release_6 : decode cX4_release 6 = .ok (.if_icmp .ne 6, 3) := by decide +kernel
theorem dX4_release_9 : decode cX4_release 9 = .ok (.bipush (-2), 2) := by decide +kernel
theorem dX4_release_11 : decode cX4_release 11 = .ok (.ireturn, 1) := by decide +kernel
theorem dX4_release_12 : decode cX4_release 12 = .ok (.aload_n 0, 1) := by decide +kernel
theorem dX4_release_13 : decode cX4_release 13 = .ok (.invokevirtual 135, 3) := by decide +kernel
theorem dX4_release_16 : decode cX4_release 16 = .ok (.aload_n 0, 1) := by decide +kernel
theorem dX4_release_17 : decode cX4_release 17 = .ok (.invokevirtual 148, 3) := by decide +kernel
theorem dX4_release_20 : decode cX4_release 20 = .ok (.ireturn, 1) := by decide +kernel
set_option maxRecDepth 20000 in
theorem ggX4_place_X4_isWord : GoodIn wsX4_place wsX4_isWord := goodIn_r _ [6, 1, 7, 8, 5, 9, 16, 17, 18, 19, 20, 21, 22, 23, 24, 25, 26, 27, 28, 29, 30, 31, 32, 33, 34] (by decide +kernel) (by decide +kernel)
set_option maxRecDepth 20000 in
theorem gX4_place_X4_isWord : GoodIn wsX4_place (wsV RX4 151 RX4 yX4_isWord wsX4_isWord) := goodIn_app (goodIn_of _ (by decide +kernel)) ggX4_place_X4_isWord
set_option maxRecDepth 20000 in
theorem ggX4_place_X4_remember : GoodIn wsX4_place wsX4_remember := goodIn_r _ [13, 14, 15, 1, 16, 17, 18, 19, 20, 21, 22, 23, 24, 25, 26, 27, 28, 29, 30, 31, 32, 33, 34] (by decide +kernel) (by decide +kernel)
set_option maxRecDepth 20000 in
theorem gX4_place_X4_remember : GoodIn wsX4_place (wsV RX4 135 RX4 yX4_remember wsX4_remember) := goodIn_app (goodIn_of _ (by decide +kernel)) ggX4_place_X4_remember
theorem dX4_place_0 : decode cX4_place 0 = .ok (.aload_n 0, 1) := by decide +kernel
theorem dX4_place_1 : decode cX4_place 1 = .ok (.iload_n 1, 1) := by decide +kernel
theorem dX4_place_2 : decode cX4_place 2 = .ok (.invokevirtual 151, 3) := by decide +kernel
theorem dX4_place_5 : decode cX4_place 5 = .ok (.ifCond .ne 5, 3) := by decide +kernel
theorem dX4_place_8 : decode cX4_place 8 = .ok (.iconst (-1), 1) := by decide +kernel
theorem dX4_place_9 : decode cX4_place 9 = .ok (.ireturn, 1) := by decide +kernel
theorem dX4_place_10 : decode cX4_place 10 = .ok (.aload_n 0, 1) := by decide +kernel
theorem dX4_place_11 : decode cX4_place 11 = .ok (.invokevirtual 135, 3) := by decide +kernel
theorem dX4_place_14 : decode cX4_place 14 = .ok (.aload_n 0, 1) := by decide +kernel
theorem dX4_place_15 : decode cX4_place 15 = .ok (.getfield 7, 3) := by decide +kernel
theorem dX4_place_18 : decode cX4_place 18 = .ok (.bipush 11, 2) := by decide +kernel
theorem dX4_place_20 : decode cX4_place 20 = .ok (.iaload, 1) := by decide +kernel
theorem dX4_place_21 : decode cX4_place 21 = .ok (.istore_n 2, 1) := by decide +kernel
theorem dX4_place_22 : decode cX4_place 22 = .ok (.aload_n 0, 1) := by decide +kernel
theorem dX4_place_23 : decode cX4_place 23 = .ok (.getfield 7, 3) := by decide +kernel
theorem dX4_place_26 : decode cX4_place 26 = .ok (.bipush 11, 2) := by decide +kernel
theorem dX4_place_28 : decode cX4_place 28 = .ok (.iload_n 1, 1) := by decide +kernel
theorem dX4_place_29 : decode cX4_place 29 = .ok (.iastore, 1) := by decide +kernel
theorem dX4_place_30 : decode cX4_place 30 = .ok (.aload_n 0, 1) := by decide +kernel
theorem dX4_place_31 : decode cX4_place 31 = .ok (.getfield 7, 3) := by decide +kernel
theorem dX4_place_34 : decode cX4_place 34 = .ok (.bipush 20, 2) := by decide +kernel
theorem dX4_place_36 : decode cX4_place 36 = .ok (.iconst 0, 1) := by decide +kernel
theorem dX4_place_37 : decode cX4_place 37 = .ok (.iastore, 1) := by decide +kernel
theorem dX4_place_38 : decode cX4_place 38 = .ok (.aload_n 0, 1) := by decide +kernel
theorem dX4_place_39 : decode cX4_place 39 = .ok (.getfield 7, 3) := by decide +kernel
theorem dX4_place_42 : decode cX4_place 42 = .ok (.bipush 25, 2) := by decide +kernel
theorem dX4_place_44 : decode cX4_place 44 = .ok (.iconst 0, 1) := by decide +kernel
theorem dX4_place_45 : decode cX4_place 45 = .ok (.iastore, 1) := by decide +kernel
theorem dX4_place_46 : decode cX4_place 46 = .ok (.aload_n 0, 1) := by decide +kernel
theorem dX4_place_47 : decode cX4_place 47 = .ok (.getfield 7, 3) := by decide +kernel
theorem dX4_place_50 : decode cX4_place 50 = .ok (.bipush 13, 2) := by decide +kernel
theorem dX4_place_52 : decode cX4_place 52 = .ok (.aload_n 0, 1) := by decide +kernel
theorem dX4_place_53 : decode cX4_place 53 = .ok (.getfield 7, 3) := by decide +kernel
theorem dX4_place_56 : decode cX4_place 56 = .ok (.bipush 10, 2) := by decide +kernel
theorem dX4_place_58 : decode cX4_place 58 = .ok (.iaload, 1) := by decide +kernel
theorem dX4_place_59 : decode cX4_place 59 = .ok (.iastore, 1) := by decide +kernel
theorem dX4_place_60 : decode cX4_place 60 = .ok (.iconst 0, 1) := by decide +kernel
theorem dX4_place_61 : decode cX4_place 61 = .ok (.istore_n 3, 1) := by decide +kernel
theorem dX4_place_62 : decode cX4_place 62 = .ok (.iload_n 3, 1) := by decide +kernel
theorem dX4_place_63 : decode cX4_place 63 = .ok (.aload_n 0, 1) := by decide +kernel
theorem dX4_place_64 : decode cX4_place 64 = .ok (.getfield 7, 3) := by decide +kernel
theorem dX4_place_67 : decode cX4_place 67 = .ok (.bipush 9, 2) := by decide +kernel
theorem dX4_place_69 : decode cX4_place 69 = .ok (.iaload, 1) := by decide +kernel
theorem dX4_place_70 : decode cX4_place 70 = .ok (.if_icmp .ge 46, 3) := by decide +kernel
theorem dX4_place_73 : decode cX4_place 73 = .ok (.aload_n 0, 1) := by decide +kernel
theorem dX4_place_74 : decode cX4_place 74 = .ok (.getfield 7, 3) := by decide +kernel
theorem dX4_place_77 : decode cX4_place 77 = .ok (.sipush 270, 3) := by decide +kernel
theorem dX4_place_80 : decode cX4_place 80 = .ok (.iload_n 3, 1) := by decide +kernel
theorem dX4_place_81 : decode cX4_place 81 = .ok (.iadd, 1) := by decide +kernel
theorem dX4_place_82 : decode cX4_place 82 = .ok (.aload_n 0, 1) := by decide +kernel
theorem dX4_place_83 : decode cX4_place 83 = .ok (.getfield 7, 3) := by decide +kernel
theorem dX4_place_86 : decode cX4_place 86 = .ok (.sipush 270, 3) := by decide +kernel
theorem dX4_place_89 : decode cX4_place 89 = .ok (.iload_n 3, 1) := by decide +kernel
theorem dX4_place_90 : decode cX4_place 90 = .ok (.iadd, 1) := by decide +kernel
theorem dX4_place_91 : decode cX4_place 91 = .ok (.iaload, 1) := by decide +kernel
theorem dX4_place_92 : decode cX4_place 92 = .ok (.ifCond .ne 7, 3) := by decide +kernel
theorem dX4_place_95 : decode cX4_place 95 = .ok (.iconst 0, 1) := by decide +kernel
theorem dX4_place_96 : decode cX4_place 96 = .ok (.goto 13, 3) := by decide +kernel
theorem dX4_place_99 : decode cX4_place 99 = .ok (.iload_n 3, 1) := by decide +kernel
theorem dX4_place_100 : decode cX4_place 100 = .ok (.iload_n 1, 1) := by decide +kernel
theorem dX4_place_101 : decode cX4_place 101 = .ok (.if_icmp .lt 7, 3) := by decide +kernel
theorem dX4_place_104 : decode cX4_place 104 = .ok (.iconst 1, 1) := by decide +kernel
theorem dX4_place_105 : decode cX4_place 105 = .ok (.goto 4, 3) := by decide +kernel
theorem dX4_place_108 : decode cX4_place 108 = .ok (.iconst 3, 1) := by decide +kernel
theorem dX4_place_109 : decode cX4_place 109 = .ok (.iastore, 1) := by decide +kernel
theorem dX4_place_110 : decode cX4_place 110 = .ok (.iinc 3 1, 3) := by decide +kernel
theorem dX4_place_113 : decode cX4_place 113 = .ok (.goto (-51), 3) := by decide +kernel
theorem dX4_place_116 : decode cX4_place 116 = .ok (.iload_n 2, 1) := by decide +kernel
theorem dX4_place_117 : decode cX4_place 117 = .ok (.ireturn, 1) := by decide +kernel
set_option maxRecDepth 20000 in
theorem ggX4_undo_X4_layRows : GoodIn wsX4_undo wsX4_layRows := goodIn_r _ [8, 9, 2, 10, 11, 12, 13, 14, 15, 16, 17, 18, 19, 20, 21, 22, 23, 24, 25, 26, 27, 28, 29] (by decide +kernel) (by decide +kernel)
set_option maxRecDepth 20000 in
theorem gX4_undo_X4_layRows : GoodIn wsX4_undo (wsV RX4 44 RX4 yX4_layRows wsX4_layRows) := goodIn_app (goodIn_of _ (by decide +kernel)) ggX4_undo_X4_layRows
theorem dX4_undo_0 : decode cX4_undo 0 = .ok (.aload_n 0, 1) := by decide +kernel
theorem dX4_undo_1 : decode cX4_undo 1 = .ok (.getfield 47, 3) := by decide +kernel
theorem dX4_undo_4 : decode cX4_undo 4 = .ok (.ifCond .ne 6, 3) := by decide +kernel
theorem dX4_undo_7 : decode cX4_undo 7 = .ok (.bipush (-2), 2) := by decide +kernel
theorem dX4_undo_9 : decode cX4_undo 9 = .ok (.ireturn, 1) := by decide +kernel
theorem dX4_undo_10 : decode cX4_undo 10 = .ok (.aload_n 0, 1) := by decide +kernel
theorem dX4_undo_11 : decode cX4_undo 11 = .ok (.dup, 1) := by decide +kernel
theorem dX4_undo_12 : decode cX4_undo 12 = .ok (.getfield 47, 3) := by decide +kernel
theorem dX4_undo_15 : decode cX4_undo 15 = .ok (.iconst 1, 1) := by decide +kernel
theorem dX4_undo_16 : decode cX4_undo 16 = .ok (.isub, 1) := by decide +kernel
theorem dX4_undo_17 : decode cX4_undo 17 = .ok (.putfield 47, 3) := by decide +kernel
theorem dX4_undo_20 : decode cX4_undo 20 = .ok (.iconst 0, 1) := by decide +kernel
theorem dX4_undo_21 : decode cX4_undo 21 = .ok (.istore_n 1, 1) := by decide +kernel
theorem dX4_undo_22 : decode cX4_undo 22 = .ok (.iload_n 1, 1) := by decide +kernel
theorem dX4_undo_23 : decode cX4_undo 23 = .ok (.sipush 510, 3) := by decide +kernel
theorem dX4_undo_26 : decode cX4_undo 26 = .ok (.if_icmp .ge 30, 3) := by decide +kernel
theorem dX4_undo_29 : decode cX4_undo 29 = .ok (.aload_n 0, 1) := by decide +kernel
theorem dX4_undo_30 : decode cX4_undo 30 = .ok (.getfield 7, 3) := by decide +kernel
theorem dX4_undo_33 : decode cX4_undo 33 = .ok (.iload_n 1, 1) := by decide +kernel
theorem dX4_undo_34 : decode cX4_undo 34 = .ok (.aload_n 0, 1) := by decide +kernel
theorem dX4_undo_35 : decode cX4_undo 35 = .ok (.getfield 13, 3) := by decide +kernel
theorem dX4_undo_38 : decode cX4_undo 38 = .ok (.sipush 510, 3) := by decide +kernel
theorem dX4_undo_41 : decode cX4_undo 41 = .ok (.aload_n 0, 1) := by decide +kernel
theorem dX4_undo_42 : decode cX4_undo 42 = .ok (.getfield 47, 3) := by decide +kernel
theorem dX4_undo_45 : decode cX4_undo 45 = .ok (.imul, 1) := by decide +kernel
theorem dX4_undo_46 : decode cX4_undo 46 = .ok (.iload_n 1, 1) := by decide +kernel
theorem dX4_undo_47 : decode cX4_undo 47 = .ok (.iadd, 1) := by decide +kernel
theorem dX4_undo_48 : decode cX4_undo 48 = .ok (.iaload, 1) := by decide +kernel
theorem dX4_undo_49 : decode cX4_undo 49 = .ok (.iastore, 1) := by decide +kernel
theorem dX4_undo_50 : decode cX4_undo 50 = .ok (.iinc 1 1, 3) := by decide +kernel
theorem dX4_undo_53 : decode cX4_undo 53 = .ok (.goto (-31), 3) := by decide +kernel
theorem dX4_undo_56 : decode cX4_undo 56 = .ok (.aload_n 0, 1) := by decide +kernel
theorem dX4_undo_57 : decode cX4_undo 57 = .ok (.invokevirtual 44, 3) := by decide +kernel
theorem dX4_undo_60 : decode cX4_undo 60 = .ok (.aload_n 0, 1) := by decide +kernel
theorem dX4_undo_61 : decode cX4_undo 61 = .ok (.getfield 47, 3) := by decide +kernel
theorem dX4_undo_64 : decode cX4_undo 64 = .ok (.ireturn, 1) := by decide +kernel
theorem dX4_cues_0 : decode cX4_cues 0 = .ok (.iconst 0, 1) := by decide +kernel
theorem dX4_cues_1 : decode cX4_cues 1 = .ok (.istore_n 1, 1) := by decide +kernel
theorem dX4_cues_2 : decode cX4_cues 2 = .ok (.iconst 0, 1) := by decide +kernel
theorem dX4_cues_3 : decode cX4_cues 3 = .ok (.istore_n 2, 1) := by decide +kernel
theorem dX4_cues_4 : decode cX4_cues 4 = .ok (.iload_n 2, 1) := by decide +kernel
theorem dX4_cues_5 : decode cX4_cues 5 = .ok (.aload_n 0, 1) := by decide +kernel
theorem dX4_cues_6 : decode cX4_cues 6 = .ok (.getfield 7, 3) := by decide +kernel
theorem dX4_cues_9 : decode cX4_cues 9 = .ok (.bipush 9, 2) := by decide +kernel
theorem dX4_cues_11 : decode cX4_cues 11 = .ok (.iaload, 1) := by decide +kernel
theorem dX4_cues_12 : decode cX4_cues 12 = .ok (.if_icmp .ge 30, 3) := by decide +kernel
theorem dX4_cues_15 : decode cX4_cues 15 = .ok (.iload_n 1, 1) := by decide +kernel
theorem dX4_cues_16 : decode cX4_cues 16 = .ok (.aload_n 0, 1) := by decide +kernel
theorem dX4_cues_17 : decode cX4_cues 17 = .ok (.getfield 7, 3) := by decide +kernel
theorem dX4_cues_20 : decode cX4_cues 20 = .ok (.sipush 270, 3) := by decide +kernel
theorem dX4_cues_23 : decode cX4_cues 23 = .ok (.iload_n 2, 1) := by decide +kernel
theorem dX4_cues_24 : decode cX4_cues 24 = .ok (.iadd, 1) := by decide +kernel
theorem dX4_cues_25 : decode cX4_cues 25 = .ok (.iaload, 1) := by decide +kernel
theorem dX4_cues_26 : decode cX4_cues 26 = .ok (.ifCond .eq 7, 3) := by decide +kernel
theorem dX4_cues_29 : decode cX4_cues 29 = .ok (.iconst 1, 1) := by decide +kernel
theorem dX4_cues_30 : decode cX4_cues 30 = .ok (.goto 4, 3) := by decide +kernel
theorem dX4_cues_33 : decode cX4_cues 33 = .ok (.iconst 0, 1) := by decide +kernel
theorem dX4_cues_34 : decode cX4_cues 34 = .ok (.iadd, 1) := by decide +kernel
theorem dX4_cues_35 : decode cX4_cues 35 = .ok (.istore_n 1, 1) := by decide +kernel
theorem dX4_cues_36 : decode cX4_cues 36 = .ok (.iinc 2 1, 3) := by decide +kernel
theorem dX4_cues_39 : decode cX4_cues 39 = .ok (.goto (-35), 3) := by decide +kernel
theorem dX4_cues_42 : decode cX4_cues 42 = .ok (.iload_n 1, 1) := by decide +kernel
theorem dX4_cues_43 : decode cX4_cues 43 = .ok (.ireturn, 1) := by decide +kernel
set_option maxRecDepth 20000 in
theorem ggX4_told_X4_cues : GoodIn wsX4_told wsX4_cues := goodIn_r _ [8, 1, 30, 31, 32, 33, 34, 35, 36, 37, 38, 39, 40, 41, 42, 43, 44, 45, 46, 47, 48] (by decide +kernel) (by decide +kernel)
set_option maxRecDepth 20000 in
theorem gX4_told_X4_cues : GoodIn wsX4_told (wsV RX4 154 RX4 yX4_cues wsX4_cues) := goodIn_app (goodIn_of _ (by decide +kernel)) ggX4_told_X4_cues
set_option maxRecDepth 20000 in
theorem ggX4_told_X4_estimated : GoodIn wsX4_told wsX4_estimated := goodIn_r _ [12, 1, 13, 14, 15, 7, 16, 30, 31, 32, 33, 34, 35, 36, 37, 38, 39, 40, 41, 42, 43, 44, 45, 46, 47, 48] (by decide +kernel) (by decide +kernel)
set_option maxRecDepth 20000 in
theorem gX4_told_X4_estimated : GoodIn wsX4_told (wsV RX4 88 RX4 yX4_estimated wsX4_estimated) := goodIn_app (goodIn_of _ (by decide +kernel)) ggX4_told_X4_estimated
set_option maxRecDepth 20000 in
theorem ggX4_told_X4_desired : GoodIn wsX4_told wsX4_desired := goodIn_r _ [20, 1, 21, 9, 10, 11, 7, 12, 13, 14, 15, 16, 22, 23, 24, 25, 26, 27, 28, 29, 2, 30, 31, 32, 33, 34, 35, 36, 37, 38, 39, 40, 41, 42, 43, 44, 45, 46, 47, 48] (by decide +kernel) (by decide +kernel)
set_option maxRecDepth 20000 in
theorem gX4_told_X4_desired : GoodIn wsX4_told (wsV RX4 94 RX4 yX4_desired wsX4_desired) := goodIn_app (goodIn_of _ (by decide +kernel)) ggX4_told_X4_desired
set_option maxRecDepth 20000 in
theorem ggX4_told_X4_nextCue : GoodIn wsX4_told wsX4_nextCue := goodIn_r _ [16, 1, 30, 31, 32, 33, 34, 35, 36, 37, 38, 39, 40, 41, 42, 43, 44, 45, 46, 47, 48] (by decide +kernel) (by decide +kernel)
set_option maxRecDepth 20000 in
theorem gX4_told_X4_nextCue : GoodIn wsX4_told (wsV RX4 85 RX4 yX4_nextCue wsX4_nextCue) := goodIn_app (goodIn_of _ (by decide +kernel)) ggX4_told_X4_nextCue
theorem dX4_told_0 : decode cX4_told 0 = .ok (.iload_n 1, 1) := by decide +kernel
theorem dX4_told_1 : decode cX4_told 1 = .ok (.tableswitch 211 0 18 #[91, 99, 104, 125, 130, 138, 146, 154, 159, 167, 172, 172, 172, 172, 172, 185, 193, 198, 206], 91) := by decide +kernel
theorem dX4_told_92 : decode cX4_told 92 = .ok (.aload_n 0, 1) := by decide +kernel
theorem dX4_told_93 : decode cX4_told 93 = .ok (.getfield 7, 3) := by decide +kernel
theorem dX4_told_96 : decode cX4_told 96 = .ok (.bipush 9, 2) := by decide +kernel
theorem dX4_told_98 : decode cX4_told 98 = .ok (.iaload, 1) := by decide +kernel
theorem dX4_told_99 : decode cX4_told 99 = .ok (.ireturn, 1) := by decide +kernel
theorem dX4_told_100 : decode cX4_told 100 = .ok (.aload_n 0, 1) := by decide +kernel
theorem dX4_told_101 : decode cX4_told 101 = .ok (.getfield 50, 3) := by decide +kernel
theorem dX4_told_104 : decode cX4_told 104 = .ok (.ireturn, 1) := by decide +kernel
theorem dX4_told_105 : decode cX4_told 105 = .ok (.aload_n 0, 1) := by decide +kernel
theorem dX4_told_106 : decode cX4_told 106 = .ok (.getfield 7, 3) := by decide +kernel
theorem dX4_told_109 : decode cX4_told 109 = .ok (.sipush 390, 3) := by decide +kernel
theorem dX4_told_112 : decode cX4_told 112 = .ok (.aload_n 0, 1) := by decide +kernel
theorem dX4_told_113 : decode cX4_told 113 = .ok (.getfield 7, 3) := by decide +kernel
theorem dX4_told_116 : decode cX4_told 116 = .ok (.bipush 9, 2) := by decide +kernel
theorem dX4_told_118 : decode cX4_told 118 = .ok (.iaload, 1) := by decide +kernel
theorem dX4_told_119 : decode cX4_told 119 = .ok (.iadd, 1) := by decide +kernel
theorem dX4_told_120 : decode cX4_told 120 = .ok (.iconst 1, 1) := by decide +kernel
theorem dX4_told_121 : decode cX4_told 121 = .ok (.isub, 1) := by decide +kernel
theorem dX4_told_122 : decode cX4_told 122 = .ok (.iaload, 1) := by decide +kernel
theorem dX4_told_123 : decode cX4_told 123 = .ok (.iconst 1, 1) := by decide +kernel
theorem dX4_told_124 : decode cX4_told 124 = .ok (.iadd, 1) := by decide +kernel
theorem dX4_told_125 : decode cX4_told 125 = .ok (.ireturn, 1) := by decide +kernel
theorem dX4_told_126 : decode cX4_told 126 = .ok (.aload_n 0, 1) := by decide +kernel
theorem dX4_told_127 : decode cX4_told 127 = .ok (.invokevirtual 154, 3) := by decide +kernel
theorem dX4_told_130 : decode cX4_told 130 = .ok (.ireturn, 1) := by decide +kernel
theorem dX4_told_131 : decode cX4_told 131 = .ok (.aload_n 0, 1) := by decide +kernel
theorem dX4_told_132 : decode cX4_told 132 = .ok (.getfield 7, 3) := by decide +kernel
theorem dX4_told_135 : decode cX4_told 135 = .ok (.bipush 10, 2) := by decide +kernel
theorem dX4_told_137 : decode cX4_told 137 = .ok (.iaload, 1) := by decide +kernel
theorem dX4_told_138 : decode cX4_told 138 = .ok (.ireturn, 1) := by decide +kernel
theorem dX4_told_139 : decode cX4_told 139 = .ok (.aload_n 0, 1) := by decide +kernel
theorem dX4_told_140 : decode cX4_told 140 = .ok (.getfield 7, 3) := by decide +kernel
theorem dX4_told_143 : decode cX4_told 143 = .ok (.bipush 11, 2) := by decide +kernel
theorem dX4_told_145 : decode cX4_told 145 = .ok (.iaload, 1) := by decide +kernel
theorem dX4_told_146 : decode cX4_told 146 = .ok (.ireturn, 1) := by decide +kernel
theorem dX4_told_147 : decode cX4_told 147 = .ok (.aload_n 0, 1) := by decide +kernel
theorem dX4_told_148 : decode cX4_told 148 = .ok (.getfield 7, 3) := by decide +kernel
theorem dX4_told_151 : decode cX4_told 151 = .ok (.bipush 12, 2) := by decide +kernel
theorem dX4_told_153 : decode cX4_told 153 = .ok (.iaload, 1) := by decide +kernel
theorem dX4_told_154 : decode cX4_told 154 = .ok (.ireturn, 1) := by decide +kernel
theorem dX4_told_155 : decode cX4_told 155 = .ok (.aload_n 0, 1) := by decide +kernel
theorem dX4_told_156 : decode cX4_told 156 = .ok (.invokevirtual 88, 3) := by decide +kernel
theorem dX4_told_159 : decode cX4_told 159 = .ok (.ireturn, 1) := by decide +kernel
theorem dX4_told_160 : decode cX4_told 160 = .ok (.aload_n 0, 1) := by decide +kernel
theorem dX4_told_161 : decode cX4_told 161 = .ok (.getfield 7, 3) := by decide +kernel
theorem dX4_told_164 : decode cX4_told 164 = .ok (.bipush 14, 2) := by decide +kernel
theorem dX4_told_166 : decode cX4_told 166 = .ok (.iaload, 1) := by decide +kernel
theorem dX4_told_167 : decode cX4_told 167 = .ok (.ireturn, 1) := by decide +kernel
theorem dX4_told_168 : decode cX4_told 168 = .ok (.aload_n 0, 1) := by decide +kernel
theorem dX4_told_169 : decode cX4_told 169 = .ok (.invokevirtual 94, 3) := by decide +kernel
theorem dX4_told_172 : decode cX4_told 172 = .ok (.ireturn, 1) := by decide +kernel
theorem dX4_told_173 : decode cX4_told 173 = .ok (.aload_n 0, 1) := by decide +kernel
theorem dX4_told_174 : decode cX4_told 174 = .ok (.getfield 7, 3) := by decide +kernel
theorem dX4_told_177 : decode cX4_told 177 = .ok (.bipush 15, 2) := by decide +kernel
theorem dX4_told_179 : decode cX4_told 179 = .ok (.iload_n 1, 1) := by decide +kernel
theorem dX4_told_180 : decode cX4_told 180 = .ok (.iadd, 1) := by decide +kernel
theorem dX4_told_181 : decode cX4_told 181 = .ok (.bipush 10, 2) := by decide +kernel
theorem dX4_told_183 : decode cX4_told 183 = .ok (.isub, 1) := by decide +kernel
theorem dX4_told_184 : decode cX4_told 184 = .ok (.iaload, 1) := by decide +kernel
theorem dX4_told_185 : decode cX4_told 185 = .ok (.ireturn, 1) := by decide +kernel
theorem dX4_told_186 : decode cX4_told 186 = .ok (.aload_n 0, 1) := by decide +kernel
theorem dX4_told_187 : decode cX4_told 187 = .ok (.getfield 7, 3) := by decide +kernel
theorem dX4_told_190 : decode cX4_told 190 = .ok (.bipush 25, 2) := by decide +kernel
theorem dX4_told_192 : decode cX4_told 192 = .ok (.iaload, 1) := by decide +kernel
theorem dX4_told_193 : decode cX4_told 193 = .ok (.ireturn, 1) := by decide +kernel
theorem dX4_told_194 : decode cX4_told 194 = .ok (.aload_n 0, 1) := by decide +kernel
theorem dX4_told_195 : decode cX4_told 195 = .ok (.invokevirtual 85, 3) := by decide +kernel
theorem dX4_told_198 : decode cX4_told 198 = .ok (.ireturn, 1) := by decide +kernel
theorem dX4_told_199 : decode cX4_told 199 = .ok (.aload_n 0, 1) := by decide +kernel
theorem dX4_told_200 : decode cX4_told 200 = .ok (.getfield 7, 3) := by decide +kernel
theorem dX4_told_203 : decode cX4_told 203 = .ok (.bipush 20, 2) := by decide +kernel
theorem dX4_told_205 : decode cX4_told 205 = .ok (.iaload, 1) := by decide +kernel
theorem dX4_told_206 : decode cX4_told 206 = .ok (.ireturn, 1) := by decide +kernel
theorem dX4_told_207 : decode cX4_told 207 = .ok (.aload_n 0, 1) := by decide +kernel
theorem dX4_told_208 : decode cX4_told 208 = .ok (.getfield 47, 3) := by decide +kernel
theorem dX4_told_211 : decode cX4_told 211 = .ok (.ireturn, 1) := by decide +kernel
theorem dX4_told_212 : decode cX4_told 212 = .ok (.iconst (-1), 1) := by decide +kernel
theorem dX4_told_213 : decode cX4_told 213 = .ok (.ireturn, 1) := by decide +kernel
set_option maxRecDepth 20000 in
theorem ggX4_setting_X4_isIn : GoodIn wsX4_setting wsX4_isIn := goodIn_r _ [5] (by decide +kernel) (by decide +kernel)
set_option maxRecDepth 20000 in
theorem gX4_setting_X4_isIn : GoodIn wsX4_setting (va_wsS RX4 57 yX4_isIn wsX4_isIn) := goodIn_app (goodIn_of _ (by decide +kernel)) ggX4_setting_X4_isIn
theorem dX4_setting_0 : decode cX4_setting 0 = .ok (.iload_n 1, 1) := by decide +kernel
theorem dX4_setting_1 : decode cX4_setting 1 = .ok (.iconst 0, 1) := by decide +kernel
theorem dX4_setting_2 : decode cX4_setting 2 = .ok (.bipush 8, 2) := by decide +kernel
theorem dX4_setting_4 : decode cX4_setting 4 = .ok (.invokestatic 57, 3) := by decide +kernel
theorem dX4_setting_7 : decode cX4_setting 7 = .ok (.ifCond .eq 12, 3) := by decide +kernel
theorem dX4_setting_10 : decode cX4_setting 10 = .ok (.aload_n 0, 1) := by decide +kernel
theorem dX4_setting_11 : decode cX4_setting 11 = .ok (.getfield 7, 3) := by decide +kernel
theorem dX4_setting_14 : decode cX4_setting 14 = .ok (.iload_n 1, 1) := by decide +kernel
theorem dX4_setting_15 : decode cX4_setting 15 = .ok (.iaload, 1) := by decide +kernel
theorem dX4_setting_16 : decode cX4_setting 16 = .ok (.goto 4, 3) := by decide +kernel
theorem dX4_setting_19 : decode cX4_setting 19 = .ok (.iconst (-1), 1) := by decide +kernel
theorem dX4_setting_20 : decode cX4_setting 20 = .ok (.ireturn, 1) := by decide +kernel
set_option maxRecDepth 20000 in
theorem ggX4_word_X4_isWord : GoodIn wsX4_word wsX4_isWord := goodIn_r _ [7, 1, 8, 9, 6, 10, 15, 16, 17, 18, 19, 20, 21, 22, 23, 24, 25, 26, 27, 28, 29, 30, 31, 32, 33] (by decide +kernel) (by decide +kernel)
set_option maxRecDepth 20000 in
theorem gX4_word_X4_isWord : GoodIn wsX4_word (wsV RX4 151 RX4 yX4_isWord wsX4_isWord) := goodIn_app (goodIn_of _ (by decide +kernel)) ggX4_word_X4_isWord
set_option maxRecDepth 20000 in
theorem ggX4_word_X4_isShown : GoodIn wsX4_word wsX4_isShown := goodIn_r _ [14, 1, 15, 16, 17, 18, 19, 20, 21, 22, 23, 24, 25, 26, 27, 28, 29, 30, 31, 32, 33] (by decide +kernel) (by decide +kernel)
set_option maxRecDepth 20000 in
theorem gX4_word_X4_isShown : GoodIn wsX4_word (wsV RX4 97 RX4 yX4_isShown wsX4_isShown) := goodIn_app (goodIn_of _ (by decide +kernel)) ggX4_word_X4_isShown
theorem dX4_word_0 : decode cX4_word 0 = .ok (.aload_n 0, 1) := by decide +kernel
theorem dX4_word_1 : decode cX4_word 1 = .ok (.iload_n 1, 1) := by decide +kernel
theorem dX4_word_2 : decode cX4_word 2 = .ok (.invokevirtual 151, 3) := by decide +kernel
theorem dX4_word_5 : decode cX4_word 5 = .ok (.ifCond .ne 5, 3) := by decide +kernel
theorem dX4_word_8 : decode cX4_word 8 = .ok (.iconst (-1), 1) := by decide +kernel
theorem dX4_word_9 : decode cX4_word 9 = .ok (.ireturn, 1) := by decide +kernel
theorem dX4_word_10 : decode cX4_word 10 = .ok (.iload_n 2, 1) := by decide +kernel
theorem dX4_word_11 : decode cX4_word 11 = .ok (.tableswitch 92 0 4 #[33, 44, 51, 62, 73], 33) := by decide +kernel
theorem dX4_word_44 : decode cX4_word 44 = .ok (.aload_n 0, 1) := by decide +kernel
theorem dX4_word_45 : decode cX4_word 45 = .ok (.getfield 7, 3) := by decide +kernel
theorem dX4_word_48 : decode cX4_word 48 = .ok (.sipush 150, 3) := by decide +kernel
theorem dX4_word_51 : decode cX4_word 51 = .ok (.iload_n 1, 1) := by decide +kernel
theorem dX4_word_52 : decode cX4_word 52 = .ok (.iadd, 1) := by decide +kernel
theorem dX4_word_53 : decode cX4_word 53 = .ok (.iaload, 1) := by decide +kernel
theorem dX4_word_54 : decode cX4_word 54 = .ok (.ireturn, 1) := by decide +kernel
theorem dX4_word_55 : decode cX4_word 55 = .ok (.aload_n 0, 1) := by decide +kernel
theorem dX4_word_56 : decode cX4_word 56 = .ok (.getfield 29, 3) := by decide +kernel
theorem dX4_word_59 : decode cX4_word 59 = .ok (.iload_n 1, 1) := by decide +kernel
theorem dX4_word_60 : decode cX4_word 60 = .ok (.iaload, 1) := by decide +kernel
theorem dX4_word_61 : decode cX4_word 61 = .ok (.ireturn, 1) := by decide +kernel
theorem dX4_word_62 : decode cX4_word 62 = .ok (.aload_n 0, 1) := by decide +kernel
theorem dX4_word_63 : decode cX4_word 63 = .ok (.getfield 7, 3) := by decide +kernel
theorem dX4_word_66 : decode cX4_word 66 = .ok (.sipush 390, 3) := by decide +kernel
theorem dX4_word_69 : decode cX4_word 69 = .ok (.iload_n 1, 1) := by decide +kernel
theorem dX4_word_70 : decode cX4_word 70 = .ok (.iadd, 1) := by decide +kernel
theorem dX4_word_71 : decode cX4_word 71 = .ok (.iaload, 1) := by decide +kernel
theorem dX4_word_72 : decode cX4_word 72 = .ok (.ireturn, 1) := by decide +kernel
theorem dX4_word_73 : decode cX4_word 73 = .ok (.aload_n 0, 1) := by decide +kernel
theorem dX4_word_74 : decode cX4_word 74 = .ok (.getfield 7, 3) := by decide +kernel
theorem dX4_word_77 : decode cX4_word 77 = .ok (.sipush 270, 3) := by decide +kernel
theorem dX4_word_80 : decode cX4_word 80 = .ok (.iload_n 1, 1) := by decide +kernel
theorem dX4_word_81 : decode cX4_word 81 = .ok (.iadd, 1) := by decide +kernel
theorem dX4_word_82 : decode cX4_word 82 = .ok (.iaload, 1) := by decide +kernel
theorem dX4_word_83 : decode cX4_word 83 = .ok (.ireturn, 1) := by decide +kernel
theorem dX4_word_84 : decode cX4_word 84 = .ok (.aload_n 0, 1) := by decide +kernel
theorem dX4_word_85 : decode cX4_word 85 = .ok (.aload_n 0, 1) := by decide +kernel
theorem dX4_word_86 : decode cX4_word 86 = .ok (.getfield 29, 3) := by decide +kernel
theorem dX4_word_89 : decode cX4_word 89 = .ok (.iload_n 1, 1) := by decide +kernel
theorem dX4_word_90 : decode cX4_word 90 = .ok (.iaload, 1) := by decide +kernel
theorem dX4_word_91 : decode cX4_word 91 = .ok (.invokevirtual 97, 3) := by decide +kernel
theorem dX4_word_94 : decode cX4_word 94 = .ok (.ifCond .eq 7, 3) := by decide +kernel
theorem dX4_word_97 : decode cX4_word 97 = .ok (.iconst 1, 1) := by decide +kernel
theorem dX4_word_98 : decode cX4_word 98 = .ok (.goto 4, 3) := by decide +kernel
theorem dX4_word_101 : decode cX4_word 101 = .ok (.iconst 0, 1) := by decide +kernel
theorem dX4_word_102 : decode cX4_word 102 = .ok (.ireturn, 1) := by decide +kernel
theorem dX4_word_103 : decode cX4_word 103 = .ok (.iconst (-1), 1) := by decide +kernel
theorem dX4_word_104 : decode cX4_word 104 = .ok (.ireturn, 1) := by decide +kernel
set_option maxRecDepth 20000 in
theorem ggX4_row_X4_isIn : GoodIn wsX4_row wsX4_isIn := goodIn_r _ [7] (by decide +kernel) (by decide +kernel)
set_option maxRecDepth 20000 in
theorem gX4_row_X4_isIn : GoodIn wsX4_row (va_wsS RX4 57 yX4_isIn wsX4_isIn) := goodIn_app (goodIn_of _ (by decide +kernel)) ggX4_row_X4_isIn
theorem dX4_row_0 : decode cX4_row 0 = .ok (.iload_n 1, 1) := by decide +kernel
theorem dX4_row_1 : decode cX4_row 1 = .ok (.iconst 0, 1) := by decide +kernel
theorem dX4_row_2 : decode cX4_row 2 = .ok (.aload_n 0, 1) := by decide +kernel
theorem dX4_row_3 : decode cX4_row 3 = .ok (.getfield 50, 3) := by decide +kernel
theorem dX4_row_6 : decode cX4_row 6 = .ok (.iconst 1, 1) := by decide +kernel
theorem dX4_row_7 : decode cX4_row 7 = .ok (.isub, 1) := by decide +kernel
theorem dX4_row_8 : decode cX4_row 8 = .ok (.invokestatic 57, 3) := by decide +kernel
theorem dX4_row_11 : decode cX4_row 11 = .ok (.ifCond .eq 12, 3) := by decide +kernel
theorem dX4_row_14 : decode cX4_row 14 = .ok (.iload_n 2, 1) := by decide +kernel
theorem dX4_row_15 : decode cX4_row 15 = .ok (.iconst 0, 1) := by decide +kernel
theorem dX4_row_16 : decode cX4_row 16 = .ok (.iconst 1, 1) := by decide +kernel
theorem dX4_row_17 : decode cX4_row 17 = .ok (.invokestatic 57, 3) := by decide +kernel
theorem dX4_row_20 : decode cX4_row 20 = .ok (.ifCond .ne 5, 3) := by decide +kernel
theorem dX4_row_23 : decode cX4_row 23 = .ok (.iconst (-1), 1) := by decide +kernel
theorem dX4_row_24 : decode cX4_row 24 = .ok (.ireturn, 1) := by decide +kernel
theorem dX4_row_25 : decode cX4_row 25 = .ok (.bipush (-9), 2) := by decide +kernel
theorem dX4_row_27 : decode cX4_row 27 = .ok (.istore_n 3, 1) := by decide +kernel
theorem dX4_row_28 : decode cX4_row 28 = .ok (.iconst 0, 1) := by decide +kernel
theorem dX4_row_29 : decode cX4_row 29 = .ok (.istore 4, 2) := by decide +kernel
theorem dX4_row_31 : decode cX4_row 31 = .ok (.iconst 0, 1) := by decide +kernel
theorem dX4_row_32 : decode cX4_row 32 = .ok (.istore 5, 2) := by decide +kernel
theorem dX4_row_34 : decode cX4_row 34 = .ok (.iload 5, 2) := by decide +kernel
theorem dX4_row_36 : decode cX4_row 36 = .ok (.aload_n 0, 1) := by decide +kernel
theorem dX4_row_37 : decode cX4_row 37 = .ok (.getfield 7, 3) := by decide +kernel
theorem dX4_row_40 : decode cX4_row 40 = .ok (.bipush 9, 2) := by decide +kernel
theorem dX4_row_42 : decode cX4_row 42 = .ok (.iaload, 1) := by decide +kernel
theorem dX4_row_43 : decode cX4_row 43 = .ok (.if_icmp .ge 36, 3) := by decide +kernel
theorem dX4_row_46 : decode cX4_row 46 = .ok (.aload_n 0, 1) := by decide +kernel
theorem dX4_row_47 : decode cX4_row 47 = .ok (.getfield 29, 3) := by decide +kernel
theorem dX4_row_50 : decode cX4_row 50 = .ok (.iload 5, 2) := by decide +kernel
theorem dX4_row_52 : decode cX4_row 52 = .ok (.iaload, 1) := by decide +kernel
theorem dX4_row_53 : decode cX4_row 53 = .ok (.iload_n 1, 1) := by decide +kernel
theorem dX4_row_54 : decode cX4_row 54 = .ok (.if_icmp .ne 19, 3) := by decide +kernel
theorem dX4_row_57 : decode cX4_row 57 = .ok (.iload_n 3, 1) := by decide +kernel
theorem dX4_row_58 : decode cX4_row 58 = .ok (.bipush (-9), 2) := by decide +kernel
theorem dX4_row_60 : decode cX4_row 60 = .ok (.if_icmp .ne 8, 3) := by decide +kernel
theorem dX4_row_63 : decode cX4_row 63 = .ok (.iload 5, 2) := by decide +kernel
theorem dX4_row_65 : decode cX4_row 65 = .ok (.goto 4, 3) := by decide +kernel
theorem dX4_row_68 : decode cX4_row 68 = .ok (.iload_n 3, 1) := by decide +kernel
theorem dX4_row_69 : decode cX4_row 69 = .ok (.istore_n 3, 1) := by decide +kernel
theorem dX4_row_70 : decode cX4_row 70 = .ok (.iinc 4 1, 3) := by decide +kernel
theorem dX4_row_73 : decode cX4_row 73 = .ok (.iinc 5 1, 3) := by decide +kernel
theorem dX4_row_76 : decode cX4_row 76 = .ok (.goto (-42), 3) := by decide +kernel
theorem dX4_row_79 : decode cX4_row 79 = .ok (.iload_n 2, 1) := by decide +kernel
theorem dX4_row_80 : decode cX4_row 80 = .ok (.ifCond .ne 7, 3) := by decide +kernel
theorem dX4_row_83 : decode cX4_row 83 = .ok (.iload_n 3, 1) := by decide +kernel
theorem dX4_row_84 : decode cX4_row 84 = .ok (.goto 5, 3) := by decide +kernel
theorem dX4_row_87 : decode cX4_row 87 = .ok (.iload 4, 2) := by decide +kernel
theorem dX4_row_89 : decode cX4_row 89 = .ok (.ireturn, 1) := by decide +kernel
theorem dX4_heard_0 : decode cX4_heard 0 = .ok (.iload_n 1, 1) := by decide +kernel
theorem dX4_heard_1 : decode cX4_heard 1 = .ok (.ifCond .ge 7, 3) := by decide +kernel
theorem dX4_heard_4 : decode cX4_heard 4 = .ok (.iconst (-1), 1) := by decide +kernel
theorem dX4_heard_5 : decode cX4_heard 5 = .ok (.goto 28, 3) := by decide +kernel
theorem dX4_heard_8 : decode cX4_heard 8 = .ok (.iload_n 1, 1) := by decide +kernel
theorem dX4_heard_9 : decode cX4_heard 9 = .ok (.aload_n 0, 1) := by decide +kernel
theorem dX4_heard_10 : decode cX4_heard 10 = .ok (.getfield 7, 3) := by decide +kernel
theorem dX4_heard_13 : decode cX4_heard 13 = .ok (.bipush 20, 2) := by decide +kernel
theorem dX4_heard_15 : decode cX4_heard 15 = .ok (.iaload, 1) := by decide +kernel
theorem dX4_heard_16 : decode cX4_heard 16 = .ok (.if_icmp .ge 15, 3) := by decide +kernel
theorem dX4_heard_19 : decode cX4_heard 19 = .ok (.aload_n 0, 1) := by decide +kernel
theorem dX4_heard_20 : decode cX4_heard 20 = .ok (.getfield 7, 3) := by decide +kernel
theorem dX4_heard_23 : decode cX4_heard 23 = .ok (.bipush 21, 2) := by decide +kernel
theorem dX4_heard_25 : decode cX4_heard 25 = .ok (.iload_n 1, 1) := by decide +kernel
theorem dX4_heard_26 : decode cX4_heard 26 = .ok (.iadd, 1) := by decide +kernel
theorem dX4_heard_27 : decode cX4_heard 27 = .ok (.iaload, 1) := by decide +kernel
theorem dX4_heard_28 : decode cX4_heard 28 = .ok (.goto 5, 3) := by decide +kernel
theorem dX4_heard_31 : decode cX4_heard 31 = .ok (.bipush (-9), 2) := by decide +kernel
theorem dX4_heard_33 : decode cX4_heard 33 = .ok (.ireturn, 1) := by decide +kernel
set_option maxRecDepth 20000 in
theorem ggX4_trail_X4_isIn : GoodIn wsX4_trail wsX4_isIn := goodIn_r _ [5] (by decide +kernel) (by decide +kernel)
set_option maxRecDepth 20000 in
theorem gX4_trail_X4_isIn : GoodIn wsX4_trail (va_wsS RX4 57 yX4_isIn wsX4_isIn) := goodIn_app (goodIn_of _ (by decide +kernel)) ggX4_trail_X4_isIn
theorem dX4_trail_0 : decode cX4_trail 0 = .ok (.iload_n 1, 1) := by decide +kernel
theorem dX4_trail_1 : decode cX4_trail 1 = .ok (.ifCond .lt 12, 3) := by decide +kernel
theorem dX4_trail_4 : decode cX4_trail 4 = .ok (.iload_n 2, 1) := by decide +kernel
theorem dX4_trail_5 : decode cX4_trail 5 = .ok (.iconst 0, 1) := by decide +kernel
theorem dX4_trail_6 : decode cX4_trail 6 = .ok (.iconst 1, 1) := by decide +kernel
theorem dX4_trail_7 : decode cX4_trail 7 = .ok (.invokestatic 57, 3) := by decide +kernel
theorem dX4_trail_10 : decode cX4_trail 10 = .ok (.ifCond .ne 5, 3) := by decide +kernel
theorem dX4_trail_13 : decode cX4_trail 13 = .ok (.iconst (-1), 1) := by decide +kernel
theorem dX4_trail_14 : decode cX4_trail 14 = .ok (.ireturn, 1) := by decide +kernel
theorem dX4_trail_15 : decode cX4_trail 15 = .ok (.iload_n 1, 1) := by decide +kernel
theorem dX4_trail_16 : decode cX4_trail 16 = .ok (.aload_n 0, 1) := by decide +kernel
theorem dX4_trail_17 : decode cX4_trail 17 = .ok (.getfield 7, 3) := by decide +kernel
theorem dX4_trail_20 : decode cX4_trail 20 = .ok (.bipush 25, 2) := by decide +kernel
theorem dX4_trail_22 : decode cX4_trail 22 = .ok (.iaload, 1) := by decide +kernel
theorem dX4_trail_23 : decode cX4_trail 23 = .ok (.if_icmp .ge 19, 3) := by decide +kernel
theorem dX4_trail_26 : decode cX4_trail 26 = .ok (.aload_n 0, 1) := by decide +kernel
theorem dX4_trail_27 : decode cX4_trail 27 = .ok (.getfield 7, 3) := by decide +kernel
theorem dX4_trail_30 : decode cX4_trail 30 = .ok (.bipush 26, 2) := by decide +kernel
theorem dX4_trail_32 : decode cX4_trail 32 = .ok (.iconst 2, 1) := by decide +kernel
theorem dX4_trail_33 : decode cX4_trail 33 = .ok (.iload_n 1, 1) := by decide +kernel
theorem dX4_trail_34 : decode cX4_trail 34 = .ok (.imul, 1) := by decide +kernel
theorem dX4_trail_35 : decode cX4_trail 35 = .ok (.iadd, 1) := by decide +kernel
theorem dX4_trail_36 : decode cX4_trail 36 = .ok (.iload_n 2, 1) := by decide +kernel
theorem dX4_trail_37 : decode cX4_trail 37 = .ok (.iadd, 1) := by decide +kernel
theorem dX4_trail_38 : decode cX4_trail 38 = .ok (.iaload, 1) := by decide +kernel
theorem dX4_trail_39 : decode cX4_trail 39 = .ok (.goto 5, 3) := by decide +kernel
theorem dX4_trail_42 : decode cX4_trail 42 = .ok (.bipush (-9), 2) := by decide +kernel
theorem dX4_trail_44 : decode cX4_trail 44 = .ok (.ireturn, 1) := by decide +kernel
set_option maxRecDepth 20000 in
theorem ggX4_score_X4_isWord : GoodIn wsX4_score wsX4_isWord := goodIn_r _ [5, 6, 7, 8, 4, 9, 14, 15, 16, 17, 18, 19, 20, 21, 22, 23, 24, 25, 26, 27, 28, 29, 30, 31, 32] (by decide +kernel) (by decide +kernel)
set_option maxRecDepth 20000 in
theorem gX4_score_X4_isWord : GoodIn wsX4_score (wsV RX4 151 RX4 yX4_isWord wsX4_isWord) := goodIn_app (goodIn_of _ (by decide +kernel)) ggX4_score_X4_isWord
set_option maxRecDepth 20000 in
theorem ggX4_score_X4_scoreOf : GoodIn wsX4_score wsX4_scoreOf := goodIn_r _ [13, 6, 14, 15, 16, 17, 18, 19, 20, 21, 22, 23, 24, 25, 26, 27, 28, 29, 30, 31, 32] (by decide +kernel) (by decide +kernel)
set_option maxRecDepth 20000 in
theorem gX4_score_X4_scoreOf : GoodIn wsX4_score (wsV RX4 61 RX4 yX4_scoreOf wsX4_scoreOf) := goodIn_app (goodIn_of _ (by decide +kernel)) ggX4_score_X4_scoreOf
theorem dX4_score_0 : decode cX4_score 0 = .ok (.aload_n 0, 1) := by decide +kernel
