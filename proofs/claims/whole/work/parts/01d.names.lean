theorem dX3_rehearse_22 : decode cX3_rehearse 22 = .ok (.aload_n 0, 1) := by decide +kernel
theorem dX3_rehearse_23 : decode cX3_rehearse 23 = .ok (.getfield 27, 3) := by decide +kernel
theorem dX3_rehearse_26 : decode cX3_rehearse 26 = .ok (.aload_n 0, 1) := by decide +kernel
theorem dX3_rehearse_27 : decode cX3_rehearse 27 = .ok (.getfield 23, 3) := by decide +kernel
theorem dX3_rehearse_30 : decode cX3_rehearse 30 = .ok (.invokevirtual 128, 3) := by decide +kernel
theorem dX3_rehearse_33 : decode cX3_rehearse 33 = .ok (.aload_n 0, 1) := by decide +kernel
theorem dX3_rehearse_34 : decode cX3_rehearse 34 = .ok (.getfield 27, 3) := by decide +kernel
theorem dX3_rehearse_37 : decode cX3_rehearse 37 = .ok (.iload_n 1, 1) := by decide +kernel
theorem dX3_rehearse_38 : decode cX3_rehearse 38 = .ok (.invokevirtual 241, 3) := by decide +kernel
theorem dX3_rehearse_41 : decode cX3_rehearse 41 = .ok (.iload_n 2, 1) := by decide +kernel
theorem dX3_rehearse_42 : decode cX3_rehearse 42 = .ok (.tableswitch 90 0 2 #[26, 42, 74], 26) := by decide +kernel
theorem dX3_rehearse_68 : decode cX3_rehearse 68 = .ok (.aload_n 0, 1) := by decide +kernel
theorem dX3_rehearse_69 : decode cX3_rehearse 69 = .ok (.getfield 27, 3) := by decide +kernel
theorem dX3_rehearse_72 : decode cX3_rehearse 72 = .ok (.getfield 178, 3) := by decide +kernel
theorem dX3_rehearse_75 : decode cX3_rehearse 75 = .ok (.aload_n 0, 1) := by decide +kernel
theorem dX3_rehearse_76 : decode cX3_rehearse 76 = .ok (.getfield 23, 3) := by decide +kernel
theorem dX3_rehearse_79 : decode cX3_rehearse 79 = .ok (.getfield 178, 3) := by decide +kernel
theorem dX3_rehearse_82 : decode cX3_rehearse 82 = .ok (.isub, 1) := by decide +kernel
theorem dX3_rehearse_83 : decode cX3_rehearse 83 = .ok (.ireturn, 1) := by decide +kernel
theorem dX3_rehearse_84 : decode cX3_rehearse 84 = .ok (.aload_n 0, 1) := by decide +kernel
theorem dX3_rehearse_85 : decode cX3_rehearse 85 = .ok (.getfield 27, 3) := by decide +kernel
theorem dX3_rehearse_88 : decode cX3_rehearse 88 = .ok (.getfield 169, 3) := by decide +kernel
theorem dX3_rehearse_91 : decode cX3_rehearse 91 = .ok (.aload_n 0, 1) := by decide +kernel
theorem dX3_rehearse_92 : decode cX3_rehearse 92 = .ok (.getfield 23, 3) := by decide +kernel
theorem dX3_rehearse_95 : decode cX3_rehearse 95 = .ok (.getfield 169, 3) := by decide +kernel
theorem dX3_rehearse_98 : decode cX3_rehearse 98 = .ok (.isub, 1) := by decide +kernel
theorem dX3_rehearse_99 : decode cX3_rehearse 99 = .ok (.aload_n 0, 1) := by decide +kernel
theorem dX3_rehearse_100 : decode cX3_rehearse 100 = .ok (.getfield 27, 3) := by decide +kernel
theorem dX3_rehearse_103 : decode cX3_rehearse 103 = .ok (.getfield 172, 3) := by decide +kernel
theorem dX3_rehearse_106 : decode cX3_rehearse 106 = .ok (.iadd, 1) := by decide +kernel
theorem dX3_rehearse_107 : decode cX3_rehearse 107 = .ok (.aload_n 0, 1) := by decide +kernel
theorem dX3_rehearse_108 : decode cX3_rehearse 108 = .ok (.getfield 23, 3) := by decide +kernel
theorem dX3_rehearse_111 : decode cX3_rehearse 111 = .ok (.getfield 172, 3) := by decide +kernel
theorem dX3_rehearse_114 : decode cX3_rehearse 114 = .ok (.isub, 1) := by decide +kernel
theorem dX3_rehearse_115 : decode cX3_rehearse 115 = .ok (.ireturn, 1) := by decide +kernel
theorem dX3_rehearse_116 : decode cX3_rehearse 116 = .ok (.aload_n 0, 1) := by decide +kernel
theorem dX3_rehearse_117 : decode cX3_rehearse 117 = .ok (.getfield 27, 3) := by decide +kernel
theorem dX3_rehearse_120 : decode cX3_rehearse 120 = .ok (.getfield 175, 3) := by decide +kernel
theorem dX3_rehearse_123 : decode cX3_rehearse 123 = .ok (.aload_n 0, 1) := by decide +kernel
theorem dX3_rehearse_124 : decode cX3_rehearse 124 = .ok (.getfield 23, 3) := by decide +kernel
theorem dX3_rehearse_127 : decode cX3_rehearse 127 = .ok (.getfield 175, 3) := by decide +kernel
theorem dX3_rehearse_130 : decode cX3_rehearse 130 = .ok (.isub, 1) := by decide +kernel
theorem dX3_rehearse_131 : decode cX3_rehearse 131 = .ok (.ireturn, 1) := by decide +kernel
theorem dX3_rehearse_132 : decode cX3_rehearse 132 = .ok (.aload_n 0, 1) := by decide +kernel
theorem dX3_rehearse_133 : decode cX3_rehearse 133 = .ok (.getfield 27, 3) := by decide +kernel
theorem dX3_rehearse_136 : decode cX3_rehearse 136 = .ok (.getfield 100, 3) := by decide +kernel
theorem dX3_rehearse_139 : decode cX3_rehearse 139 = .ok (.ireturn, 1) := by decide +kernel
set_option maxRecDepth 20000 in
theorem ggX3_keep_X3_stateAt : GoodIn wsX3_keep wsX3_stateAt := goodIn_r _ [9, 10, 63, 64, 65, 66, 67, 68, 69, 70, 71, 72, 73] (by decide +kernel) (by decide +kernel)
set_option maxRecDepth 20000 in
theorem gX3_keep_X3_stateAt : GoodIn wsX3_keep (wsV RX3 124 RX3 yX3_stateAt wsX3_stateAt) := goodIn_app (goodIn_of _ (by decide +kernel)) ggX3_keep_X3_stateAt
set_option maxRecDepth 20000 in
theorem ggX3_keep_X1_become : GoodIn wsX3_keep wsX1_become := goodIn_r _ [15, 16, 17, 18, 19, 20, 21, 22, 23, 24, 25, 26, 27, 28, 29, 30, 31, 8, 32, 33, 34, 35, 36, 37, 38, 39, 40, 41, 42, 43, 44, 45, 46, 47, 48, 49, 50, 51, 52, 53, 54, 55, 56, 57, 58, 59, 60, 61, 62, 74, 75, 76, 77, 78, 79, 80, 81, 82, 83, 84, 85, 86, 87, 88, 89, 90, 91, 92, 93, 94, 95, 96, 97, 98, 99, 100] (by decide +kernel) (by decide +kernel)
set_option maxRecDepth 20000 in
theorem gX3_keep_X1_become : GoodIn wsX3_keep (wsV RX3 128 RX1 yX1_become wsX1_become) := goodIn_app (goodIn_of _ (by decide +kernel)) ggX3_keep_X1_become
theorem dX3_keep_0 : decode cX3_keep 0 = .ok (.iload_n 1, 1) := by decide +kernel
theorem dX3_keep_1 : decode cX3_keep 1 = .ok (.ifCond .lt 12, 3) := by decide +kernel
theorem dX3_keep_4 : decode cX3_keep 4 = .ok (.iload_n 1, 1) := by decide +kernel
theorem dX3_keep_5 : decode cX3_keep 5 = .ok (.aload_n 0, 1) := by decide +kernel
theorem dX3_keep_6 : decode cX3_keep 6 = .ok (.getfield 37, 3) := by decide +kernel
theorem dX3_keep_9 : decode cX3_keep 9 = .ok (.arraylength, 1) := by decide +kernel
theorem dX3_keep_10 : decode cX3_keep 10 = .ok (.if_icmp .lt 5, 3) := by decide +kernel
theorem dX3_keep_13 : decode cX3_keep 13 = .ok (.iconst (-1), 1) := by decide +kernel
theorem dX3_keep_14 : decode cX3_keep 14 = .ok (.ireturn, 1) := by decide +kernel
theorem dX3_keep_15 : decode cX3_keep 15 = .ok (.aload_n 0, 1) := by decide +kernel
theorem dX3_keep_16 : decode cX3_keep 16 = .ok (.aload_n 0, 1) := by decide +kernel
theorem dX3_keep_17 : decode cX3_keep 17 = .ok (.getfield 34, 3) := by decide +kernel
theorem dX3_keep_20 : decode cX3_keep 20 = .ok (.iload_n 1, 1) := by decide +kernel
theorem dX3_keep_21 : decode cX3_keep 21 = .ok (.invokevirtual 124, 3) := by decide +kernel
theorem dX3_keep_24 : decode cX3_keep 24 = .ok (.aload_n 0, 1) := by decide +kernel
theorem dX3_keep_25 : decode cX3_keep 25 = .ok (.getfield 23, 3) := by decide +kernel
theorem dX3_keep_28 : decode cX3_keep 28 = .ok (.invokevirtual 128, 3) := by decide +kernel
theorem dX3_keep_31 : decode cX3_keep 31 = .ok (.aload_n 0, 1) := by decide +kernel
theorem dX3_keep_32 : decode cX3_keep 32 = .ok (.getfield 37, 3) := by decide +kernel
theorem dX3_keep_35 : decode cX3_keep 35 = .ok (.iload_n 1, 1) := by decide +kernel
theorem dX3_keep_36 : decode cX3_keep 36 = .ok (.iconst 1, 1) := by decide +kernel
theorem dX3_keep_37 : decode cX3_keep 37 = .ok (.bastore, 1) := by decide +kernel
theorem dX3_keep_38 : decode cX3_keep 38 = .ok (.aload_n 0, 1) := by decide +kernel
theorem dX3_keep_39 : decode cX3_keep 39 = .ok (.getfield 23, 3) := by decide +kernel
theorem dX3_keep_42 : decode cX3_keep 42 = .ok (.getfield 100, 3) := by decide +kernel
theorem dX3_keep_45 : decode cX3_keep 45 = .ok (.ireturn, 1) := by decide +kernel
set_option maxRecDepth 20000 in
theorem ggX3_back_X3_record : GoodIn wsX3_back wsX3_record := goodIn_r _ [9, 10, 11, 2, 12, 13, 14, 8, 15, 16, 17, 18, 19, 20, 21, 22, 23, 24, 25, 26, 27, 28, 29, 30, 31, 32, 33, 34, 35, 36, 37, 38, 39, 40, 41, 42, 43, 44, 45, 46, 47, 48, 49, 50, 51, 52, 53, 54, 55, 56, 57, 58, 59, 60, 61, 62, 63, 64, 65, 66, 67, 68, 69, 70, 71, 72, 73, 74, 75, 76, 77, 78, 79, 80, 81, 82, 83, 84, 85, 86, 87, 88, 89, 90, 91, 92, 93, 94, 95, 96, 97, 98, 99, 100, 101, 102, 103, 104, 105, 106, 107, 108, 109, 110] (by decide +kernel) (by decide +kernel)
set_option maxRecDepth 20000 in
theorem gX3_back_X3_record : GoodIn wsX3_back (wsV RX3 66 RX3 yX3_record wsX3_record) := goodIn_app (goodIn_of _ (by decide +kernel)) ggX3_back_X3_record
set_option maxRecDepth 20000 in
theorem ggX3_back_X3_stateAt : GoodIn wsX3_back wsX3_stateAt := goodIn_r _ [19, 20, 73, 74, 75, 76, 77, 78, 79, 80, 81, 82, 83] (by decide +kernel) (by decide +kernel)
set_option maxRecDepth 20000 in
theorem gX3_back_X3_stateAt : GoodIn wsX3_back (wsV RX3 124 RX3 yX3_stateAt wsX3_stateAt) := goodIn_app (goodIn_of _ (by decide +kernel)) ggX3_back_X3_stateAt
set_option maxRecDepth 20000 in
theorem ggX3_back_X1_become : GoodIn wsX3_back wsX1_become := goodIn_r _ [25, 26, 27, 28, 29, 30, 31, 32, 33, 34, 35, 36, 37, 38, 39, 40, 41, 8, 42, 43, 44, 45, 46, 47, 48, 49, 50, 51, 52, 53, 54, 55, 56, 57, 58, 59, 60, 61, 62, 63, 64, 65, 66, 67, 68, 69, 70, 71, 72, 84, 85, 86, 87, 88, 89, 90, 91, 92, 93, 94, 95, 96, 97, 98, 99, 100, 101, 102, 103, 104, 105, 106, 107, 108, 109, 110] (by decide +kernel) (by decide +kernel)
set_option maxRecDepth 20000 in
theorem gX3_back_X1_become : GoodIn wsX3_back (wsV RX3 128 RX1 yX1_become wsX1_become) := goodIn_app (goodIn_of _ (by decide +kernel)) ggX3_back_X1_become
theorem dX3_back_0 : decode cX3_back 0 = .ok (.iload_n 1, 1) := by decide +kernel
theorem dX3_back_1 : decode cX3_back 1 = .ok (.ifCond .lt 12, 3) := by decide +kernel
theorem dX3_back_4 : decode cX3_back 4 = .ok (.iload_n 1, 1) := by decide +kernel
theorem dX3_back_5 : decode cX3_back 5 = .ok (.aload_n 0, 1) := by decide +kernel
theorem dX3_back_6 : decode cX3_back 6 = .ok (.getfield 37, 3) := by decide +kernel
theorem dX3_back_9 : decode cX3_back 9 = .ok (.arraylength, 1) := by decide +kernel
theorem dX3_back_10 : decode cX3_back 10 = .ok (.if_icmp .lt 5, 3) := by decide +kernel
theorem dX3_back_13 : decode cX3_back 13 = .ok (.iconst (-1), 1) := by decide +kernel
theorem dX3_back_14 : decode cX3_back 14 = .ok (.ireturn, 1) := by decide +kernel
theorem dX3_back_15 : decode cX3_back 15 = .ok (.aload_n 0, 1) := by decide +kernel
theorem dX3_back_16 : decode cX3_back 16 = .ok (.getfield 37, 3) := by decide +kernel
theorem dX3_back_19 : decode cX3_back 19 = .ok (.iload_n 1, 1) := by decide +kernel
theorem dX3_back_20 : decode cX3_back 20 = .ok (.baload, 1) := by decide +kernel
theorem dX3_back_21 : decode cX3_back 21 = .ok (.ifCond .ne 6, 3) := by decide +kernel
theorem dX3_back_24 : decode cX3_back 24 = .ok (.bipush (-2), 2) := by decide +kernel
theorem dX3_back_26 : decode cX3_back 26 = .ok (.ireturn, 1) := by decide +kernel
theorem dX3_back_27 : decode cX3_back 27 = .ok (.aload_n 0, 1) := by decide +kernel
theorem dX3_back_28 : decode cX3_back 28 = .ok (.invokevirtual 66, 3) := by decide +kernel
theorem dX3_back_31 : decode cX3_back 31 = .ok (.aload_n 0, 1) := by decide +kernel
theorem dX3_back_32 : decode cX3_back 32 = .ok (.getfield 23, 3) := by decide +kernel
theorem dX3_back_35 : decode cX3_back 35 = .ok (.aload_n 0, 1) := by decide +kernel
theorem dX3_back_36 : decode cX3_back 36 = .ok (.aload_n 0, 1) := by decide +kernel
theorem dX3_back_37 : decode cX3_back 37 = .ok (.getfield 34, 3) := by decide +kernel
theorem dX3_back_40 : decode cX3_back 40 = .ok (.iload_n 1, 1) := by decide +kernel
theorem dX3_back_41 : decode cX3_back 41 = .ok (.invokevirtual 124, 3) := by decide +kernel
theorem dX3_back_44 : decode cX3_back 44 = .ok (.invokevirtual 128, 3) := by decide +kernel
theorem dX3_back_47 : decode cX3_back 47 = .ok (.aload_n 0, 1) := by decide +kernel
theorem dX3_back_48 : decode cX3_back 48 = .ok (.getfield 23, 3) := by decide +kernel
theorem dX3_back_51 : decode cX3_back 51 = .ok (.getfield 100, 3) := by decide +kernel
theorem dX3_back_54 : decode cX3_back 54 = .ok (.ireturn, 1) := by decide +kernel
set_option maxRecDepth 20000 in
theorem ggX3_readText_X0_empty : GoodIn wsX3_readText wsX0_empty := goodIn_r _ [11, 12, 13, 14, 53, 54, 55, 56, 57, 58, 59, 60, 61] (by decide +kernel) (by decide +kernel)
set_option maxRecDepth 20000 in
theorem gX3_readText_X0_empty : GoodIn wsX3_readText (wsV RX3 51 RX0 yX0_empty wsX0_empty) := goodIn_app (goodIn_of _ (by decide +kernel)) ggX3_readText_X0_empty
set_option maxRecDepth 20000 in
theorem ggX3_readText_X3_at : GoodIn wsX3_readText wsX3_at := goodIn_r _ [18] (by decide +kernel) (by decide +kernel)
set_option maxRecDepth 20000 in
theorem gX3_readText_X3_at : GoodIn wsX3_readText (va_wsS RX3 83 yX3_at wsX3_at) := goodIn_app (goodIn_of _ (by decide +kernel)) ggX3_readText_X3_at
set_option maxRecDepth 20000 in
theorem ggX3_readText_X0_read : GoodIn wsX3_readText wsX0_read := goodIn_r _ [22, 14, 23, 17, 24, 25, 26, 27, 10, 28, 12, 29, 30, 13, 31, 32, 33, 34, 35, 36, 37, 38, 39, 40, 41, 53, 54, 55, 56, 57, 58, 59, 60, 61] (by decide +kernel) (by decide +kernel)
set_option maxRecDepth 20000 in
theorem gX3_readText_X0_read : GoodIn wsX3_readText (wsV RX3 54 RX0 yX0_read wsX0_read) := goodIn_app (goodIn_of _ (by decide +kernel)) ggX3_readText_X0_read
theorem dX3_readText_0 : decode cX3_readText 0 = .ok (.aload_n 0, 1) := by decide +kernel
theorem dX3_readText_1 : decode cX3_readText 1 = .ok (.getfield 16, 3) := by decide +kernel
theorem dX3_readText_4 : decode cX3_readText 4 = .ok (.invokevirtual 51, 3) := by decide +kernel
theorem dX3_readText_7 : decode cX3_readText 7 = .ok (.iconst 0, 1) := by decide +kernel
theorem dX3_readText_8 : decode cX3_readText 8 = .ok (.istore_n 1, 1) := by decide +kernel
theorem dX3_readText_9 : decode cX3_readText 9 = .ok (.iload_n 1, 1) := by decide +kernel
theorem dX3_readText_10 : decode cX3_readText 10 = .ok (.aload_n 0, 1) := by decide +kernel
theorem dX3_readText_11 : decode cX3_readText 11 = .ok (.getfield 132, 3) := by decide +kernel
theorem dX3_readText_14 : decode cX3_readText 14 = .ok (.if_icmp .ge 51, 3) := by decide +kernel
theorem dX3_readText_17 : decode cX3_readText 17 = .ok (.aload_n 0, 1) := by decide +kernel
theorem dX3_readText_18 : decode cX3_readText 18 = .ok (.getfield 16, 3) := by decide +kernel
theorem dX3_readText_21 : decode cX3_readText 21 = .ok (.aload_n 0, 1) := by decide +kernel
theorem dX3_readText_22 : decode cX3_readText 22 = .ok (.getfield 9, 3) := by decide +kernel
theorem dX3_readText_25 : decode cX3_readText 25 = .ok (.iload_n 1, 1) := by decide +kernel
theorem dX3_readText_26 : decode cX3_readText 26 = .ok (.invokestatic 83, 3) := by decide +kernel
theorem dX3_readText_29 : decode cX3_readText 29 = .ok (.aload_n 0, 1) := by decide +kernel
theorem dX3_readText_30 : decode cX3_readText 30 = .ok (.getfield 9, 3) := by decide +kernel
theorem dX3_readText_33 : decode cX3_readText 33 = .ok (.iload_n 1, 1) := by decide +kernel
theorem dX3_readText_34 : decode cX3_readText 34 = .ok (.iconst 1, 1) := by decide +kernel
theorem dX3_readText_35 : decode cX3_readText 35 = .ok (.isub, 1) := by decide +kernel
theorem dX3_readText_36 : decode cX3_readText 36 = .ok (.invokestatic 83, 3) := by decide +kernel
theorem dX3_readText_39 : decode cX3_readText 39 = .ok (.invokevirtual 54, 3) := by decide +kernel
theorem dX3_readText_42 : decode cX3_readText 42 = .ok (.istore_n 2, 1) := by decide +kernel
theorem dX3_readText_43 : decode cX3_readText 43 = .ok (.iload_n 2, 1) := by decide +kernel
theorem dX3_readText_44 : decode cX3_readText 44 = .ok (.ifCond .eq 15, 3) := by decide +kernel
theorem dX3_readText_47 : decode cX3_readText 47 = .ok (.aload_n 0, 1) := by decide +kernel
theorem dX3_readText_48 : decode cX3_readText 48 = .ok (.iload_n 2, 1) := by decide +kernel
theorem dX3_readText_49 : decode cX3_readText 49 = .ok (.putfield 139, 3) := by decide +kernel
theorem dX3_readText_52 : decode cX3_readText 52 = .ok (.aload_n 0, 1) := by decide +kernel
theorem dX3_readText_53 : decode cX3_readText 53 = .ok (.iload_n 1, 1) := by decide +kernel
theorem dX3_readText_54 : decode cX3_readText 54 = .ok (.putfield 142, 3) := by decide +kernel
theorem dX3_readText_57 : decode cX3_readText 57 = .ok (.iconst 0, 1) := by decide +kernel
theorem dX3_readText_58 : decode cX3_readText 58 = .ok (.ireturn, 1) := by decide +kernel
theorem dX3_readText_59 : decode cX3_readText 59 = .ok (.iinc 1 1, 3) := by decide +kernel
theorem dX3_readText_62 : decode cX3_readText 62 = .ok (.goto (-53), 3) := by decide +kernel
theorem dX3_readText_65 : decode cX3_readText 65 = .ok (.aload_n 0, 1) := by decide +kernel
theorem dX3_readText_66 : decode cX3_readText 66 = .ok (.getfield 16, 3) := by decide +kernel
theorem dX3_readText_69 : decode cX3_readText 69 = .ok (.getfield 244, 3) := by decide +kernel
theorem dX3_readText_72 : decode cX3_readText 72 = .ok (.ifCond .ne 18, 3) := by decide +kernel
theorem dX3_readText_75 : decode cX3_readText 75 = .ok (.aload_n 0, 1) := by decide +kernel
theorem dX3_readText_76 : decode cX3_readText 76 = .ok (.iconst 5, 1) := by decide +kernel
theorem dX3_readText_77 : decode cX3_readText 77 = .ok (.putfield 139, 3) := by decide +kernel
theorem dX3_readText_80 : decode cX3_readText 80 = .ok (.aload_n 0, 1) := by decide +kernel
theorem dX3_readText_81 : decode cX3_readText 81 = .ok (.aload_n 0, 1) := by decide +kernel
theorem dX3_readText_82 : decode cX3_readText 82 = .ok (.getfield 132, 3) := by decide +kernel
theorem dX3_readText_85 : decode cX3_readText 85 = .ok (.putfield 142, 3) := by decide +kernel
theorem dX3_readText_88 : decode cX3_readText 88 = .ok (.iconst 0, 1) := by decide +kernel
theorem dX3_readText_89 : decode cX3_readText 89 = .ok (.ireturn, 1) := by decide +kernel
theorem dX3_readText_90 : decode cX3_readText 90 = .ok (.iconst 1, 1) := by decide +kernel
theorem dX3_readText_91 : decode cX3_readText 91 = .ok (.ireturn, 1) := by decide +kernel
set_option maxRecDepth 20000 in
theorem ggX3_record_X3_dropOldest : GoodIn wsX3_record wsX3_dropOldest := goodIn_r _ [8, 2, 1, 9, 10, 11, 7, 12, 13, 66, 67, 68, 69, 70, 71, 72, 73, 74, 75, 76] (by decide +kernel) (by decide +kernel)
set_option maxRecDepth 20000 in
theorem gX3_record_X3_dropOldest : GoodIn wsX3_record (wsV RX3 247 RX3 yX3_dropOldest wsX3_dropOldest) := goodIn_app (goodIn_of _ (by decide +kernel)) ggX3_record_X3_dropOldest
set_option maxRecDepth 20000 in
theorem ggX3_record_X3_stateAt : GoodIn wsX3_record wsX3_stateAt := goodIn_r _ [12, 13, 66, 67, 68, 69, 70, 71, 72, 73, 74, 75, 76] (by decide +kernel) (by decide +kernel)
set_option maxRecDepth 20000 in
theorem gX3_record_X3_stateAt : GoodIn wsX3_record (wsV RX3 124 RX3 yX3_stateAt wsX3_stateAt) := goodIn_app (goodIn_of _ (by decide +kernel)) ggX3_record_X3_stateAt
set_option maxRecDepth 20000 in
theorem ggX3_record_X1_become : GoodIn wsX3_record wsX1_become := goodIn_r _ [18, 19, 20, 21, 22, 23, 24, 25, 26, 27, 28, 29, 30, 31, 32, 33, 34, 7, 35, 36, 37, 38, 39, 40, 41, 42, 43, 44, 45, 46, 47, 48, 49, 50, 51, 52, 53, 54, 55, 56, 57, 58, 59, 60, 61, 62, 63, 64, 65, 77, 78, 79, 80, 81, 82, 83, 84, 85, 86, 87, 88, 89, 90, 91, 92, 93, 94, 95, 96, 97, 98, 99, 100, 101, 102, 103] (by decide +kernel) (by decide +kernel)
set_option maxRecDepth 20000 in
theorem gX3_record_X1_become : GoodIn wsX3_record (wsV RX3 128 RX1 yX1_become wsX1_become) := goodIn_app (goodIn_of _ (by decide +kernel)) ggX3_record_X1_become
theorem dX3_record_0 : decode cX3_record 0 = .ok (.aload_n 0, 1) := by decide +kernel
theorem dX3_record_1 : decode cX3_record 1 = .ok (.getfield 121, 3) := by decide +kernel
theorem dX3_record_4 : decode cX3_record 4 = .ok (.bipush 8, 2) := by decide +kernel
theorem dX3_record_6 : decode cX3_record 6 = .ok (.if_icmp .lt 7, 3) := by decide +kernel
theorem dX3_record_9 : decode cX3_record 9 = .ok (.aload_n 0, 1) := by decide +kernel
theorem dX3_record_10 : decode cX3_record 10 = .ok (.invokevirtual 247, 3) := by decide +kernel
theorem dX3_record_13 : decode cX3_record 13 = .ok (.aload_n 0, 1) := by decide +kernel
theorem dX3_record_14 : decode cX3_record 14 = .ok (.aload_n 0, 1) := by decide +kernel
theorem dX3_record_15 : decode cX3_record 15 = .ok (.getfield 30, 3) := by decide +kernel
theorem dX3_record_18 : decode cX3_record 18 = .ok (.aload_n 0, 1) := by decide +kernel
theorem dX3_record_19 : decode cX3_record 19 = .ok (.getfield 121, 3) := by decide +kernel
theorem dX3_record_22 : decode cX3_record 22 = .ok (.invokevirtual 124, 3) := by decide +kernel
theorem dX3_record_25 : decode cX3_record 25 = .ok (.aload_n 0, 1) := by decide +kernel
theorem dX3_record_26 : decode cX3_record 26 = .ok (.getfield 23, 3) := by decide +kernel
theorem dX3_record_29 : decode cX3_record 29 = .ok (.invokevirtual 128, 3) := by decide +kernel
theorem dX3_record_32 : decode cX3_record 32 = .ok (.aload_n 0, 1) := by decide +kernel
theorem dX3_record_33 : decode cX3_record 33 = .ok (.dup, 1) := by decide +kernel
theorem dX3_record_34 : decode cX3_record 34 = .ok (.getfield 121, 3) := by decide +kernel
theorem dX3_record_37 : decode cX3_record 37 = .ok (.iconst 1, 1) := by decide +kernel
theorem dX3_record_38 : decode cX3_record 38 = .ok (.iadd, 1) := by decide +kernel
theorem dX3_record_39 : decode cX3_record 39 = .ok (.putfield 121, 3) := by decide +kernel
theorem dX3_record_42 : decode cX3_record 42 = .ok (.return_, 1) := by decide +kernel
set_option maxRecDepth 20000 in
theorem ggX3_dropOldest_X3_stateAt : GoodIn wsX3_dropOldest wsX3_stateAt := goodIn_r _ [7, 8, 9, 10, 11, 12, 13, 14, 15, 16, 17, 18, 19] (by decide +kernel) (by decide +kernel)
set_option maxRecDepth 20000 in
theorem gX3_dropOldest_X3_stateAt : GoodIn wsX3_dropOldest (wsV RX3 124 RX3 yX3_stateAt wsX3_stateAt) := goodIn_app (goodIn_of _ (by decide +kernel)) ggX3_dropOldest_X3_stateAt
theorem dX3_dropOldest_0 : decode cX3_dropOldest 0 = .ok (.aload_n 0, 1) := by decide +kernel
theorem dX3_dropOldest_1 : decode cX3_dropOldest 1 = .ok (.aload_n 0, 1) := by decide +kernel
theorem dX3_dropOldest_2 : decode cX3_dropOldest 2 = .ok (.getfield 30, 3) := by decide +kernel
theorem dX3_dropOldest_5 : decode cX3_dropOldest 5 = .ok (.iconst 0, 1) := by decide +kernel
theorem dX3_dropOldest_6 : decode cX3_dropOldest 6 = .ok (.invokevirtual 124, 3) := by decide +kernel
theorem dX3_dropOldest_9 : decode cX3_dropOldest 9 = .ok (.astore_n 1, 1) := by decide +kernel
theorem dX3_dropOldest_10 : decode cX3_dropOldest 10 = .ok (.iconst 1, 1) := by decide +kernel
theorem dX3_dropOldest_11 : decode cX3_dropOldest 11 = .ok (.istore_n 2, 1) := by decide +kernel
theorem dX3_dropOldest_12 : decode cX3_dropOldest 12 = .ok (.iload_n 2, 1) := by decide +kernel
theorem dX3_dropOldest_13 : decode cX3_dropOldest 13 = .ok (.aload_n 0, 1) := by decide +kernel
theorem dX3_dropOldest_14 : decode cX3_dropOldest 14 = .ok (.getfield 30, 3) := by decide +kernel
theorem dX3_dropOldest_17 : decode cX3_dropOldest 17 = .ok (.arraylength, 1) := by decide +kernel
theorem dX3_dropOldest_18 : decode cX3_dropOldest 18 = .ok (.if_icmp .ge 23, 3) := by decide +kernel
theorem dX3_dropOldest_21 : decode cX3_dropOldest 21 = .ok (.aload_n 0, 1) := by decide +kernel
theorem dX3_dropOldest_22 : decode cX3_dropOldest 22 = .ok (.getfield 30, 3) := by decide +kernel
theorem dX3_dropOldest_25 : decode cX3_dropOldest 25 = .ok (.iload_n 2, 1) := by decide +kernel
theorem dX3_dropOldest_26 : decode cX3_dropOldest 26 = .ok (.iconst 1, 1) := by decide +kernel
theorem dX3_dropOldest_27 : decode cX3_dropOldest 27 = .ok (.isub, 1) := by decide +kernel
theorem dX3_dropOldest_28 : decode cX3_dropOldest 28 = .ok (.aload_n 0, 1) := by decide +kernel
theorem dX3_dropOldest_29 : decode cX3_dropOldest 29 = .ok (.getfield 30, 3) := by decide +kernel
theorem dX3_dropOldest_32 : decode cX3_dropOldest 32 = .ok (.iload_n 2, 1) := by decide +kernel
theorem dX3_dropOldest_33 : decode cX3_dropOldest 33 = .ok (.aaload, 1) := by decide +kernel
theorem dX3_dropOldest_34 : decode cX3_dropOldest 34 = .ok (.aastore, 1) := by decide +kernel
theorem dX3_dropOldest_35 : decode cX3_dropOldest 35 = .ok (.iinc 2 1, 3) := by decide +kernel
theorem dX3_dropOldest_38 : decode cX3_dropOldest 38 = .ok (.goto (-26), 3) := by decide +kernel
theorem dX3_dropOldest_41 : decode cX3_dropOldest 41 = .ok (.aload_n 0, 1) := by decide +kernel
theorem dX3_dropOldest_42 : decode cX3_dropOldest 42 = .ok (.getfield 30, 3) := by decide +kernel
theorem dX3_dropOldest_45 : decode cX3_dropOldest 45 = .ok (.arraylength, 1) := by decide +kernel
theorem dX3_dropOldest_46 : decode cX3_dropOldest 46 = .ok (.ifCond .le 16, 3) := by decide +kernel
theorem dX3_dropOldest_49 : decode cX3_dropOldest 49 = .ok (.aload_n 0, 1) := by decide +kernel
theorem dX3_dropOldest_50 : decode cX3_dropOldest 50 = .ok (.getfield 30, 3) := by decide +kernel
theorem dX3_dropOldest_53 : decode cX3_dropOldest 53 = .ok (.aload_n 0, 1) := by decide +kernel
theorem dX3_dropOldest_54 : decode cX3_dropOldest 54 = .ok (.getfield 30, 3) := by decide +kernel
theorem dX3_dropOldest_57 : decode cX3_dropOldest 57 = .ok (.arraylength, 1) := by decide +kernel
theorem dX3_dropOldest_58 : decode cX3_dropOldest 58 = .ok (.iconst 1, 1) := by decide +kernel
theorem dX3_dropOldest_59 : decode cX3_dropOldest 59 = .ok (.isub, 1) := by decide +kernel
theorem dX3_dropOldest_60 : decode cX3_dropOldest 60 = .ok (.aload_n 1, 1) := by decide +kernel
theorem dX3_dropOldest_61 : decode cX3_dropOldest 61 = .ok (.aastore, 1) := by decide +kernel
theorem dX3_dropOldest_62 : decode cX3_dropOldest 62 = .ok (.aload_n 0, 1) := by decide +kernel
theorem dX3_dropOldest_63 : decode cX3_dropOldest 63 = .ok (.dup, 1) := by decide +kernel
theorem dX3_dropOldest_64 : decode cX3_dropOldest 64 = .ok (.getfield 121, 3) := by decide +kernel
theorem dX3_dropOldest_67 : decode cX3_dropOldest 67 = .ok (.iconst 1, 1) := by decide +kernel
theorem dX3_dropOldest_68 : decode cX3_dropOldest 68 = .ok (.isub, 1) := by decide +kernel
theorem dX3_dropOldest_69 : decode cX3_dropOldest 69 = .ok (.putfield 121, 3) := by decide +kernel
theorem dX3_dropOldest_72 : decode cX3_dropOldest 72 = .ok (.return_, 1) := by decide +kernel
theorem dX3_stateAt_0 : decode cX3_stateAt 0 = .ok (.iload_n 2, 1) := by decide +kernel
theorem dX3_stateAt_1 : decode cX3_stateAt 1 = .ok (.ifCond .lt 19, 3) := by decide +kernel
theorem dX3_stateAt_4 : decode cX3_stateAt 4 = .ok (.iload_n 2, 1) := by decide +kernel
theorem dX3_stateAt_5 : decode cX3_stateAt 5 = .ok (.aload_n 1, 1) := by decide +kernel
theorem dX3_stateAt_6 : decode cX3_stateAt 6 = .ok (.arraylength, 1) := by decide +kernel
theorem dX3_stateAt_7 : decode cX3_stateAt 7 = .ok (.if_icmp .ge 13, 3) := by decide +kernel
theorem dX3_stateAt_10 : decode cX3_stateAt 10 = .ok (.aload_n 1, 1) := by decide +kernel
theorem dX3_stateAt_11 : decode cX3_stateAt 11 = .ok (.iload_n 2, 1) := by decide +kernel
theorem dX3_stateAt_12 : decode cX3_stateAt 12 = .ok (.aaload, 1) := by decide +kernel
theorem dX3_stateAt_13 : decode cX3_stateAt 13 = .ok (.ifnull 7, 3) := by decide +kernel
theorem dX3_stateAt_16 : decode cX3_stateAt 16 = .ok (.aload_n 1, 1) := by decide +kernel
theorem dX3_stateAt_17 : decode cX3_stateAt 17 = .ok (.iload_n 2, 1) := by decide +kernel
theorem dX3_stateAt_18 : decode cX3_stateAt 18 = .ok (.aaload, 1) := by decide +kernel
theorem dX3_stateAt_19 : decode cX3_stateAt 19 = .ok (.areturn, 1) := by decide +kernel
theorem dX3_stateAt_20 : decode cX3_stateAt 20 = .ok (.aload_n 0, 1) := by decide +kernel
theorem dX3_stateAt_21 : decode cX3_stateAt 21 = .ok (.getfield 27, 3) := by decide +kernel
theorem dX3_stateAt_24 : decode cX3_stateAt 24 = .ok (.areturn, 1) := by decide +kernel
theorem dX3_isSetting_0 : decode cX3_isSetting 0 = .ok (.iload_n 0, 1) := by decide +kernel
theorem dX3_isSetting_1 : decode cX3_isSetting 1 = .ok (.ifCond .lt 13, 3) := by decide +kernel
theorem dX3_isSetting_4 : decode cX3_isSetting 4 = .ok (.iload_n 0, 1) := by decide +kernel
theorem dX3_isSetting_5 : decode cX3_isSetting 5 = .ok (.bipush 9, 2) := by decide +kernel
theorem dX3_isSetting_7 : decode cX3_isSetting 7 = .ok (.if_icmp .ge 7, 3) := by decide +kernel
theorem dX3_isSetting_10 : decode cX3_isSetting 10 = .ok (.iconst 1, 1) := by decide +kernel
theorem dX3_isSetting_11 : decode cX3_isSetting 11 = .ok (.goto 4, 3) := by decide +kernel
theorem dX3_isSetting_14 : decode cX3_isSetting 14 = .ok (.iconst 0, 1) := by decide +kernel
theorem dX3_isSetting_15 : decode cX3_isSetting 15 = .ok (.ireturn, 1) := by decide +kernel
theorem dX3_isLetter_0 : decode cX3_isLetter 0 = .ok (.iload_n 0, 1) := by decide +kernel
theorem dX3_isLetter_1 : decode cX3_isLetter 1 = .ok (.bipush 97, 2) := by decide +kernel
theorem dX3_isLetter_3 : decode cX3_isLetter 3 = .ok (.if_icmp .lt 13, 3) := by decide +kernel
theorem dX3_isLetter_6 : decode cX3_isLetter 6 = .ok (.iload_n 0, 1) := by decide +kernel
theorem dX3_isLetter_7 : decode cX3_isLetter 7 = .ok (.bipush 122, 2) := by decide +kernel
theorem dX3_isLetter_9 : decode cX3_isLetter 9 = .ok (.if_icmp .gt 7, 3) := by decide +kernel
theorem dX3_isLetter_12 : decode cX3_isLetter 12 = .ok (.iconst 1, 1) := by decide +kernel
theorem dX3_isLetter_13 : decode cX3_isLetter 13 = .ok (.goto 4, 3) := by decide +kernel
theorem dX3_isLetter_16 : decode cX3_isLetter 16 = .ok (.iconst 0, 1) := by decide +kernel
theorem dX3_isLetter_17 : decode cX3_isLetter 17 = .ok (.ireturn, 1) := by decide +kernel
theorem dX3_at_0 : decode cX3_at 0 = .ok (.iload_n 1, 1) := by decide +kernel
theorem dX3_at_1 : decode cX3_at 1 = .ok (.ifCond .lt 15, 3) := by decide +kernel
theorem dX3_at_4 : decode cX3_at 4 = .ok (.iload_n 1, 1) := by decide +kernel
theorem dX3_at_5 : decode cX3_at 5 = .ok (.aload_n 0, 1) := by decide +kernel
theorem dX3_at_6 : decode cX3_at 6 = .ok (.arraylength, 1) := by decide +kernel
theorem dX3_at_7 : decode cX3_at 7 = .ok (.if_icmp .ge 9, 3) := by decide +kernel
theorem dX3_at_10 : decode cX3_at 10 = .ok (.aload_n 0, 1) := by decide +kernel
theorem dX3_at_11 : decode cX3_at 11 = .ok (.iload_n 1, 1) := by decide +kernel
theorem dX3_at_12 : decode cX3_at 12 = .ok (.iaload, 1) := by decide +kernel
theorem dX3_at_13 : decode cX3_at 13 = .ok (.goto 4, 3) := by decide +kernel
theorem dX3_at_16 : decode cX3_at 16 = .ok (.iconst 0, 1) := by decide +kernel
theorem dX3_at_17 : decode cX3_at 17 = .ok (.ireturn, 1) := by decide +kernel
theorem dX3_put_0 : decode cX3_put 0 = .ok (.iload_n 1, 1) := by decide +kernel
theorem dX3_put_1 : decode cX3_put 1 = .ok (.ifCond .lt 13, 3) := by decide +kernel
theorem dX3_put_4 : decode cX3_put 4 = .ok (.iload_n 1, 1) := by decide +kernel
theorem dX3_put_5 : decode cX3_put 5 = .ok (.aload_n 0, 1) := by decide +kernel
theorem dX3_put_6 : decode cX3_put 6 = .ok (.arraylength, 1) := by decide +kernel
theorem dX3_put_7 : decode cX3_put 7 = .ok (.if_icmp .ge 7, 3) := by decide +kernel
theorem dX3_put_10 : decode cX3_put 10 = .ok (.aload_n 0, 1) := by decide +kernel
theorem dX3_put_11 : decode cX3_put 11 = .ok (.iload_n 1, 1) := by decide +kernel
theorem dX3_put_12 : decode cX3_put 12 = .ok (.iload_n 2, 1) := by decide +kernel
theorem dX3_put_13 : decode cX3_put 13 = .ok (.iastore, 1) := by decide +kernel
theorem dX3_put_14 : decode cX3_put 14 = .ok (.return_, 1) := by decide +kernel
theorem dX3_copyRow_0 : decode cX3_copyRow 0 = .ok (.aload_n 0, 1) := by decide +kernel
theorem dX3_copyRow_1 : decode cX3_copyRow 1 = .ok (.iconst 0, 1) := by decide +kernel
theorem dX3_copyRow_2 : decode cX3_copyRow 2 = .ok (.aload_n 1, 1) := by decide +kernel
theorem dX3_copyRow_3 : decode cX3_copyRow 3 = .ok (.iconst 0, 1) := by decide +kernel
theorem dX3_copyRow_4 : decode cX3_copyRow 4 = .ok (.aload_n 0, 1) := by decide +kernel
theorem dX3_copyRow_5 : decode cX3_copyRow 5 = .ok (.arraylength, 1) := by decide +kernel
theorem dX3_copyRow_6 : decode cX3_copyRow 6 = .ok (.aload_n 1, 1) := by decide +kernel
theorem dX3_copyRow_7 : decode cX3_copyRow 7 = .ok (.arraylength, 1) := by decide +kernel
theorem dX3_copyRow_8 : decode cX3_copyRow 8 = .ok (.invokestatic 250, 3) := by decide +kernel
theorem dX3_copyRow_11 : decode cX3_copyRow 11 = .ok (.invokestatic 255, 3) := by decide +kernel
theorem dX3_copyRow_14 : decode cX3_copyRow 14 = .ok (.return_, 1) := by decide +kernel
theorem dX3_limited_0 : decode cX3_limited 0 = .ok (.iload_n 1, 1) := by decide +kernel
theorem dX3_limited_1 : decode cX3_limited 1 = .ok (.iload_n 0, 1) := by decide +kernel
theorem dX3_limited_2 : decode cX3_limited 2 = .ok (.iload_n 2, 1) := by decide +kernel
theorem dX3_limited_3 : decode cX3_limited 3 = .ok (.invokestatic 250, 3) := by decide +kernel
theorem dX3_limited_6 : decode cX3_limited 6 = .ok (.invokestatic 261, 3) := by decide +kernel
theorem dX3_limited_9 : decode cX3_limited 9 = .ok (.ireturn, 1) := by decide +kernel
set_option maxRecDepth 20000 in
theorem ggX4_init_X4_layRows : GoodIn wsX4_init wsX4_layRows := goodIn_r _ [20, 21, 5, 11, 22, 23, 24, 25, 26, 27, 28, 29, 30, 31, 32, 33, 34, 35, 36, 37, 38, 39, 40] (by decide +kernel) (by decide +kernel)
set_option maxRecDepth 20000 in
theorem gX4_init_X4_layRows : GoodIn wsX4_init (wsV RX4 44 RX4 yX4_layRows wsX4_layRows) := goodIn_app (goodIn_of _ (by decide +kernel)) ggX4_init_X4_layRows
theorem dX4_init_0 : decode cX4_init 0 = .ok (.aload_n 0, 1) := by decide +kernel
theorem dX4_init_1 : decode cX4_init 1 = .ok (.invokespecial 1, 3) := by decide +kernel
theorem dX4_init_4 : decode cX4_init 4 = .ok (.aload_n 0, 1) := by decide +kernel
theorem dX4_init_5 : decode cX4_init 5 = .ok (.sipush 510, 3) := by decide +kernel
theorem dX4_init_8 : decode cX4_init 8 = .ok (.newarray .int, 2) := by decide +kernel
theorem dX4_init_10 : decode cX4_init 10 = .ok (.putfield 7, 3) := by decide +kernel
theorem dX4_init_13 : decode cX4_init 13 = .ok (.aload_n 0, 1) := by decide +kernel
theorem dX4_init_14 : decode cX4_init 14 = .ok (.sipush 4080, 3) := by decide +kernel
theorem dX4_init_17 : decode cX4_init 17 = .ok (.newarray .int, 2) := by decide +kernel
theorem dX4_init_19 : decode cX4_init 19 = .ok (.putfield 13, 3) := by decide +kernel
theorem dX4_init_22 : decode cX4_init 22 = .ok (.aload_n 0, 1) := by decide +kernel
theorem dX4_init_23 : decode cX4_init 23 = .ok (.sipush 1020, 3) := by decide +kernel
theorem dX4_init_26 : decode cX4_init 26 = .ok (.newarray .int, 2) := by decide +kernel
theorem dX4_init_28 : decode cX4_init 28 = .ok (.putfield 16, 3) := by decide +kernel
theorem dX4_init_31 : decode cX4_init 31 = .ok (.aload_n 0, 1) := by decide +kernel
theorem dX4_init_32 : decode cX4_init 32 = .ok (.sipush 140, 3) := by decide +kernel
theorem dX4_init_35 : decode cX4_init 35 = .ok (.newarray .int, 2) := by decide +kernel
theorem dX4_init_37 : decode cX4_init 37 = .ok (.putfield 19, 3) := by decide +kernel
theorem dX4_init_40 : decode cX4_init 40 = .ok (.aload_n 0, 1) := by decide +kernel
theorem dX4_init_41 : decode cX4_init 41 = .ok (.bipush (-9), 2) := by decide +kernel
theorem dX4_init_43 : decode cX4_init 43 = .ok (.putfield 22, 3) := by decide +kernel
theorem dX4_init_46 : decode cX4_init 46 = .ok (.aload_n 0, 1) := by decide +kernel
theorem dX4_init_47 : decode cX4_init 47 = .ok (.bipush (-9), 2) := by decide +kernel
theorem dX4_init_49 : decode cX4_init 49 = .ok (.putfield 26, 3) := by decide +kernel
theorem dX4_init_52 : decode cX4_init 52 = .ok (.aload_n 0, 1) := by decide +kernel
theorem dX4_init_53 : decode cX4_init 53 = .ok (.bipush 120, 2) := by decide +kernel
theorem dX4_init_55 : decode cX4_init 55 = .ok (.newarray .int, 2) := by decide +kernel
theorem dX4_init_57 : decode cX4_init 57 = .ok (.putfield 29, 3) := by decide +kernel
theorem dX4_init_60 : decode cX4_init 60 = .ok (.aload_n 0, 1) := by decide +kernel
theorem dX4_init_61 : decode cX4_init 61 = .ok (.bipush 120, 2) := by decide +kernel
theorem dX4_init_63 : decode cX4_init 63 = .ok (.newarray .int, 2) := by decide +kernel
theorem dX4_init_65 : decode cX4_init 65 = .ok (.putfield 32, 3) := by decide +kernel
theorem dX4_init_68 : decode cX4_init 68 = .ok (.aload_n 0, 1) := by decide +kernel
theorem dX4_init_69 : decode cX4_init 69 = .ok (.bipush 120, 2) := by decide +kernel
theorem dX4_init_71 : decode cX4_init 71 = .ok (.newarray .int, 2) := by decide +kernel
theorem dX4_init_73 : decode cX4_init 73 = .ok (.putfield 35, 3) := by decide +kernel
theorem dX4_init_76 : decode cX4_init 76 = .ok (.aload_n 0, 1) := by decide +kernel
theorem dX4_init_77 : decode cX4_init 77 = .ok (.bipush 120, 2) := by decide +kernel
theorem dX4_init_79 : decode cX4_init 79 = .ok (.newarray .int, 2) := by decide +kernel
theorem dX4_init_81 : decode cX4_init 81 = .ok (.putfield 38, 3) := by decide +kernel
theorem dX4_init_84 : decode cX4_init 84 = .ok (.aload_n 0, 1) := by decide +kernel
theorem dX4_init_85 : decode cX4_init 85 = .ok (.sipush 510, 3) := by decide +kernel
theorem dX4_init_88 : decode cX4_init 88 = .ok (.newarray .int, 2) := by decide +kernel
theorem dX4_init_90 : decode cX4_init 90 = .ok (.putfield 41, 3) := by decide +kernel
theorem dX4_init_93 : decode cX4_init 93 = .ok (.aload_n 0, 1) := by decide +kernel
theorem dX4_init_94 : decode cX4_init 94 = .ok (.getfield 7, 3) := by decide +kernel
theorem dX4_init_97 : decode cX4_init 97 = .ok (.iconst 0, 1) := by decide +kernel
theorem dX4_init_98 : decode cX4_init 98 = .ok (.iconst 5, 1) := by decide +kernel
theorem dX4_init_99 : decode cX4_init 99 = .ok (.iastore, 1) := by decide +kernel
theorem dX4_init_100 : decode cX4_init 100 = .ok (.aload_n 0, 1) := by decide +kernel
theorem dX4_init_101 : decode cX4_init 101 = .ok (.getfield 7, 3) := by decide +kernel
theorem dX4_init_104 : decode cX4_init 104 = .ok (.iconst 1, 1) := by decide +kernel
theorem dX4_init_105 : decode cX4_init 105 = .ok (.iconst 3, 1) := by decide +kernel
theorem dX4_init_106 : decode cX4_init 106 = .ok (.iastore, 1) := by decide +kernel
theorem dX4_init_107 : decode cX4_init 107 = .ok (.aload_n 0, 1) := by decide +kernel
theorem dX4_init_108 : decode cX4_init 108 = .ok (.getfield 7, 3) := by decide +kernel
theorem dX4_init_111 : decode cX4_init 111 = .ok (.iconst 2, 1) := by decide +kernel
theorem dX4_init_112 : decode cX4_init 112 = .ok (.iconst 1, 1) := by decide +kernel
theorem dX4_init_113 : decode cX4_init 113 = .ok (.iastore, 1) := by decide +kernel
theorem dX4_init_114 : decode cX4_init 114 = .ok (.aload_n 0, 1) := by decide +kernel
theorem dX4_init_115 : decode cX4_init 115 = .ok (.getfield 7, 3) := by decide +kernel
theorem dX4_init_118 : decode cX4_init 118 = .ok (.iconst 3, 1) := by decide +kernel
theorem dX4_init_119 : decode cX4_init 119 = .ok (.bipush 8, 2) := by decide +kernel
theorem dX4_init_121 : decode cX4_init 121 = .ok (.iastore, 1) := by decide +kernel
theorem dX4_init_122 : decode cX4_init 122 = .ok (.aload_n 0, 1) := by decide +kernel
theorem dX4_init_123 : decode cX4_init 123 = .ok (.getfield 7, 3) := by decide +kernel
theorem dX4_init_126 : decode cX4_init 126 = .ok (.iconst 4, 1) := by decide +kernel
theorem dX4_init_127 : decode cX4_init 127 = .ok (.bipush 15, 2) := by decide +kernel
theorem dX4_init_129 : decode cX4_init 129 = .ok (.iastore, 1) := by decide +kernel
theorem dX4_init_130 : decode cX4_init 130 = .ok (.aload_n 0, 1) := by decide +kernel
theorem dX4_init_131 : decode cX4_init 131 = .ok (.getfield 7, 3) := by decide +kernel
theorem dX4_init_134 : decode cX4_init 134 = .ok (.iconst 5, 1) := by decide +kernel
theorem dX4_init_135 : decode cX4_init 135 = .ok (.iconst 2, 1) := by decide +kernel
theorem dX4_init_136 : decode cX4_init 136 = .ok (.iastore, 1) := by decide +kernel
theorem dX4_init_137 : decode cX4_init 137 = .ok (.aload_n 0, 1) := by decide +kernel
theorem dX4_init_138 : decode cX4_init 138 = .ok (.getfield 7, 3) := by decide +kernel
theorem dX4_init_141 : decode cX4_init 141 = .ok (.bipush 6, 2) := by decide +kernel
theorem dX4_init_143 : decode cX4_init 143 = .ok (.bipush 20, 2) := by decide +kernel
theorem dX4_init_145 : decode cX4_init 145 = .ok (.iastore, 1) := by decide +kernel
theorem dX4_init_146 : decode cX4_init 146 = .ok (.aload_n 0, 1) := by decide +kernel
theorem dX4_init_147 : decode cX4_init 147 = .ok (.getfield 7, 3) := by decide +kernel
theorem dX4_init_150 : decode cX4_init 150 = .ok (.bipush 7, 2) := by decide +kernel
theorem dX4_init_152 : decode cX4_init 152 = .ok (.bipush 25, 2) := by decide +kernel
theorem dX4_init_154 : decode cX4_init 154 = .ok (.iastore, 1) := by decide +kernel
theorem dX4_init_155 : decode cX4_init 155 = .ok (.aload_n 0, 1) := by decide +kernel
theorem dX4_init_156 : decode cX4_init 156 = .ok (.getfield 7, 3) := by decide +kernel
theorem dX4_init_159 : decode cX4_init 159 = .ok (.bipush 8, 2) := by decide +kernel
theorem dX4_init_161 : decode cX4_init 161 = .ok (.iconst 2, 1) := by decide +kernel
theorem dX4_init_162 : decode cX4_init 162 = .ok (.iastore, 1) := by decide +kernel
theorem dX4_init_163 : decode cX4_init 163 = .ok (.aload_n 0, 1) := by decide +kernel
theorem dX4_init_164 : decode cX4_init 164 = .ok (.getfield 7, 3) := by decide +kernel
theorem dX4_init_167 : decode cX4_init 167 = .ok (.bipush 9, 2) := by decide +kernel
theorem dX4_init_169 : decode cX4_init 169 = .ok (.iconst 1, 1) := by decide +kernel
theorem dX4_init_170 : decode cX4_init 170 = .ok (.iastore, 1) := by decide +kernel
theorem dX4_init_171 : decode cX4_init 171 = .ok (.aload_n 0, 1) := by decide +kernel
theorem dX4_init_172 : decode cX4_init 172 = .ok (.getfield 7, 3) := by decide +kernel
theorem dX4_init_175 : decode cX4_init 175 = .ok (.sipush 150, 3) := by decide +kernel
theorem dX4_init_178 : decode cX4_init 178 = .ok (.bipush 97, 2) := by decide +kernel
theorem dX4_init_180 : decode cX4_init 180 = .ok (.iastore, 1) := by decide +kernel
theorem dX4_init_181 : decode cX4_init 181 = .ok (.aload_n 0, 1) := by decide +kernel
theorem dX4_init_182 : decode cX4_init 182 = .ok (.invokevirtual 44, 3) := by decide +kernel
theorem dX4_init_185 : decode cX4_init 185 = .ok (.return_, 1) := by decide +kernel
theorem dX4_isIn_0 : decode cX4_isIn 0 = .ok (.iload_n 0, 1) := by decide +kernel
theorem dX4_isIn_1 : decode cX4_isIn 1 = .ok (.iload_n 1, 1) := by decide +kernel
theorem dX4_isIn_2 : decode cX4_isIn 2 = .ok (.if_icmp .lt 12, 3) := by decide +kernel
theorem dX4_isIn_5 : decode cX4_isIn 5 = .ok (.iload_n 0, 1) := by decide +kernel
theorem dX4_isIn_6 : decode cX4_isIn 6 = .ok (.iload_n 2, 1) := by decide +kernel
theorem dX4_isIn_7 : decode cX4_isIn 7 = .ok (.if_icmp .gt 7, 3) := by decide +kernel
theorem dX4_isIn_10 : decode cX4_isIn 10 = .ok (.iconst 1, 1) := by decide +kernel
theorem dX4_isIn_11 : decode cX4_isIn 11 = .ok (.goto 4, 3) := by decide +kernel
theorem dX4_isIn_14 : decode cX4_isIn 14 = .ok (.iconst 0, 1) := by decide +kernel
theorem dX4_isIn_15 : decode cX4_isIn 15 = .ok (.ireturn, 1) := by decide +kernel
theorem dX4_remember_0 : decode cX4_remember 0 = .ok (.aload_n 0, 1) := by decide +kernel
theorem dX4_remember_1 : decode cX4_remember 1 = .ok (.getfield 47, 3) := by decide +kernel
theorem dX4_remember_4 : decode cX4_remember 4 = .ok (.bipush 8, 2) := by decide +kernel
theorem dX4_remember_6 : decode cX4_remember 6 = .ok (.if_icmp .ne 44, 3) := by decide +kernel
theorem dX4_remember_9 : decode cX4_remember 9 = .ok (.iconst 0, 1) := by decide +kernel
theorem dX4_remember_10 : decode cX4_remember 10 = .ok (.istore_n 1, 1) := by decide +kernel
theorem dX4_remember_11 : decode cX4_remember 11 = .ok (.iload_n 1, 1) := by decide +kernel
theorem dX4_remember_12 : decode cX4_remember 12 = .ok (.sipush 3570, 3) := by decide +kernel
theorem dX4_remember_15 : decode cX4_remember 15 = .ok (.if_icmp .ge 25, 3) := by decide +kernel
theorem dX4_remember_18 : decode cX4_remember 18 = .ok (.aload_n 0, 1) := by decide +kernel
theorem dX4_remember_19 : decode cX4_remember 19 = .ok (.getfield 13, 3) := by decide +kernel
theorem dX4_remember_22 : decode cX4_remember 22 = .ok (.iload_n 1, 1) := by decide +kernel
theorem dX4_remember_23 : decode cX4_remember 23 = .ok (.aload_n 0, 1) := by decide +kernel
theorem dX4_remember_24 : decode cX4_remember 24 = .ok (.getfield 13, 3) := by decide +kernel
theorem dX4_remember_27 : decode cX4_remember 27 = .ok (.iload_n 1, 1) := by decide +kernel
theorem dX4_remember_28 : decode cX4_remember 28 = .ok (.sipush 510, 3) := by decide +kernel
theorem dX4_remember_31 : decode cX4_remember 31 = .ok (.iadd, 1) := by decide +kernel
theorem dX4_remember_32 : decode cX4_remember 32 = .ok (.iaload, 1) := by decide +kernel
theorem dX4_remember_33 : decode cX4_remember 33 = .ok (.iastore, 1) := by decide +kernel
theorem dX4_remember_34 : decode cX4_remember 34 = .ok (.iinc 1 1, 3) := by decide +kernel
theorem dX4_remember_37 : decode cX4_remember 37 = .ok (.goto (-26), 3) := by decide +kernel
theorem dX4_remember_40 : decode cX4_remember 40 = .ok (.aload_n 0, 1) := by decide +kernel
theorem dX4_remember_41 : decode cX4_remember 41 = .ok (.dup, 1) := by decide +kernel
theorem dX4_remember_42 : decode cX4_remember 42 = .ok (.getfield 47, 3) := by decide +kernel
theorem dX4_remember_45 : decode cX4_remember 45 = .ok (.iconst 1, 1) := by decide +kernel
theorem dX4_remember_46 : decode cX4_remember 46 = .ok (.isub, 1) := by decide +kernel
theorem dX4_remember_47 : decode cX4_remember 47 = .ok (.putfield 47, 3) := by decide +kernel
theorem dX4_remember_50 : decode cX4_remember 50 = .ok (.iconst 0, 1) := by decide +kernel
theorem dX4_remember_51 : decode cX4_remember 51 = .ok (.istore_n 1, 1) := by decide +kernel
theorem dX4_remember_52 : decode cX4_remember 52 = .ok (.iload_n 1, 1) := by decide +kernel
theorem dX4_remember_53 : decode cX4_remember 53 = .ok (.sipush 510, 3) := by decide +kernel
theorem dX4_remember_56 : decode cX4_remember 56 = .ok (.if_icmp .ge 30, 3) := by decide +kernel
theorem dX4_remember_59 : decode cX4_remember 59 = .ok (.aload_n 0, 1) := by decide +kernel
theorem dX4_remember_60 : decode cX4_remember 60 = .ok (.getfield 13, 3) := by decide +kernel
theorem dX4_remember_63 : decode cX4_remember 63 = .ok (.sipush 510, 3) := by decide +kernel
theorem dX4_remember_66 : decode cX4_remember 66 = .ok (.aload_n 0, 1) := by decide +kernel
theorem dX4_remember_67 : decode cX4_remember 67 = .ok (.getfield 47, 3) := by decide +kernel
theorem dX4_remember_70 : decode cX4_remember 70 = .ok (.imul, 1) := by decide +kernel
theorem dX4_remember_71 : decode cX4_remember 71 = .ok (.iload_n 1, 1) := by decide +kernel
theorem dX4_remember_72 : decode cX4_remember 72 = .ok (.iadd, 1) := by decide +kernel
theorem dX4_remember_73 : decode cX4_remember 73 = .ok (.aload_n 0, 1) := by decide +kernel
theorem dX4_remember_74 : decode cX4_remember 74 = .ok (.getfield 7, 3) := by decide +kernel
theorem dX4_remember_77 : decode cX4_remember 77 = .ok (.iload_n 1, 1) := by decide +kernel
theorem dX4_remember_78 : decode cX4_remember 78 = .ok (.iaload, 1) := by decide +kernel
theorem dX4_remember_79 : decode cX4_remember 79 = .ok (.iastore, 1) := by decide +kernel
theorem dX4_remember_80 : decode cX4_remember 80 = .ok (.iinc 1 1, 3) := by decide +kernel
theorem dX4_remember_83 : decode cX4_remember 83 = .ok (.goto (-31), 3) := by decide +kernel
theorem dX4_remember_86 : decode cX4_remember 86 = .ok (.aload_n 0, 1) := by decide +kernel
theorem dX4_remember_87 : decode cX4_remember 87 = .ok (.dup, 1) := by decide +kernel
theorem dX4_remember_88 : decode cX4_remember 88 = .ok (.getfield 47, 3) := by decide +kernel
theorem dX4_remember_91 : decode cX4_remember 91 = .ok (.iconst 1, 1) := by decide +kernel
theorem dX4_remember_92 : decode cX4_remember 92 = .ok (.iadd, 1) := by decide +kernel
theorem dX4_remember_93 : decode cX4_remember 93 = .ok (.putfield 47, 3) := by decide +kernel
theorem dX4_remember_96 : decode cX4_remember 96 = .ok (.return_, 1) := by decide +kernel
theorem dX4_layRows_0 : decode cX4_layRows 0 = .ok (.aload_n 0, 1) := by decide +kernel
theorem dX4_layRows_1 : decode cX4_layRows 1 = .ok (.iconst 0, 1) := by decide +kernel
theorem dX4_layRows_2 : decode cX4_layRows 2 = .ok (.putfield 50, 3) := by decide +kernel
theorem dX4_layRows_5 : decode cX4_layRows 5 = .ok (.iconst 0, 1) := by decide +kernel
theorem dX4_layRows_6 : decode cX4_layRows 6 = .ok (.istore_n 1, 1) := by decide +kernel
theorem dX4_layRows_7 : decode cX4_layRows 7 = .ok (.iconst 0, 1) := by decide +kernel
theorem dX4_layRows_8 : decode cX4_layRows 8 = .ok (.istore_n 2, 1) := by decide +kernel
theorem dX4_layRows_9 : decode cX4_layRows 9 = .ok (.iload_n 2, 1) := by decide +kernel
theorem dX4_layRows_10 : decode cX4_layRows 10 = .ok (.aload_n 0, 1) := by decide +kernel
theorem dX4_layRows_11 : decode cX4_layRows 11 = .ok (.getfield 7, 3) := by decide +kernel
theorem dX4_layRows_14 : decode cX4_layRows 14 = .ok (.bipush 9, 2) := by decide +kernel
theorem dX4_layRows_16 : decode cX4_layRows 16 = .ok (.iaload, 1) := by decide +kernel
theorem dX4_layRows_17 : decode cX4_layRows 17 = .ok (.if_icmp .ge 96, 3) := by decide +kernel
theorem dX4_layRows_20 : decode cX4_layRows 20 = .ok (.iload_n 2, 1) := by decide +kernel
theorem dX4_layRows_21 : decode cX4_layRows 21 = .ok (.ifCond .eq 38, 3) := by decide +kernel
theorem dX4_layRows_24 : decode cX4_layRows 24 = .ok (.aload_n 0, 1) := by decide +kernel
theorem dX4_layRows_25 : decode cX4_layRows 25 = .ok (.getfield 7, 3) := by decide +kernel
theorem dX4_layRows_28 : decode cX4_layRows 28 = .ok (.sipush 390, 3) := by decide +kernel
theorem dX4_layRows_31 : decode cX4_layRows 31 = .ok (.iload_n 2, 1) := by decide +kernel
theorem dX4_layRows_32 : decode cX4_layRows 32 = .ok (.iadd, 1) := by decide +kernel
theorem dX4_layRows_33 : decode cX4_layRows 33 = .ok (.iaload, 1) := by decide +kernel
theorem dX4_layRows_34 : decode cX4_layRows 34 = .ok (.aload_n 0, 1) := by decide +kernel
theorem dX4_layRows_35 : decode cX4_layRows 35 = .ok (.getfield 7, 3) := by decide +kernel
theorem dX4_layRows_38 : decode cX4_layRows 38 = .ok (.sipush 390, 3) := by decide +kernel
theorem dX4_layRows_41 : decode cX4_layRows 41 = .ok (.iload_n 2, 1) := by decide +kernel
theorem dX4_layRows_42 : decode cX4_layRows 42 = .ok (.iadd, 1) := by decide +kernel
theorem dX4_layRows_43 : decode cX4_layRows 43 = .ok (.iconst 1, 1) := by decide +kernel
theorem dX4_layRows_44 : decode cX4_layRows 44 = .ok (.isub, 1) := by decide +kernel
theorem dX4_layRows_45 : decode cX4_layRows 45 = .ok (.iaload, 1) := by decide +kernel
theorem dX4_layRows_46 : decode cX4_layRows 46 = .ok (.if_icmp .ne 13, 3) := by decide +kernel
theorem dX4_layRows_49 : decode cX4_layRows 49 = .ok (.iload_n 1, 1) := by decide +kernel
theorem dX4_layRows_50 : decode cX4_layRows 50 = .ok (.aload_n 0, 1) := by decide +kernel
theorem dX4_layRows_51 : decode cX4_layRows 51 = .ok (.getfield 7, 3) := by decide +kernel
theorem dX4_layRows_54 : decode cX4_layRows 54 = .ok (.iconst 0, 1) := by decide +kernel
theorem dX4_layRows_55 : decode cX4_layRows 55 = .ok (.iaload, 1) := by decide +kernel
theorem dX4_layRows_56 : decode cX4_layRows 56 = .ok (.if_icmp .ne 7, 3) := by decide +kernel
theorem dX4_layRows_59 : decode cX4_layRows 59 = .ok (.iconst 1, 1) := by decide +kernel
theorem dX4_layRows_60 : decode cX4_layRows 60 = .ok (.goto 4, 3) := by decide +kernel
theorem dX4_layRows_63 : decode cX4_layRows 63 = .ok (.iconst 0, 1) := by decide +kernel
theorem dX4_layRows_64 : decode cX4_layRows 64 = .ok (.istore_n 3, 1) := by decide +kernel
theorem dX4_layRows_65 : decode cX4_layRows 65 = .ok (.aload_n 0, 1) := by decide +kernel
theorem dX4_layRows_66 : decode cX4_layRows 66 = .ok (.dup, 1) := by decide +kernel
theorem dX4_layRows_67 : decode cX4_layRows 67 = .ok (.getfield 50, 3) := by decide +kernel
theorem dX4_layRows_70 : decode cX4_layRows 70 = .ok (.iload_n 3, 1) := by decide +kernel
theorem dX4_layRows_71 : decode cX4_layRows 71 = .ok (.ifCond .eq 7, 3) := by decide +kernel
theorem dX4_layRows_74 : decode cX4_layRows 74 = .ok (.iconst 1, 1) := by decide +kernel
theorem dX4_layRows_75 : decode cX4_layRows 75 = .ok (.goto 4, 3) := by decide +kernel
theorem dX4_layRows_78 : decode cX4_layRows 78 = .ok (.iconst 0, 1) := by decide +kernel
theorem dX4_layRows_79 : decode cX4_layRows 79 = .ok (.iadd, 1) := by decide +kernel
theorem dX4_layRows_80 : decode cX4_layRows 80 = .ok (.putfield 50, 3) := by decide +kernel
theorem dX4_layRows_83 : decode cX4_layRows 83 = .ok (.iload_n 3, 1) := by decide +kernel
theorem dX4_layRows_84 : decode cX4_layRows 84 = .ok (.ifCond .eq 7, 3) := by decide +kernel
theorem dX4_layRows_87 : decode cX4_layRows 87 = .ok (.iconst 1, 1) := by decide +kernel
theorem dX4_layRows_88 : decode cX4_layRows 88 = .ok (.goto 6, 3) := by decide +kernel
theorem dX4_layRows_91 : decode cX4_layRows 91 = .ok (.iload_n 1, 1) := by decide +kernel
theorem dX4_layRows_92 : decode cX4_layRows 92 = .ok (.iconst 1, 1) := by decide +kernel
theorem dX4_layRows_93 : decode cX4_layRows 93 = .ok (.iadd, 1) := by decide +kernel
theorem dX4_layRows_94 : decode cX4_layRows 94 = .ok (.istore_n 1, 1) := by decide +kernel
theorem dX4_layRows_95 : decode cX4_layRows 95 = .ok (.aload_n 0, 1) := by decide +kernel
theorem dX4_layRows_96 : decode cX4_layRows 96 = .ok (.getfield 29, 3) := by decide +kernel
theorem dX4_layRows_99 : decode cX4_layRows 99 = .ok (.iload_n 2, 1) := by decide +kernel
theorem dX4_layRows_100 : decode cX4_layRows 100 = .ok (.aload_n 0, 1) := by decide +kernel
theorem dX4_layRows_101 : decode cX4_layRows 101 = .ok (.getfield 50, 3) := by decide +kernel
theorem dX4_layRows_104 : decode cX4_layRows 104 = .ok (.iconst 1, 1) := by decide +kernel
theorem dX4_layRows_105 : decode cX4_layRows 105 = .ok (.isub, 1) := by decide +kernel
theorem dX4_layRows_106 : decode cX4_layRows 106 = .ok (.iastore, 1) := by decide +kernel
theorem dX4_layRows_107 : decode cX4_layRows 107 = .ok (.iinc 2 1, 3) := by decide +kernel
theorem dX4_layRows_110 : decode cX4_layRows 110 = .ok (.goto (-101), 3) := by decide +kernel
theorem dX4_layRows_113 : decode cX4_layRows 113 = .ok (.return_, 1) := by decide +kernel
theorem dX4_greatestTop_0 : decode cX4_greatestTop 0 = .ok (.aload_n 0, 1) := by decide +kernel
theorem dX4_greatestTop_1 : decode cX4_greatestTop 1 = .ok (.getfield 50, 3) := by decide +kernel
theorem dX4_greatestTop_4 : decode cX4_greatestTop 4 = .ok (.aload_n 0, 1) := by decide +kernel
theorem dX4_greatestTop_5 : decode cX4_greatestTop 5 = .ok (.getfield 7, 3) := by decide +kernel
theorem dX4_greatestTop_8 : decode cX4_greatestTop 8 = .ok (.iconst 1, 1) := by decide +kernel
theorem dX4_greatestTop_9 : decode cX4_greatestTop 9 = .ok (.iaload, 1) := by decide +kernel
theorem dX4_greatestTop_10 : decode cX4_greatestTop 10 = .ok (.if_icmp .ge 7, 3) := by decide +kernel
theorem dX4_greatestTop_13 : decode cX4_greatestTop 13 = .ok (.iconst 0, 1) := by decide +kernel
theorem dX4_greatestTop_14 : decode cX4_greatestTop 14 = .ok (.goto 17, 3) := by decide +kernel
theorem dX4_greatestTop_17 : decode cX4_greatestTop 17 = .ok (.bipush 100, 2) := by decide +kernel
theorem dX4_greatestTop_19 : decode cX4_greatestTop 19 = .ok (.aload_n 0, 1) := by decide +kernel
theorem dX4_greatestTop_20 : decode cX4_greatestTop 20 = .ok (.getfield 50, 3) := by decide +kernel
theorem dX4_greatestTop_23 : decode cX4_greatestTop 23 = .ok (.aload_n 0, 1) := by decide +kernel
theorem dX4_greatestTop_24 : decode cX4_greatestTop 24 = .ok (.getfield 7, 3) := by decide +kernel
theorem dX4_greatestTop_27 : decode cX4_greatestTop 27 = .ok (.iconst 1, 1) := by decide +kernel
theorem dX4_greatestTop_28 : decode cX4_greatestTop 28 = .ok (.iaload, 1) := by decide +kernel
theorem dX4_greatestTop_29 : decode cX4_greatestTop 29 = .ok (.isub, 1) := by decide +kernel
theorem dX4_greatestTop_30 : decode cX4_greatestTop 30 = .ok (.imul, 1) := by decide +kernel
theorem dX4_greatestTop_31 : decode cX4_greatestTop 31 = .ok (.ireturn, 1) := by decide +kernel
set_option maxRecDepth 20000 in
theorem ggX4_limited_X4_greatestTop : GoodIn wsX4_limited wsX4_greatestTop := goodIn_r _ [5, 6, 7, 8, 9, 10, 11, 12, 13, 14, 15, 16, 17, 18, 19, 20, 21, 22, 23, 24, 25, 26] (by decide +kernel) (by decide +kernel)
set_option maxRecDepth 20000 in
theorem gX4_limited_X4_greatestTop : GoodIn wsX4_limited (wsV RX4 53 RX4 yX4_greatestTop wsX4_greatestTop) := goodIn_app (goodIn_of _ (by decide +kernel)) ggX4_limited_X4_greatestTop
theorem dX4_limited_0 : decode cX4_limited 0 = .ok (.iload_n 1, 1) := by decide +kernel
theorem dX4_limited_1 : decode cX4_limited 1 = .ok (.ifCond .ge 7, 3) := by decide +kernel
theorem dX4_limited_4 : decode cX4_limited 4 = .ok (.iconst 0, 1) := by decide +kernel
theorem dX4_limited_5 : decode cX4_limited 5 = .ok (.goto 19, 3) := by decide +kernel
theorem dX4_limited_8 : decode cX4_limited 8 = .ok (.iload_n 1, 1) := by decide +kernel
theorem dX4_limited_9 : decode cX4_limited 9 = .ok (.aload_n 0, 1) := by decide +kernel
theorem dX4_limited_10 : decode cX4_limited 10 = .ok (.invokevirtual 53, 3) := by decide +kernel
theorem dX4_limited_13 : decode cX4_limited 13 = .ok (.if_icmp .le 10, 3) := by decide +kernel
theorem dX4_limited_16 : decode cX4_limited 16 = .ok (.aload_n 0, 1) := by decide +kernel
theorem dX4_limited_17 : decode cX4_limited 17 = .ok (.invokevirtual 53, 3) := by decide +kernel
theorem dX4_limited_20 : decode cX4_limited 20 = .ok (.goto 4, 3) := by decide +kernel
theorem dX4_limited_23 : decode cX4_limited 23 = .ok (.iload_n 1, 1) := by decide +kernel
theorem dX4_limited_24 : decode cX4_limited 24 = .ok (.ireturn, 1) := by decide +kernel
set_option maxRecDepth 20000 in
theorem ggX4_isWord_X4_isIn : GoodIn wsX4_isWord wsX4_isIn := goodIn_r _ [5] (by decide +kernel) (by decide +kernel)
set_option maxRecDepth 20000 in
theorem gX4_isWord_X4_isIn : GoodIn wsX4_isWord (va_wsS RX4 57 yX4_isIn wsX4_isIn) := goodIn_app (goodIn_of _ (by decide +kernel)) ggX4_isWord_X4_isIn
theorem dX4_isWord_0 : decode cX4_isWord 0 = .ok (.iload_n 1, 1) := by decide +kernel
theorem dX4_isWord_1 : decode cX4_isWord 1 = .ok (.iconst 0, 1) := by decide +kernel
theorem dX4_isWord_2 : decode cX4_isWord 2 = .ok (.aload_n 0, 1) := by decide +kernel
theorem dX4_isWord_3 : decode cX4_isWord 3 = .ok (.getfield 7, 3) := by decide +kernel
theorem dX4_isWord_6 : decode cX4_isWord 6 = .ok (.bipush 9, 2) := by decide +kernel
theorem dX4_isWord_8 : decode cX4_isWord 8 = .ok (.iaload, 1) := by decide +kernel
theorem dX4_isWord_9 : decode cX4_isWord 9 = .ok (.iconst 1, 1) := by decide +kernel
theorem dX4_isWord_10 : decode cX4_isWord 10 = .ok (.isub, 1) := by decide +kernel
theorem dX4_isWord_11 : decode cX4_isWord 11 = .ok (.invokestatic 57, 3) := by decide +kernel
theorem dX4_isWord_14 : decode cX4_isWord 14 = .ok (.ireturn, 1) := by decide +kernel
set_option maxRecDepth 20000 in
theorem ggX4_isLetter_X4_isIn : GoodIn wsX4_isLetter wsX4_isIn := goodIn_r _ [4] (by decide +kernel) (by decide +kernel)
set_option maxRecDepth 20000 in
theorem gX4_isLetter_X4_isIn : GoodIn wsX4_isLetter (va_wsS RX4 57 yX4_isIn wsX4_isIn) := goodIn_app (goodIn_of _ (by decide +kernel)) ggX4_isLetter_X4_isIn
theorem dX4_isLetter_0 : decode cX4_isLetter 0 = .ok (.iload_n 0, 1) := by decide +kernel
theorem dX4_isLetter_1 : decode cX4_isLetter 1 = .ok (.bipush 97, 2) := by decide +kernel
theorem dX4_isLetter_3 : decode cX4_isLetter 3 = .ok (.bipush 122, 2) := by decide +kernel
theorem dX4_isLetter_5 : decode cX4_isLetter 5 = .ok (.invokestatic 57, 3) := by decide +kernel
theorem dX4_isLetter_8 : decode cX4_isLetter 8 = .ok (.ireturn, 1) := by decide +kernel
theorem dX4_scoreOf_0 : decode cX4_scoreOf 0 = .ok (.iconst 1, 1) := by decide +kernel
theorem dX4_scoreOf_1 : decode cX4_scoreOf 1 = .ok (.istore_n 2, 1) := by decide +kernel
theorem dX4_scoreOf_2 : decode cX4_scoreOf 2 = .ok (.iload_n 2, 1) := by decide +kernel
theorem dX4_scoreOf_3 : decode cX4_scoreOf 3 = .ok (.iconst 3, 1) := by decide +kernel
theorem dX4_scoreOf_4 : decode cX4_scoreOf 4 = .ok (.if_icmp .gt 52, 3) := by decide +kernel
theorem dX4_scoreOf_7 : decode cX4_scoreOf 7 = .ok (.iload_n 2, 1) := by decide +kernel
theorem dX4_scoreOf_8 : decode cX4_scoreOf 8 = .ok (.aload_n 0, 1) := by decide +kernel
theorem dX4_scoreOf_9 : decode cX4_scoreOf 9 = .ok (.getfield 7, 3) := by decide +kernel
theorem dX4_scoreOf_12 : decode cX4_scoreOf 12 = .ok (.bipush 20, 2) := by decide +kernel
theorem dX4_scoreOf_14 : decode cX4_scoreOf 14 = .ok (.iaload, 1) := by decide +kernel
theorem dX4_scoreOf_15 : decode cX4_scoreOf 15 = .ok (.if_icmp .gt 41, 3) := by decide +kernel
theorem dX4_scoreOf_18 : decode cX4_scoreOf 18 = .ok (.iload_n 1, 1) := by decide +kernel
theorem dX4_scoreOf_19 : decode cX4_scoreOf 19 = .ok (.iload_n 2, 1) := by decide +kernel
theorem dX4_scoreOf_20 : decode cX4_scoreOf 20 = .ok (.isub, 1) := by decide +kernel
theorem dX4_scoreOf_21 : decode cX4_scoreOf 21 = .ok (.ifCond .lt 35, 3) := by decide +kernel
theorem dX4_scoreOf_24 : decode cX4_scoreOf 24 = .ok (.aload_n 0, 1) := by decide +kernel
theorem dX4_scoreOf_25 : decode cX4_scoreOf 25 = .ok (.getfield 7, 3) := by decide +kernel
theorem dX4_scoreOf_28 : decode cX4_scoreOf 28 = .ok (.sipush 150, 3) := by decide +kernel
theorem dX4_scoreOf_31 : decode cX4_scoreOf 31 = .ok (.iload_n 1, 1) := by decide +kernel
theorem dX4_scoreOf_32 : decode cX4_scoreOf 32 = .ok (.iadd, 1) := by decide +kernel
theorem dX4_scoreOf_33 : decode cX4_scoreOf 33 = .ok (.iload_n 2, 1) := by decide +kernel
theorem dX4_scoreOf_34 : decode cX4_scoreOf 34 = .ok (.isub, 1) := by decide +kernel
theorem dX4_scoreOf_35 : decode cX4_scoreOf 35 = .ok (.iaload, 1) := by decide +kernel
theorem dX4_scoreOf_36 : decode cX4_scoreOf 36 = .ok (.aload_n 0, 1) := by decide +kernel
theorem dX4_scoreOf_37 : decode cX4_scoreOf 37 = .ok (.getfield 7, 3) := by decide +kernel
theorem dX4_scoreOf_40 : decode cX4_scoreOf 40 = .ok (.bipush 21, 2) := by decide +kernel
theorem dX4_scoreOf_42 : decode cX4_scoreOf 42 = .ok (.iload_n 2, 1) := by decide +kernel
theorem dX4_scoreOf_43 : decode cX4_scoreOf 43 = .ok (.iadd, 1) := by decide +kernel
theorem dX4_scoreOf_44 : decode cX4_scoreOf 44 = .ok (.iconst 1, 1) := by decide +kernel
theorem dX4_scoreOf_45 : decode cX4_scoreOf 45 = .ok (.isub, 1) := by decide +kernel
theorem dX4_scoreOf_46 : decode cX4_scoreOf 46 = .ok (.iaload, 1) := by decide +kernel
theorem dX4_scoreOf_47 : decode cX4_scoreOf 47 = .ok (.if_icmp .ne 9, 3) := by decide +kernel
theorem dX4_scoreOf_50 : decode cX4_scoreOf 50 = .ok (.iinc 2 1, 3) := by decide +kernel
theorem dX4_scoreOf_53 : decode cX4_scoreOf 53 = .ok (.goto (-51), 3) := by decide +kernel
theorem dX4_scoreOf_56 : decode cX4_scoreOf 56 = .ok (.iload_n 2, 1) := by decide +kernel
theorem dX4_scoreOf_57 : decode cX4_scoreOf 57 = .ok (.ireturn, 1) := by decide +kernel
set_option maxRecDepth 20000 in
theorem ggX4_bestOf_X4_isIn : GoodIn wsX4_bestOf wsX4_isIn := goodIn_r _ [5] (by decide +kernel) (by decide +kernel)
set_option maxRecDepth 20000 in
theorem gX4_bestOf_X4_isIn : GoodIn wsX4_bestOf (va_wsS RX4 57 yX4_isIn wsX4_isIn) := goodIn_app (goodIn_of _ (by decide +kernel)) ggX4_bestOf_X4_isIn
set_option maxRecDepth 20000 in
theorem ggX4_bestOf_X4_scoreOf : GoodIn wsX4_bestOf wsX4_scoreOf := goodIn_r _ [9, 1, 14, 15, 16, 17, 18, 19, 20, 21, 22, 23, 24, 25, 26, 27, 28, 29, 30, 31, 32] (by decide +kernel) (by decide +kernel)
set_option maxRecDepth 20000 in
theorem gX4_bestOf_X4_scoreOf : GoodIn wsX4_bestOf (wsV RX4 61 RX4 yX4_scoreOf wsX4_scoreOf) := goodIn_app (goodIn_of _ (by decide +kernel)) ggX4_bestOf_X4_scoreOf
set_option maxRecDepth 20000 in
theorem ggX4_bestOf_X4_far : GoodIn wsX4_bestOf wsX4_far := goodIn_r _ [13, 1, 14, 15, 16, 17, 18, 19, 20, 21, 22, 23, 24, 25, 26, 27, 28, 29, 30, 31, 32] (by decide +kernel) (by decide +kernel)
set_option maxRecDepth 20000 in
theorem gX4_bestOf_X4_far : GoodIn wsX4_bestOf (wsV RX4 65 RX4 yX4_far wsX4_far) := goodIn_app (goodIn_of _ (by decide +kernel)) ggX4_bestOf_X4_far
theorem dX4_bestOf_0 : decode cX4_bestOf 0 = .ok (.bipush (-9), 2) := by decide +kernel
theorem dX4_bestOf_2 : decode cX4_bestOf 2 = .ok (.istore_n 2, 1) := by decide +kernel
theorem dX4_bestOf_3 : decode cX4_bestOf 3 = .ok (.iconst 0, 1) := by decide +kernel
theorem dX4_bestOf_4 : decode cX4_bestOf 4 = .ok (.istore_n 3, 1) := by decide +kernel
theorem dX4_bestOf_5 : decode cX4_bestOf 5 = .ok (.iload_n 3, 1) := by decide +kernel
theorem dX4_bestOf_6 : decode cX4_bestOf 6 = .ok (.aload_n 0, 1) := by decide +kernel
theorem dX4_bestOf_7 : decode cX4_bestOf 7 = .ok (.getfield 7, 3) := by decide +kernel
theorem dX4_bestOf_10 : decode cX4_bestOf 10 = .ok (.bipush 9, 2) := by decide +kernel
theorem dX4_bestOf_12 : decode cX4_bestOf 12 = .ok (.iaload, 1) := by decide +kernel
theorem dX4_bestOf_13 : decode cX4_bestOf 13 = .ok (.if_icmp .ge 114, 3) := by decide +kernel
theorem dX4_bestOf_16 : decode cX4_bestOf 16 = .ok (.aload_n 0, 1) := by decide +kernel
theorem dX4_bestOf_17 : decode cX4_bestOf 17 = .ok (.getfield 7, 3) := by decide +kernel
theorem dX4_bestOf_20 : decode cX4_bestOf 20 = .ok (.sipush 150, 3) := by decide +kernel
theorem dX4_bestOf_23 : decode cX4_bestOf 23 = .ok (.iload_n 3, 1) := by decide +kernel
theorem dX4_bestOf_24 : decode cX4_bestOf 24 = .ok (.iadd, 1) := by decide +kernel
theorem dX4_bestOf_25 : decode cX4_bestOf 25 = .ok (.iaload, 1) := by decide +kernel
theorem dX4_bestOf_26 : decode cX4_bestOf 26 = .ok (.iload_n 1, 1) := by decide +kernel
theorem dX4_bestOf_27 : decode cX4_bestOf 27 = .ok (.if_icmp .ne 94, 3) := by decide +kernel
theorem dX4_bestOf_30 : decode cX4_bestOf 30 = .ok (.iload_n 3, 1) := by decide +kernel
theorem dX4_bestOf_31 : decode cX4_bestOf 31 = .ok (.aload_n 0, 1) := by decide +kernel
theorem dX4_bestOf_32 : decode cX4_bestOf 32 = .ok (.getfield 7, 3) := by decide +kernel
theorem dX4_bestOf_35 : decode cX4_bestOf 35 = .ok (.bipush 11, 2) := by decide +kernel
theorem dX4_bestOf_37 : decode cX4_bestOf 37 = .ok (.iaload, 1) := by decide +kernel
theorem dX4_bestOf_38 : decode cX4_bestOf 38 = .ok (.isub, 1) := by decide +kernel
theorem dX4_bestOf_39 : decode cX4_bestOf 39 = .ok (.aload_n 0, 1) := by decide +kernel
theorem dX4_bestOf_40 : decode cX4_bestOf 40 = .ok (.getfield 7, 3) := by decide +kernel
theorem dX4_bestOf_43 : decode cX4_bestOf 43 = .ok (.iconst 3, 1) := by decide +kernel
theorem dX4_bestOf_44 : decode cX4_bestOf 44 = .ok (.iaload, 1) := by decide +kernel
theorem dX4_bestOf_45 : decode cX4_bestOf 45 = .ok (.ineg, 1) := by decide +kernel
theorem dX4_bestOf_46 : decode cX4_bestOf 46 = .ok (.aload_n 0, 1) := by decide +kernel
theorem dX4_bestOf_47 : decode cX4_bestOf 47 = .ok (.getfield 7, 3) := by decide +kernel
theorem dX4_bestOf_50 : decode cX4_bestOf 50 = .ok (.iconst 4, 1) := by decide +kernel
theorem dX4_bestOf_51 : decode cX4_bestOf 51 = .ok (.iaload, 1) := by decide +kernel
theorem dX4_bestOf_52 : decode cX4_bestOf 52 = .ok (.invokestatic 57, 3) := by decide +kernel
theorem dX4_bestOf_55 : decode cX4_bestOf 55 = .ok (.ifCond .eq 66, 3) := by decide +kernel
theorem dX4_bestOf_58 : decode cX4_bestOf 58 = .ok (.iload_n 2, 1) := by decide +kernel
theorem dX4_bestOf_59 : decode cX4_bestOf 59 = .ok (.bipush (-9), 2) := by decide +kernel
theorem dX4_bestOf_61 : decode cX4_bestOf 61 = .ok (.if_icmp .eq 42, 3) := by decide +kernel
theorem dX4_bestOf_64 : decode cX4_bestOf 64 = .ok (.aload_n 0, 1) := by decide +kernel
theorem dX4_bestOf_65 : decode cX4_bestOf 65 = .ok (.iload_n 3, 1) := by decide +kernel
theorem dX4_bestOf_66 : decode cX4_bestOf 66 = .ok (.invokevirtual 61, 3) := by decide +kernel
theorem dX4_bestOf_69 : decode cX4_bestOf 69 = .ok (.aload_n 0, 1) := by decide +kernel
theorem dX4_bestOf_70 : decode cX4_bestOf 70 = .ok (.iload_n 2, 1) := by decide +kernel
theorem dX4_bestOf_71 : decode cX4_bestOf 71 = .ok (.invokevirtual 61, 3) := by decide +kernel
theorem dX4_bestOf_74 : decode cX4_bestOf 74 = .ok (.if_icmp .gt 29, 3) := by decide +kernel
theorem dX4_bestOf_77 : decode cX4_bestOf 77 = .ok (.aload_n 0, 1) := by decide +kernel
theorem dX4_bestOf_78 : decode cX4_bestOf 78 = .ok (.iload_n 3, 1) := by decide +kernel
theorem dX4_bestOf_79 : decode cX4_bestOf 79 = .ok (.invokevirtual 61, 3) := by decide +kernel
theorem dX4_bestOf_82 : decode cX4_bestOf 82 = .ok (.aload_n 0, 1) := by decide +kernel
theorem dX4_bestOf_83 : decode cX4_bestOf 83 = .ok (.iload_n 2, 1) := by decide +kernel
theorem dX4_bestOf_84 : decode cX4_bestOf 84 = .ok (.invokevirtual 61, 3) := by decide +kernel
theorem dX4_bestOf_87 : decode cX4_bestOf 87 = .ok (.if_icmp .ne 20, 3) := by decide +kernel
theorem dX4_bestOf_90 : decode cX4_bestOf 90 = .ok (.aload_n 0, 1) := by decide +kernel
theorem dX4_bestOf_91 : decode cX4_bestOf 91 = .ok (.iload_n 3, 1) := by decide +kernel
theorem dX4_bestOf_92 : decode cX4_bestOf 92 = .ok (.invokevirtual 65, 3) := by decide +kernel
theorem dX4_bestOf_95 : decode cX4_bestOf 95 = .ok (.aload_n 0, 1) := by decide +kernel
theorem dX4_bestOf_96 : decode cX4_bestOf 96 = .ok (.iload_n 2, 1) := by decide +kernel
theorem dX4_bestOf_97 : decode cX4_bestOf 97 = .ok (.invokevirtual 65, 3) := by decide +kernel
theorem dX4_bestOf_100 : decode cX4_bestOf 100 = .ok (.if_icmp .ge 7, 3) := by decide +kernel
theorem dX4_bestOf_103 : decode cX4_bestOf 103 = .ok (.iconst 1, 1) := by decide +kernel
theorem dX4_bestOf_104 : decode cX4_bestOf 104 = .ok (.goto 4, 3) := by decide +kernel
theorem dX4_bestOf_107 : decode cX4_bestOf 107 = .ok (.iconst 0, 1) := by decide +kernel
theorem dX4_bestOf_108 : decode cX4_bestOf 108 = .ok (.istore 4, 2) := by decide +kernel
theorem dX4_bestOf_110 : decode cX4_bestOf 110 = .ok (.iload 4, 2) := by decide +kernel
theorem dX4_bestOf_112 : decode cX4_bestOf 112 = .ok (.ifCond .eq 7, 3) := by decide +kernel
theorem dX4_bestOf_115 : decode cX4_bestOf 115 = .ok (.iload_n 3, 1) := by decide +kernel
theorem dX4_bestOf_116 : decode cX4_bestOf 116 = .ok (.goto 4, 3) := by decide +kernel
theorem dX4_bestOf_119 : decode cX4_bestOf 119 = .ok (.iload_n 2, 1) := by decide +kernel
theorem dX4_bestOf_120 : decode cX4_bestOf 120 = .ok (.istore_n 2, 1) := by decide +kernel
theorem dX4_bestOf_121 : decode cX4_bestOf 121 = .ok (.iinc 3 1, 3) := by decide +kernel
theorem dX4_bestOf_124 : decode cX4_bestOf 124 = .ok (.goto (-119), 3) := by decide +kernel
theorem dX4_bestOf_127 : decode cX4_bestOf 127 = .ok (.iload_n 2, 1) := by decide +kernel
theorem dX4_bestOf_128 : decode cX4_bestOf 128 = .ok (.ireturn, 1) := by decide +kernel
theorem dX4_far_0 : decode cX4_far 0 = .ok (.iload_n 1, 1) := by decide +kernel
theorem dX4_far_1 : decode cX4_far 1 = .ok (.aload_n 0, 1) := by decide +kernel
theorem dX4_far_2 : decode cX4_far 2 = .ok (.getfield 7, 3) := by decide +kernel
theorem dX4_far_5 : decode cX4_far 5 = .ok (.bipush 11, 2) := by decide +kernel
theorem dX4_far_7 : decode cX4_far 7 = .ok (.iaload, 1) := by decide +kernel
theorem dX4_far_8 : decode cX4_far 8 = .ok (.if_icmp .le 15, 3) := by decide +kernel
theorem dX4_far_11 : decode cX4_far 11 = .ok (.iload_n 1, 1) := by decide +kernel
theorem dX4_far_12 : decode cX4_far 12 = .ok (.aload_n 0, 1) := by decide +kernel
theorem dX4_far_13 : decode cX4_far 13 = .ok (.getfield 7, 3) := by decide +kernel
theorem dX4_far_16 : decode cX4_far 16 = .ok (.bipush 11, 2) := by decide +kernel
theorem dX4_far_18 : decode cX4_far 18 = .ok (.iaload, 1) := by decide +kernel
theorem dX4_far_19 : decode cX4_far 19 = .ok (.isub, 1) := by decide +kernel
theorem dX4_far_20 : decode cX4_far 20 = .ok (.goto 12, 3) := by decide +kernel
theorem dX4_far_23 : decode cX4_far 23 = .ok (.aload_n 0, 1) := by decide +kernel
theorem dX4_far_24 : decode cX4_far 24 = .ok (.getfield 7, 3) := by decide +kernel
theorem dX4_far_27 : decode cX4_far 27 = .ok (.bipush 11, 2) := by decide +kernel
theorem dX4_far_29 : decode cX4_far 29 = .ok (.iaload, 1) := by decide +kernel
theorem dX4_far_30 : decode cX4_far 30 = .ok (.iload_n 1, 1) := by decide +kernel
theorem dX4_far_31 : decode cX4_far 31 = .ok (.isub, 1) := by decide +kernel
theorem dX4_far_32 : decode cX4_far 32 = .ok (.ireturn, 1) := by decide +kernel
set_option maxRecDepth 20000 in
theorem ggX4_isAccepted_X4_scoreOf : GoodIn wsX4_isAccepted wsX4_scoreOf := goodIn_r _ [6, 1, 7, 8, 9, 10, 11, 12, 13, 14, 15, 16, 17, 18, 19, 20, 21, 22, 23, 24, 25] (by decide +kernel) (by decide +kernel)
set_option maxRecDepth 20000 in
theorem gX4_isAccepted_X4_scoreOf : GoodIn wsX4_isAccepted (wsV RX4 61 RX4 yX4_scoreOf wsX4_scoreOf) := goodIn_app (goodIn_of _ (by decide +kernel)) ggX4_isAccepted_X4_scoreOf
theorem dX4_isAccepted_0 : decode cX4_isAccepted 0 = .ok (.iload_n 1, 1) := by decide +kernel
theorem dX4_isAccepted_1 : decode cX4_isAccepted 1 = .ok (.aload_n 0, 1) := by decide +kernel
theorem dX4_isAccepted_2 : decode cX4_isAccepted 2 = .ok (.getfield 7, 3) := by decide +kernel
theorem dX4_isAccepted_5 : decode cX4_isAccepted 5 = .ok (.bipush 11, 2) := by decide +kernel
theorem dX4_isAccepted_7 : decode cX4_isAccepted 7 = .ok (.iaload, 1) := by decide +kernel
theorem dX4_isAccepted_8 : decode cX4_isAccepted 8 = .ok (.if_icmp .eq 17, 3) := by decide +kernel
theorem dX4_isAccepted_11 : decode cX4_isAccepted 11 = .ok (.aload_n 0, 1) := by decide +kernel
theorem dX4_isAccepted_12 : decode cX4_isAccepted 12 = .ok (.iload_n 1, 1) := by decide +kernel
theorem dX4_isAccepted_13 : decode cX4_isAccepted 13 = .ok (.invokevirtual 61, 3) := by decide +kernel
theorem dX4_isAccepted_16 : decode cX4_isAccepted 16 = .ok (.aload_n 0, 1) := by decide +kernel
theorem dX4_isAccepted_17 : decode cX4_isAccepted 17 = .ok (.getfield 7, 3) := by decide +kernel
theorem dX4_isAccepted_20 : decode cX4_isAccepted 20 = .ok (.iconst 5, 1) := by decide +kernel
theorem dX4_isAccepted_21 : decode cX4_isAccepted 21 = .ok (.iaload, 1) := by decide +kernel
theorem dX4_isAccepted_22 : decode cX4_isAccepted 22 = .ok (.if_icmp .lt 7, 3) := by decide +kernel
theorem dX4_isAccepted_25 : decode cX4_isAccepted 25 = .ok (.iconst 1, 1) := by decide +kernel
theorem dX4_isAccepted_26 : decode cX4_isAccepted 26 = .ok (.goto 4, 3) := by decide +kernel
theorem dX4_isAccepted_29 : decode cX4_isAccepted 29 = .ok (.iconst 0, 1) := by decide +kernel
theorem dX4_isAccepted_30 : decode cX4_isAccepted 30 = .ok (.ireturn, 1) := by decide +kernel
theorem dX4_keepWord_0 : decode cX4_keepWord 0 = .ok (.iconst 3, 1) := by decide +kernel
theorem dX4_keepWord_1 : decode cX4_keepWord 1 = .ok (.istore_n 2, 1) := by decide +kernel
theorem dX4_keepWord_2 : decode cX4_keepWord 2 = .ok (.iload_n 2, 1) := by decide +kernel
theorem dX4_keepWord_3 : decode cX4_keepWord 3 = .ok (.ifCond .le 29, 3) := by decide +kernel
theorem dX4_keepWord_6 : decode cX4_keepWord 6 = .ok (.aload_n 0, 1) := by decide +kernel
theorem dX4_keepWord_7 : decode cX4_keepWord 7 = .ok (.getfield 7, 3) := by decide +kernel
theorem dX4_keepWord_10 : decode cX4_keepWord 10 = .ok (.bipush 21, 2) := by decide +kernel
theorem dX4_keepWord_12 : decode cX4_keepWord 12 = .ok (.iload_n 2, 1) := by decide +kernel
theorem dX4_keepWord_13 : decode cX4_keepWord 13 = .ok (.iadd, 1) := by decide +kernel
theorem dX4_keepWord_14 : decode cX4_keepWord 14 = .ok (.aload_n 0, 1) := by decide +kernel
theorem dX4_keepWord_15 : decode cX4_keepWord 15 = .ok (.getfield 7, 3) := by decide +kernel
theorem dX4_keepWord_18 : decode cX4_keepWord 18 = .ok (.bipush 21, 2) := by decide +kernel
theorem dX4_keepWord_20 : decode cX4_keepWord 20 = .ok (.iload_n 2, 1) := by decide +kernel
theorem dX4_keepWord_21 : decode cX4_keepWord 21 = .ok (.iadd, 1) := by decide +kernel
theorem dX4_keepWord_22 : decode cX4_keepWord 22 = .ok (.iconst 1, 1) := by decide +kernel
theorem dX4_keepWord_23 : decode cX4_keepWord 23 = .ok (.isub, 1) := by decide +kernel
theorem dX4_keepWord_24 : decode cX4_keepWord 24 = .ok (.iaload, 1) := by decide +kernel
theorem dX4_keepWord_25 : decode cX4_keepWord 25 = .ok (.iastore, 1) := by decide +kernel
theorem dX4_keepWord_26 : decode cX4_keepWord 26 = .ok (.iinc 2 (-1), 3) := by decide +kernel
theorem dX4_keepWord_29 : decode cX4_keepWord 29 = .ok (.goto (-27), 3) := by decide +kernel
theorem dX4_keepWord_32 : decode cX4_keepWord 32 = .ok (.aload_n 0, 1) := by decide +kernel
theorem dX4_keepWord_33 : decode cX4_keepWord 33 = .ok (.getfield 7, 3) := by decide +kernel
theorem dX4_keepWord_36 : decode cX4_keepWord 36 = .ok (.bipush 21, 2) := by decide +kernel
theorem dX4_keepWord_38 : decode cX4_keepWord 38 = .ok (.iload_n 1, 1) := by decide +kernel
theorem dX4_keepWord_39 : decode cX4_keepWord 39 = .ok (.iastore, 1) := by decide +kernel
theorem dX4_keepWord_40 : decode cX4_keepWord 40 = .ok (.aload_n 0, 1) := by decide +kernel
theorem dX4_keepWord_41 : decode cX4_keepWord 41 = .ok (.getfield 7, 3) := by decide +kernel
theorem dX4_keepWord_44 : decode cX4_keepWord 44 = .ok (.bipush 20, 2) := by decide +kernel
theorem dX4_keepWord_46 : decode cX4_keepWord 46 = .ok (.dup2, 1) := by decide +kernel
theorem dX4_keepWord_47 : decode cX4_keepWord 47 = .ok (.iaload, 1) := by decide +kernel
theorem dX4_keepWord_48 : decode cX4_keepWord 48 = .ok (.aload_n 0, 1) := by decide +kernel
theorem dX4_keepWord_49 : decode cX4_keepWord 49 = .ok (.getfield 7, 3) := by decide +kernel
theorem dX4_keepWord_52 : decode cX4_keepWord 52 = .ok (.bipush 20, 2) := by decide +kernel
theorem dX4_keepWord_54 : decode cX4_keepWord 54 = .ok (.iaload, 1) := by decide +kernel
theorem dX4_keepWord_55 : decode cX4_keepWord 55 = .ok (.iconst 4, 1) := by decide +kernel
theorem dX4_keepWord_56 : decode cX4_keepWord 56 = .ok (.if_icmp .ge 7, 3) := by decide +kernel
theorem dX4_keepWord_59 : decode cX4_keepWord 59 = .ok (.iconst 1, 1) := by decide +kernel
theorem dX4_keepWord_60 : decode cX4_keepWord 60 = .ok (.goto 4, 3) := by decide +kernel
theorem dX4_keepWord_63 : decode cX4_keepWord 63 = .ok (.iconst 0, 1) := by decide +kernel
theorem dX4_keepWord_64 : decode cX4_keepWord 64 = .ok (.iadd, 1) := by decide +kernel
theorem dX4_keepWord_65 : decode cX4_keepWord 65 = .ok (.iastore, 1) := by decide +kernel
theorem dX4_keepWord_66 : decode cX4_keepWord 66 = .ok (.return_, 1) := by decide +kernel
set_option maxRecDepth 20000 in
theorem ggX4_follow_X4_leaveTrail : GoodIn wsX4_follow wsX4_leaveTrail := goodIn_r _ [6, 1, 7, 8, 9, 10, 11, 12, 13, 14, 15, 16, 17, 18, 19, 20, 21, 22, 23, 24, 25] (by decide +kernel) (by decide +kernel)
set_option maxRecDepth 20000 in
theorem gX4_follow_X4_leaveTrail : GoodIn wsX4_follow (wsV RX4 68 RX4 yX4_leaveTrail wsX4_leaveTrail) := goodIn_app (goodIn_of _ (by decide +kernel)) ggX4_follow_X4_leaveTrail
theorem dX4_follow_0 : decode cX4_follow 0 = .ok (.iload_n 1, 1) := by decide +kernel
theorem dX4_follow_1 : decode cX4_follow 1 = .ok (.aload_n 0, 1) := by decide +kernel
theorem dX4_follow_2 : decode cX4_follow 2 = .ok (.getfield 7, 3) := by decide +kernel
theorem dX4_follow_5 : decode cX4_follow 5 = .ok (.bipush 11, 2) := by decide +kernel
theorem dX4_follow_7 : decode cX4_follow 7 = .ok (.iaload, 1) := by decide +kernel
theorem dX4_follow_8 : decode cX4_follow 8 = .ok (.if_icmp .eq 63, 3) := by decide +kernel
theorem dX4_follow_11 : decode cX4_follow 11 = .ok (.aload_n 0, 1) := by decide +kernel
theorem dX4_follow_12 : decode cX4_follow 12 = .ok (.getfield 7, 3) := by decide +kernel
theorem dX4_follow_15 : decode cX4_follow 15 = .ok (.bipush 15, 2) := by decide +kernel
theorem dX4_follow_17 : decode cX4_follow 17 = .ok (.dup2, 1) := by decide +kernel
theorem dX4_follow_18 : decode cX4_follow 18 = .ok (.iaload, 1) := by decide +kernel
theorem dX4_follow_19 : decode cX4_follow 19 = .ok (.iload_n 1, 1) := by decide +kernel
theorem dX4_follow_20 : decode cX4_follow 20 = .ok (.aload_n 0, 1) := by decide +kernel
theorem dX4_follow_21 : decode cX4_follow 21 = .ok (.getfield 7, 3) := by decide +kernel
theorem dX4_follow_24 : decode cX4_follow 24 = .ok (.bipush 11, 2) := by decide +kernel
theorem dX4_follow_26 : decode cX4_follow 26 = .ok (.iaload, 1) := by decide +kernel
theorem dX4_follow_27 : decode cX4_follow 27 = .ok (.if_icmp .le 7, 3) := by decide +kernel
theorem dX4_follow_30 : decode cX4_follow 30 = .ok (.iconst 1, 1) := by decide +kernel
theorem dX4_follow_31 : decode cX4_follow 31 = .ok (.goto 4, 3) := by decide +kernel
theorem dX4_follow_34 : decode cX4_follow 34 = .ok (.iconst 0, 1) := by decide +kernel
theorem dX4_follow_35 : decode cX4_follow 35 = .ok (.iadd, 1) := by decide +kernel
theorem dX4_follow_36 : decode cX4_follow 36 = .ok (.iastore, 1) := by decide +kernel
theorem dX4_follow_37 : decode cX4_follow 37 = .ok (.aload_n 0, 1) := by decide +kernel
theorem dX4_follow_38 : decode cX4_follow 38 = .ok (.getfield 7, 3) := by decide +kernel
theorem dX4_follow_41 : decode cX4_follow 41 = .ok (.bipush 16, 2) := by decide +kernel
theorem dX4_follow_43 : decode cX4_follow 43 = .ok (.dup2, 1) := by decide +kernel
theorem dX4_follow_44 : decode cX4_follow 44 = .ok (.iaload, 1) := by decide +kernel
theorem dX4_follow_45 : decode cX4_follow 45 = .ok (.iload_n 1, 1) := by decide +kernel
theorem dX4_follow_46 : decode cX4_follow 46 = .ok (.aload_n 0, 1) := by decide +kernel
theorem dX4_follow_47 : decode cX4_follow 47 = .ok (.getfield 7, 3) := by decide +kernel
theorem dX4_follow_50 : decode cX4_follow 50 = .ok (.bipush 11, 2) := by decide +kernel
theorem dX4_follow_52 : decode cX4_follow 52 = .ok (.iaload, 1) := by decide +kernel
theorem dX4_follow_53 : decode cX4_follow 53 = .ok (.if_icmp .ge 7, 3) := by decide +kernel
theorem dX4_follow_56 : decode cX4_follow 56 = .ok (.iconst 1, 1) := by decide +kernel
theorem dX4_follow_57 : decode cX4_follow 57 = .ok (.goto 4, 3) := by decide +kernel
theorem dX4_follow_60 : decode cX4_follow 60 = .ok (.iconst 0, 1) := by decide +kernel
theorem dX4_follow_61 : decode cX4_follow 61 = .ok (.iadd, 1) := by decide +kernel
theorem dX4_follow_62 : decode cX4_follow 62 = .ok (.iastore, 1) := by decide +kernel
theorem dX4_follow_63 : decode cX4_follow 63 = .ok (.aload_n 0, 1) := by decide +kernel
theorem dX4_follow_64 : decode cX4_follow 64 = .ok (.getfield 7, 3) := by decide +kernel
theorem dX4_follow_67 : decode cX4_follow 67 = .ok (.bipush 25, 2) := by decide +kernel
theorem dX4_follow_69 : decode cX4_follow 69 = .ok (.iconst 0, 1) := by decide +kernel
theorem dX4_follow_70 : decode cX4_follow 70 = .ok (.iastore, 1) := by decide +kernel
theorem dX4_follow_71 : decode cX4_follow 71 = .ok (.aload_n 0, 1) := by decide +kernel
theorem dX4_follow_72 : decode cX4_follow 72 = .ok (.getfield 7, 3) := by decide +kernel
theorem dX4_follow_75 : decode cX4_follow 75 = .ok (.bipush 11, 2) := by decide +kernel
theorem dX4_follow_77 : decode cX4_follow 77 = .ok (.iload_n 1, 1) := by decide +kernel
theorem dX4_follow_78 : decode cX4_follow 78 = .ok (.iconst 1, 1) := by decide +kernel
theorem dX4_follow_79 : decode cX4_follow 79 = .ok (.iadd, 1) := by decide +kernel
theorem dX4_follow_80 : decode cX4_follow 80 = .ok (.iastore, 1) := by decide +kernel
theorem dX4_follow_81 : decode cX4_follow 81 = .ok (.aload_n 0, 1) := by decide +kernel
theorem dX4_follow_82 : decode cX4_follow 82 = .ok (.getfield 7, 3) := by decide +kernel
theorem dX4_follow_85 : decode cX4_follow 85 = .ok (.bipush 13, 2) := by decide +kernel
theorem dX4_follow_87 : decode cX4_follow 87 = .ok (.aload_n 0, 1) := by decide +kernel
theorem dX4_follow_88 : decode cX4_follow 88 = .ok (.getfield 7, 3) := by decide +kernel
theorem dX4_follow_91 : decode cX4_follow 91 = .ok (.bipush 10, 2) := by decide +kernel
theorem dX4_follow_93 : decode cX4_follow 93 = .ok (.iaload, 1) := by decide +kernel
theorem dX4_follow_94 : decode cX4_follow 94 = .ok (.iastore, 1) := by decide +kernel
theorem dX4_follow_95 : decode cX4_follow 95 = .ok (.iconst 0, 1) := by decide +kernel
theorem dX4_follow_96 : decode cX4_follow 96 = .ok (.istore_n 2, 1) := by decide +kernel
theorem dX4_follow_97 : decode cX4_follow 97 = .ok (.iload_n 2, 1) := by decide +kernel
theorem dX4_follow_98 : decode cX4_follow 98 = .ok (.iload_n 1, 1) := by decide +kernel
theorem dX4_follow_99 : decode cX4_follow 99 = .ok (.if_icmp .ge 45, 3) := by decide +kernel
theorem dX4_follow_102 : decode cX4_follow 102 = .ok (.aload_n 0, 1) := by decide +kernel
theorem dX4_follow_103 : decode cX4_follow 103 = .ok (.getfield 7, 3) := by decide +kernel
theorem dX4_follow_106 : decode cX4_follow 106 = .ok (.sipush 270, 3) := by decide +kernel
theorem dX4_follow_109 : decode cX4_follow 109 = .ok (.iload_n 2, 1) := by decide +kernel
theorem dX4_follow_110 : decode cX4_follow 110 = .ok (.iadd, 1) := by decide +kernel
theorem dX4_follow_111 : decode cX4_follow 111 = .ok (.iaload, 1) := by decide +kernel
theorem dX4_follow_112 : decode cX4_follow 112 = .ok (.iconst 1, 1) := by decide +kernel
theorem dX4_follow_113 : decode cX4_follow 113 = .ok (.if_icmp .ne 25, 3) := by decide +kernel
theorem dX4_follow_116 : decode cX4_follow 116 = .ok (.aload_n 0, 1) := by decide +kernel
theorem dX4_follow_117 : decode cX4_follow 117 = .ok (.getfield 7, 3) := by decide +kernel
theorem dX4_follow_120 : decode cX4_follow 120 = .ok (.sipush 270, 3) := by decide +kernel
theorem dX4_follow_123 : decode cX4_follow 123 = .ok (.iload_n 2, 1) := by decide +kernel
theorem dX4_follow_124 : decode cX4_follow 124 = .ok (.iadd, 1) := by decide +kernel
theorem dX4_follow_125 : decode cX4_follow 125 = .ok (.iconst 3, 1) := by decide +kernel
theorem dX4_follow_126 : decode cX4_follow 126 = .ok (.iastore, 1) := by decide +kernel
theorem dX4_follow_127 : decode cX4_follow 127 = .ok (.aload_n 0, 1) := by decide +kernel
theorem dX4_follow_128 : decode cX4_follow 128 = .ok (.getfield 7, 3) := by decide +kernel
theorem dX4_follow_131 : decode cX4_follow 131 = .ok (.bipush 19, 2) := by decide +kernel
theorem dX4_follow_133 : decode cX4_follow 133 = .ok (.dup2, 1) := by decide +kernel
theorem dX4_follow_134 : decode cX4_follow 134 = .ok (.iaload, 1) := by decide +kernel
theorem dX4_follow_135 : decode cX4_follow 135 = .ok (.iconst 1, 1) := by decide +kernel
theorem dX4_follow_136 : decode cX4_follow 136 = .ok (.iadd, 1) := by decide +kernel
theorem dX4_follow_137 : decode cX4_follow 137 = .ok (.iastore, 1) := by decide +kernel
theorem dX4_follow_138 : decode cX4_follow 138 = .ok (.iinc 2 1, 3) := by decide +kernel
theorem dX4_follow_141 : decode cX4_follow 141 = .ok (.goto (-44), 3) := by decide +kernel
theorem dX4_follow_144 : decode cX4_follow 144 = .ok (.aload_n 0, 1) := by decide +kernel
theorem dX4_follow_145 : decode cX4_follow 145 = .ok (.invokevirtual 68, 3) := by decide +kernel
theorem dX4_follow_148 : decode cX4_follow 148 = .ok (.return_, 1) := by decide +kernel
theorem dX4_leaveTrail_0 : decode cX4_leaveTrail 0 = .ok (.aload_n 0, 1) := by decide +kernel
theorem dX4_leaveTrail_1 : decode cX4_leaveTrail 1 = .ok (.getfield 7, 3) := by decide +kernel
theorem dX4_leaveTrail_4 : decode cX4_leaveTrail 4 = .ok (.bipush 25, 2) := by decide +kernel
theorem dX4_leaveTrail_6 : decode cX4_leaveTrail 6 = .ok (.iaload, 1) := by decide +kernel
theorem dX4_leaveTrail_7 : decode cX4_leaveTrail 7 = .ok (.ifCond .le 36, 3) := by decide +kernel
theorem dX4_leaveTrail_10 : decode cX4_leaveTrail 10 = .ok (.aload_n 0, 1) := by decide +kernel
theorem dX4_leaveTrail_11 : decode cX4_leaveTrail 11 = .ok (.getfield 7, 3) := by decide +kernel
theorem dX4_leaveTrail_14 : decode cX4_leaveTrail 14 = .ok (.bipush 26, 2) := by decide +kernel
theorem dX4_leaveTrail_16 : decode cX4_leaveTrail 16 = .ok (.iconst 2, 1) := by decide +kernel
theorem dX4_leaveTrail_17 : decode cX4_leaveTrail 17 = .ok (.aload_n 0, 1) := by decide +kernel
theorem dX4_leaveTrail_18 : decode cX4_leaveTrail 18 = .ok (.getfield 7, 3) := by decide +kernel
theorem dX4_leaveTrail_21 : decode cX4_leaveTrail 21 = .ok (.bipush 25, 2) := by decide +kernel
theorem dX4_leaveTrail_23 : decode cX4_leaveTrail 23 = .ok (.iaload, 1) := by decide +kernel
theorem dX4_leaveTrail_24 : decode cX4_leaveTrail 24 = .ok (.imul, 1) := by decide +kernel
theorem dX4_leaveTrail_25 : decode cX4_leaveTrail 25 = .ok (.iadd, 1) := by decide +kernel
theorem dX4_leaveTrail_26 : decode cX4_leaveTrail 26 = .ok (.iconst 2, 1) := by decide +kernel
theorem dX4_leaveTrail_27 : decode cX4_leaveTrail 27 = .ok (.isub, 1) := by decide +kernel
theorem dX4_leaveTrail_28 : decode cX4_leaveTrail 28 = .ok (.iaload, 1) := by decide +kernel
theorem dX4_leaveTrail_29 : decode cX4_leaveTrail 29 = .ok (.aload_n 0, 1) := by decide +kernel
theorem dX4_leaveTrail_30 : decode cX4_leaveTrail 30 = .ok (.getfield 7, 3) := by decide +kernel
theorem dX4_leaveTrail_33 : decode cX4_leaveTrail 33 = .ok (.bipush 10, 2) := by decide +kernel
theorem dX4_leaveTrail_35 : decode cX4_leaveTrail 35 = .ok (.iaload, 1) := by decide +kernel
theorem dX4_leaveTrail_36 : decode cX4_leaveTrail 36 = .ok (.if_icmp .ne 7, 3) := by decide +kernel
theorem dX4_leaveTrail_39 : decode cX4_leaveTrail 39 = .ok (.iconst 1, 1) := by decide +kernel
theorem dX4_leaveTrail_40 : decode cX4_leaveTrail 40 = .ok (.goto 4, 3) := by decide +kernel
theorem dX4_leaveTrail_43 : decode cX4_leaveTrail 43 = .ok (.iconst 0, 1) := by decide +kernel
theorem dX4_leaveTrail_44 : decode cX4_leaveTrail 44 = .ok (.istore_n 1, 1) := by decide +kernel
theorem dX4_leaveTrail_45 : decode cX4_leaveTrail 45 = .ok (.aload_n 0, 1) := by decide +kernel
theorem dX4_leaveTrail_46 : decode cX4_leaveTrail 46 = .ok (.getfield 7, 3) := by decide +kernel
theorem dX4_leaveTrail_49 : decode cX4_leaveTrail 49 = .ok (.bipush 25, 2) := by decide +kernel
theorem dX4_leaveTrail_51 : decode cX4_leaveTrail 51 = .ok (.dup2, 1) := by decide +kernel
theorem dX4_leaveTrail_52 : decode cX4_leaveTrail 52 = .ok (.iaload, 1) := by decide +kernel
theorem dX4_leaveTrail_53 : decode cX4_leaveTrail 53 = .ok (.iload_n 1, 1) := by decide +kernel
theorem dX4_leaveTrail_54 : decode cX4_leaveTrail 54 = .ok (.ifCond .eq 7, 3) := by decide +kernel
theorem dX4_leaveTrail_57 : decode cX4_leaveTrail 57 = .ok (.iconst 0, 1) := by decide +kernel
theorem dX4_leaveTrail_58 : decode cX4_leaveTrail 58 = .ok (.goto 4, 3) := by decide +kernel
theorem dX4_leaveTrail_61 : decode cX4_leaveTrail 61 = .ok (.iconst 1, 1) := by decide +kernel
theorem dX4_leaveTrail_62 : decode cX4_leaveTrail 62 = .ok (.iadd, 1) := by decide +kernel
theorem dX4_leaveTrail_63 : decode cX4_leaveTrail 63 = .ok (.iastore, 1) := by decide +kernel
theorem dX4_leaveTrail_64 : decode cX4_leaveTrail 64 = .ok (.aload_n 0, 1) := by decide +kernel
theorem dX4_leaveTrail_65 : decode cX4_leaveTrail 65 = .ok (.getfield 7, 3) := by decide +kernel
theorem dX4_leaveTrail_68 : decode cX4_leaveTrail 68 = .ok (.bipush 26, 2) := by decide +kernel
theorem dX4_leaveTrail_70 : decode cX4_leaveTrail 70 = .ok (.iconst 2, 1) := by decide +kernel
theorem dX4_leaveTrail_71 : decode cX4_leaveTrail 71 = .ok (.aload_n 0, 1) := by decide +kernel
theorem dX4_leaveTrail_72 : decode cX4_leaveTrail 72 = .ok (.getfield 7, 3) := by decide +kernel
theorem dX4_leaveTrail_75 : decode cX4_leaveTrail 75 = .ok (.bipush 25, 2) := by decide +kernel
theorem dX4_leaveTrail_77 : decode cX4_leaveTrail 77 = .ok (.iaload, 1) := by decide +kernel
theorem dX4_leaveTrail_78 : decode cX4_leaveTrail 78 = .ok (.imul, 1) := by decide +kernel
theorem dX4_leaveTrail_79 : decode cX4_leaveTrail 79 = .ok (.iadd, 1) := by decide +kernel
theorem dX4_leaveTrail_80 : decode cX4_leaveTrail 80 = .ok (.iconst 2, 1) := by decide +kernel
theorem dX4_leaveTrail_81 : decode cX4_leaveTrail 81 = .ok (.isub, 1) := by decide +kernel
theorem dX4_leaveTrail_82 : decode cX4_leaveTrail 82 = .ok (.aload_n 0, 1) := by decide +kernel
theorem dX4_leaveTrail_83 : decode cX4_leaveTrail 83 = .ok (.getfield 7, 3) := by decide +kernel
theorem dX4_leaveTrail_86 : decode cX4_leaveTrail 86 = .ok (.bipush 10, 2) := by decide +kernel
theorem dX4_leaveTrail_88 : decode cX4_leaveTrail 88 = .ok (.iaload, 1) := by decide +kernel
theorem dX4_leaveTrail_89 : decode cX4_leaveTrail 89 = .ok (.iastore, 1) := by decide +kernel
theorem dX4_leaveTrail_90 : decode cX4_leaveTrail 90 = .ok (.aload_n 0, 1) := by decide +kernel
theorem dX4_leaveTrail_91 : decode cX4_leaveTrail 91 = .ok (.getfield 7, 3) := by decide +kernel
theorem dX4_leaveTrail_94 : decode cX4_leaveTrail 94 = .ok (.bipush 26, 2) := by decide +kernel
theorem dX4_leaveTrail_96 : decode cX4_leaveTrail 96 = .ok (.iconst 2, 1) := by decide +kernel
theorem dX4_leaveTrail_97 : decode cX4_leaveTrail 97 = .ok (.aload_n 0, 1) := by decide +kernel
theorem dX4_leaveTrail_98 : decode cX4_leaveTrail 98 = .ok (.getfield 7, 3) := by decide +kernel
theorem dX4_leaveTrail_101 : decode cX4_leaveTrail 101 = .ok (.bipush 25, 2) := by decide +kernel
theorem dX4_leaveTrail_103 : decode cX4_leaveTrail 103 = .ok (.iaload, 1) := by decide +kernel
theorem dX4_leaveTrail_104 : decode cX4_leaveTrail 104 = .ok (.imul, 1) := by decide +kernel
theorem dX4_leaveTrail_105 : decode cX4_leaveTrail 105 = .ok (.iadd, 1) := by decide +kernel
theorem dX4_leaveTrail_106 : decode cX4_leaveTrail 106 = .ok (.iconst 1, 1) := by decide +kernel
theorem dX4_leaveTrail_107 : decode cX4_leaveTrail 107 = .ok (.isub, 1) := by decide +kernel
theorem dX4_leaveTrail_108 : decode cX4_leaveTrail 108 = .ok (.aload_n 0, 1) := by decide +kernel
theorem dX4_leaveTrail_109 : decode cX4_leaveTrail 109 = .ok (.getfield 7, 3) := by decide +kernel
theorem dX4_leaveTrail_112 : decode cX4_leaveTrail 112 = .ok (.bipush 11, 2) := by decide +kernel
theorem dX4_leaveTrail_114 : decode cX4_leaveTrail 114 = .ok (.iaload, 1) := by decide +kernel
theorem dX4_leaveTrail_115 : decode cX4_leaveTrail 115 = .ok (.iastore, 1) := by decide +kernel
theorem dX4_leaveTrail_116 : decode cX4_leaveTrail 116 = .ok (.aload_n 0, 1) := by decide +kernel
theorem dX4_leaveTrail_117 : decode cX4_leaveTrail 117 = .ok (.getfield 7, 3) := by decide +kernel
theorem dX4_leaveTrail_120 : decode cX4_leaveTrail 120 = .ok (.bipush 26, 2) := by decide +kernel
theorem dX4_leaveTrail_122 : decode cX4_leaveTrail 122 = .ok (.iaload, 1) := by decide +kernel
theorem dX4_leaveTrail_123 : decode cX4_leaveTrail 123 = .ok (.aload_n 0, 1) := by decide +kernel
theorem dX4_leaveTrail_124 : decode cX4_leaveTrail 124 = .ok (.getfield 7, 3) := by decide +kernel
theorem dX4_leaveTrail_127 : decode cX4_leaveTrail 127 = .ok (.bipush 10, 2) := by decide +kernel
theorem dX4_leaveTrail_129 : decode cX4_leaveTrail 129 = .ok (.iaload, 1) := by decide +kernel
theorem dX4_leaveTrail_130 : decode cX4_leaveTrail 130 = .ok (.aload_n 0, 1) := by decide +kernel
theorem dX4_leaveTrail_131 : decode cX4_leaveTrail 131 = .ok (.getfield 7, 3) := by decide +kernel
theorem dX4_leaveTrail_134 : decode cX4_leaveTrail 134 = .ok (.bipush 6, 2) := by decide +kernel
theorem dX4_leaveTrail_136 : decode cX4_leaveTrail 136 = .ok (.iaload, 1) := by decide +kernel
theorem dX4_leaveTrail_137 : decode cX4_leaveTrail 137 = .ok (.isub, 1) := by decide +kernel
theorem dX4_leaveTrail_138 : decode cX4_leaveTrail 138 = .ok (.if_icmp .ge 58, 3) := by decide +kernel
theorem dX4_leaveTrail_141 : decode cX4_leaveTrail 141 = .ok (.bipush 26, 2) := by decide +kernel
theorem dX4_leaveTrail_143 : decode cX4_leaveTrail 143 = .ok (.istore_n 2, 1) := by decide +kernel
theorem dX4_leaveTrail_144 : decode cX4_leaveTrail 144 = .ok (.iload_n 2, 1) := by decide +kernel
theorem dX4_leaveTrail_145 : decode cX4_leaveTrail 145 = .ok (.bipush 26, 2) := by decide +kernel
theorem dX4_leaveTrail_147 : decode cX4_leaveTrail 147 = .ok (.iconst 2, 1) := by decide +kernel
theorem dX4_leaveTrail_148 : decode cX4_leaveTrail 148 = .ok (.aload_n 0, 1) := by decide +kernel
theorem dX4_leaveTrail_149 : decode cX4_leaveTrail 149 = .ok (.getfield 7, 3) := by decide +kernel
theorem dX4_leaveTrail_152 : decode cX4_leaveTrail 152 = .ok (.bipush 25, 2) := by decide +kernel
theorem dX4_leaveTrail_154 : decode cX4_leaveTrail 154 = .ok (.iaload, 1) := by decide +kernel
theorem dX4_leaveTrail_155 : decode cX4_leaveTrail 155 = .ok (.imul, 1) := by decide +kernel
theorem dX4_leaveTrail_156 : decode cX4_leaveTrail 156 = .ok (.iadd, 1) := by decide +kernel
theorem dX4_leaveTrail_157 : decode cX4_leaveTrail 157 = .ok (.iconst 2, 1) := by decide +kernel
theorem dX4_leaveTrail_158 : decode cX4_leaveTrail 158 = .ok (.isub, 1) := by decide +kernel
theorem dX4_leaveTrail_159 : decode cX4_leaveTrail 159 = .ok (.if_icmp .ge 23, 3) := by decide +kernel
theorem dX4_leaveTrail_162 : decode cX4_leaveTrail 162 = .ok (.aload_n 0, 1) := by decide +kernel
theorem dX4_leaveTrail_163 : decode cX4_leaveTrail 163 = .ok (.getfield 7, 3) := by decide +kernel
theorem dX4_leaveTrail_166 : decode cX4_leaveTrail 166 = .ok (.iload_n 2, 1) := by decide +kernel
theorem dX4_leaveTrail_167 : decode cX4_leaveTrail 167 = .ok (.aload_n 0, 1) := by decide +kernel
theorem dX4_leaveTrail_168 : decode cX4_leaveTrail 168 = .ok (.getfield 7, 3) := by decide +kernel
theorem dX4_leaveTrail_171 : decode cX4_leaveTrail 171 = .ok (.iload_n 2, 1) := by decide +kernel
theorem dX4_leaveTrail_172 : decode cX4_leaveTrail 172 = .ok (.iconst 2, 1) := by decide +kernel
theorem dX4_leaveTrail_173 : decode cX4_leaveTrail 173 = .ok (.iadd, 1) := by decide +kernel
theorem dX4_leaveTrail_174 : decode cX4_leaveTrail 174 = .ok (.iaload, 1) := by decide +kernel
theorem dX4_leaveTrail_175 : decode cX4_leaveTrail 175 = .ok (.iastore, 1) := by decide +kernel
theorem dX4_leaveTrail_176 : decode cX4_leaveTrail 176 = .ok (.iinc 2 1, 3) := by decide +kernel
theorem dX4_leaveTrail_179 : decode cX4_leaveTrail 179 = .ok (.goto (-35), 3) := by decide +kernel
theorem dX4_leaveTrail_182 : decode cX4_leaveTrail 182 = .ok (.aload_n 0, 1) := by decide +kernel
theorem dX4_leaveTrail_183 : decode cX4_leaveTrail 183 = .ok (.getfield 7, 3) := by decide +kernel
theorem dX4_leaveTrail_186 : decode cX4_leaveTrail 186 = .ok (.bipush 25, 2) := by decide +kernel
theorem dX4_leaveTrail_188 : decode cX4_leaveTrail 188 = .ok (.dup2, 1) := by decide +kernel
theorem dX4_leaveTrail_189 : decode cX4_leaveTrail 189 = .ok (.iaload, 1) := by decide +kernel
theorem dX4_leaveTrail_190 : decode cX4_leaveTrail 190 = .ok (.iconst 1, 1) := by decide +kernel
theorem dX4_leaveTrail_191 : decode cX4_leaveTrail 191 = .ok (.isub, 1) := by decide +kernel
theorem dX4_leaveTrail_192 : decode cX4_leaveTrail 192 = .ok (.iastore, 1) := by decide +kernel
theorem dX4_leaveTrail_193 : decode cX4_leaveTrail 193 = .ok (.goto (-77), 3) := by decide +kernel
theorem dX4_leaveTrail_196 : decode cX4_leaveTrail 196 = .ok (.bipush 26, 2) := by decide +kernel
theorem dX4_leaveTrail_198 : decode cX4_leaveTrail 198 = .ok (.iconst 2, 1) := by decide +kernel
theorem dX4_leaveTrail_199 : decode cX4_leaveTrail 199 = .ok (.aload_n 0, 1) := by decide +kernel
theorem dX4_leaveTrail_200 : decode cX4_leaveTrail 200 = .ok (.getfield 7, 3) := by decide +kernel
theorem dX4_leaveTrail_203 : decode cX4_leaveTrail 203 = .ok (.bipush 25, 2) := by decide +kernel
theorem dX4_leaveTrail_205 : decode cX4_leaveTrail 205 = .ok (.iaload, 1) := by decide +kernel
theorem dX4_leaveTrail_206 : decode cX4_leaveTrail 206 = .ok (.imul, 1) := by decide +kernel
theorem dX4_leaveTrail_207 : decode cX4_leaveTrail 207 = .ok (.iadd, 1) := by decide +kernel
theorem dX4_leaveTrail_208 : decode cX4_leaveTrail 208 = .ok (.iconst 2, 1) := by decide +kernel
theorem dX4_leaveTrail_209 : decode cX4_leaveTrail 209 = .ok (.isub, 1) := by decide +kernel
theorem dX4_leaveTrail_210 : decode cX4_leaveTrail 210 = .ok (.istore_n 2, 1) := by decide +kernel
theorem dX4_leaveTrail_211 : decode cX4_leaveTrail 211 = .ok (.aload_n 0, 1) := by decide +kernel
theorem dX4_leaveTrail_212 : decode cX4_leaveTrail 212 = .ok (.getfield 7, 3) := by decide +kernel
theorem dX4_leaveTrail_215 : decode cX4_leaveTrail 215 = .ok (.bipush 25, 2) := by decide +kernel
theorem dX4_leaveTrail_217 : decode cX4_leaveTrail 217 = .ok (.iaload, 1) := by decide +kernel
theorem dX4_leaveTrail_218 : decode cX4_leaveTrail 218 = .ok (.iconst 1, 1) := by decide +kernel
theorem dX4_leaveTrail_219 : decode cX4_leaveTrail 219 = .ok (.if_icmp .le 44, 3) := by decide +kernel
theorem dX4_leaveTrail_222 : decode cX4_leaveTrail 222 = .ok (.aload_n 0, 1) := by decide +kernel
theorem dX4_leaveTrail_223 : decode cX4_leaveTrail 223 = .ok (.getfield 7, 3) := by decide +kernel
theorem dX4_leaveTrail_226 : decode cX4_leaveTrail 226 = .ok (.bipush 12, 2) := by decide +kernel
theorem dX4_leaveTrail_228 : decode cX4_leaveTrail 228 = .ok (.bipush 100, 2) := by decide +kernel
theorem dX4_leaveTrail_230 : decode cX4_leaveTrail 230 = .ok (.aload_n 0, 1) := by decide +kernel
theorem dX4_leaveTrail_231 : decode cX4_leaveTrail 231 = .ok (.getfield 7, 3) := by decide +kernel
theorem dX4_leaveTrail_234 : decode cX4_leaveTrail 234 = .ok (.iload_n 2, 1) := by decide +kernel
theorem dX4_leaveTrail_235 : decode cX4_leaveTrail 235 = .ok (.iconst 1, 1) := by decide +kernel
theorem dX4_leaveTrail_236 : decode cX4_leaveTrail 236 = .ok (.iadd, 1) := by decide +kernel
theorem dX4_leaveTrail_237 : decode cX4_leaveTrail 237 = .ok (.iaload, 1) := by decide +kernel
theorem dX4_leaveTrail_238 : decode cX4_leaveTrail 238 = .ok (.aload_n 0, 1) := by decide +kernel
theorem dX4_leaveTrail_239 : decode cX4_leaveTrail 239 = .ok (.getfield 7, 3) := by decide +kernel
theorem dX4_leaveTrail_242 : decode cX4_leaveTrail 242 = .ok (.bipush 27, 2) := by decide +kernel
theorem dX4_leaveTrail_244 : decode cX4_leaveTrail 244 = .ok (.iaload, 1) := by decide +kernel
theorem dX4_leaveTrail_245 : decode cX4_leaveTrail 245 = .ok (.isub, 1) := by decide +kernel
theorem dX4_leaveTrail_246 : decode cX4_leaveTrail 246 = .ok (.imul, 1) := by decide +kernel
theorem dX4_leaveTrail_247 : decode cX4_leaveTrail 247 = .ok (.aload_n 0, 1) := by decide +kernel
theorem dX4_leaveTrail_248 : decode cX4_leaveTrail 248 = .ok (.getfield 7, 3) := by decide +kernel
theorem dX4_leaveTrail_251 : decode cX4_leaveTrail 251 = .ok (.iload_n 2, 1) := by decide +kernel
theorem dX4_leaveTrail_252 : decode cX4_leaveTrail 252 = .ok (.iaload, 1) := by decide +kernel
theorem dX4_leaveTrail_253 : decode cX4_leaveTrail 253 = .ok (.aload_n 0, 1) := by decide +kernel
theorem dX4_leaveTrail_254 : decode cX4_leaveTrail 254 = .ok (.getfield 7, 3) := by decide +kernel
theorem dX4_leaveTrail_257 : decode cX4_leaveTrail 257 = .ok (.bipush 26, 2) := by decide +kernel
theorem dX4_leaveTrail_259 : decode cX4_leaveTrail 259 = .ok (.iaload, 1) := by decide +kernel
theorem dX4_leaveTrail_260 : decode cX4_leaveTrail 260 = .ok (.isub, 1) := by decide +kernel
theorem dX4_leaveTrail_261 : decode cX4_leaveTrail 261 = .ok (.idiv, 1) := by decide +kernel
theorem dX4_leaveTrail_262 : decode cX4_leaveTrail 262 = .ok (.iastore, 1) := by decide +kernel
theorem dX4_leaveTrail_263 : decode cX4_leaveTrail 263 = .ok (.return_, 1) := by decide +kernel
set_option maxRecDepth 20000 in
theorem ggX4_hearNow_X4_bestOf : GoodIn wsX4_hearNow wsX4_bestOf := goodIn_r _ [6, 1, 7, 8, 5, 9, 10, 11, 12, 13, 14, 15, 16, 17, 34, 35, 36, 37, 38, 39, 40, 41, 42, 43, 44, 45, 46, 47, 48, 49, 50, 51, 52] (by decide +kernel) (by decide +kernel)
set_option maxRecDepth 20000 in
theorem gX4_hearNow_X4_bestOf : GoodIn wsX4_hearNow (wsV RX4 71 RX4 yX4_bestOf wsX4_bestOf) := goodIn_app (goodIn_of _ (by decide +kernel)) ggX4_hearNow_X4_bestOf
set_option maxRecDepth 20000 in
theorem ggX4_hearNow_X4_isAccepted : GoodIn wsX4_hearNow wsX4_isAccepted := goodIn_r _ [21, 1, 10, 11, 12, 5, 13, 34, 35, 36, 37, 38, 39, 40, 41, 42, 43, 44, 45, 46, 47, 48, 49, 50, 51, 52] (by decide +kernel) (by decide +kernel)
set_option maxRecDepth 20000 in
theorem gX4_hearNow_X4_isAccepted : GoodIn wsX4_hearNow (wsV RX4 74 RX4 yX4_isAccepted wsX4_isAccepted) := goodIn_app (goodIn_of _ (by decide +kernel)) ggX4_hearNow_X4_isAccepted
set_option maxRecDepth 20000 in
theorem ggX4_hearNow_X4_follow : GoodIn wsX4_hearNow wsX4_follow := goodIn_r _ [25, 1, 26, 27, 28, 5, 29, 34, 35, 36, 37, 38, 39, 40, 41, 42, 43, 44, 45, 46, 47, 48, 49, 50, 51, 52] (by decide +kernel) (by decide +kernel)
set_option maxRecDepth 20000 in
theorem gX4_hearNow_X4_follow : GoodIn wsX4_hearNow (wsV RX4 78 RX4 yX4_follow wsX4_follow) := goodIn_app (goodIn_of _ (by decide +kernel)) ggX4_hearNow_X4_follow
set_option maxRecDepth 20000 in
theorem ggX4_hearNow_X4_keepWord : GoodIn wsX4_hearNow wsX4_keepWord := goodIn_r _ [33, 1, 34, 35, 36, 37, 38, 39, 40, 41, 42, 43, 44, 45, 46, 47, 48, 49, 50, 51, 52] (by decide +kernel) (by decide +kernel)
set_option maxRecDepth 20000 in
theorem gX4_hearNow_X4_keepWord : GoodIn wsX4_hearNow (wsV RX4 82 RX4 yX4_keepWord wsX4_keepWord) := goodIn_app (goodIn_of _ (by decide +kernel)) ggX4_hearNow_X4_keepWord
theorem dX4_hearNow_0 : decode cX4_hearNow 0 = .ok (.aload_n 0, 1) := by decide +kernel
theorem dX4_hearNow_1 : decode cX4_hearNow 1 = .ok (.iload_n 1, 1) := by decide +kernel
theorem dX4_hearNow_2 : decode cX4_hearNow 2 = .ok (.invokevirtual 71, 3) := by decide +kernel
theorem dX4_hearNow_5 : decode cX4_hearNow 5 = .ok (.istore_n 2, 1) := by decide +kernel
theorem dX4_hearNow_6 : decode cX4_hearNow 6 = .ok (.iload_n 2, 1) := by decide +kernel
theorem dX4_hearNow_7 : decode cX4_hearNow 7 = .ok (.bipush (-9), 2) := by decide +kernel
theorem dX4_hearNow_9 : decode cX4_hearNow 9 = .ok (.if_icmp .eq 15, 3) := by decide +kernel
theorem dX4_hearNow_12 : decode cX4_hearNow 12 = .ok (.aload_n 0, 1) := by decide +kernel
theorem dX4_hearNow_13 : decode cX4_hearNow 13 = .ok (.iload_n 2, 1) := by decide +kernel
theorem dX4_hearNow_14 : decode cX4_hearNow 14 = .ok (.invokevirtual 74, 3) := by decide +kernel
theorem dX4_hearNow_17 : decode cX4_hearNow 17 = .ok (.ifCond .eq 7, 3) := by decide +kernel
theorem dX4_hearNow_20 : decode cX4_hearNow 20 = .ok (.iconst 1, 1) := by decide +kernel
theorem dX4_hearNow_21 : decode cX4_hearNow 21 = .ok (.goto 4, 3) := by decide +kernel
theorem dX4_hearNow_24 : decode cX4_hearNow 24 = .ok (.iconst 0, 1) := by decide +kernel
theorem dX4_hearNow_25 : decode cX4_hearNow 25 = .ok (.istore_n 3, 1) := by decide +kernel
theorem dX4_hearNow_26 : decode cX4_hearNow 26 = .ok (.iload_n 3, 1) := by decide +kernel
theorem dX4_hearNow_27 : decode cX4_hearNow 27 = .ok (.ifCond .eq 11, 3) := by decide +kernel
theorem dX4_hearNow_30 : decode cX4_hearNow 30 = .ok (.aload_n 0, 1) := by decide +kernel
theorem dX4_hearNow_31 : decode cX4_hearNow 31 = .ok (.iload_n 2, 1) := by decide +kernel
theorem dX4_hearNow_32 : decode cX4_hearNow 32 = .ok (.invokevirtual 78, 3) := by decide +kernel
theorem dX4_hearNow_35 : decode cX4_hearNow 35 = .ok (.goto 14, 3) := by decide +kernel
theorem dX4_hearNow_38 : decode cX4_hearNow 38 = .ok (.aload_n 0, 1) := by decide +kernel
theorem dX4_hearNow_39 : decode cX4_hearNow 39 = .ok (.getfield 7, 3) := by decide +kernel
theorem dX4_hearNow_42 : decode cX4_hearNow 42 = .ok (.bipush 17, 2) := by decide +kernel
theorem dX4_hearNow_44 : decode cX4_hearNow 44 = .ok (.dup2, 1) := by decide +kernel
theorem dX4_hearNow_45 : decode cX4_hearNow 45 = .ok (.iaload, 1) := by decide +kernel
theorem dX4_hearNow_46 : decode cX4_hearNow 46 = .ok (.iconst 1, 1) := by decide +kernel
theorem dX4_hearNow_47 : decode cX4_hearNow 47 = .ok (.iadd, 1) := by decide +kernel
theorem dX4_hearNow_48 : decode cX4_hearNow 48 = .ok (.iastore, 1) := by decide +kernel
theorem dX4_hearNow_49 : decode cX4_hearNow 49 = .ok (.aload_n 0, 1) := by decide +kernel
theorem dX4_hearNow_50 : decode cX4_hearNow 50 = .ok (.iload_n 1, 1) := by decide +kernel
theorem dX4_hearNow_51 : decode cX4_hearNow 51 = .ok (.invokevirtual 82, 3) := by decide +kernel
theorem dX4_hearNow_54 : decode cX4_hearNow 54 = .ok (.iload_n 3, 1) := by decide +kernel
theorem dX4_hearNow_55 : decode cX4_hearNow 55 = .ok (.ifCond .eq 13, 3) := by decide +kernel
theorem dX4_hearNow_58 : decode cX4_hearNow 58 = .ok (.aload_n 0, 1) := by decide +kernel
theorem dX4_hearNow_59 : decode cX4_hearNow 59 = .ok (.getfield 7, 3) := by decide +kernel
theorem dX4_hearNow_62 : decode cX4_hearNow 62 = .ok (.bipush 11, 2) := by decide +kernel
theorem dX4_hearNow_64 : decode cX4_hearNow 64 = .ok (.iaload, 1) := by decide +kernel
theorem dX4_hearNow_65 : decode cX4_hearNow 65 = .ok (.goto 5, 3) := by decide +kernel
theorem dX4_hearNow_68 : decode cX4_hearNow 68 = .ok (.bipush (-9), 2) := by decide +kernel
theorem dX4_hearNow_70 : decode cX4_hearNow 70 = .ok (.ireturn, 1) := by decide +kernel
theorem dX4_nextCue_0 : decode cX4_nextCue 0 = .ok (.iconst 0, 1) := by decide +kernel
theorem dX4_nextCue_1 : decode cX4_nextCue 1 = .ok (.istore_n 1, 1) := by decide +kernel
theorem dX4_nextCue_2 : decode cX4_nextCue 2 = .ok (.iload_n 1, 1) := by decide +kernel
theorem dX4_nextCue_3 : decode cX4_nextCue 3 = .ok (.aload_n 0, 1) := by decide +kernel
theorem dX4_nextCue_4 : decode cX4_nextCue 4 = .ok (.getfield 7, 3) := by decide +kernel
theorem dX4_nextCue_7 : decode cX4_nextCue 7 = .ok (.bipush 9, 2) := by decide +kernel
theorem dX4_nextCue_9 : decode cX4_nextCue 9 = .ok (.iaload, 1) := by decide +kernel
theorem dX4_nextCue_10 : decode cX4_nextCue 10 = .ok (.if_icmp .ge 25, 3) := by decide +kernel
theorem dX4_nextCue_13 : decode cX4_nextCue 13 = .ok (.aload_n 0, 1) := by decide +kernel
theorem dX4_nextCue_14 : decode cX4_nextCue 14 = .ok (.getfield 7, 3) := by decide +kernel
theorem dX4_nextCue_17 : decode cX4_nextCue 17 = .ok (.sipush 270, 3) := by decide +kernel
theorem dX4_nextCue_20 : decode cX4_nextCue 20 = .ok (.iload_n 1, 1) := by decide +kernel
theorem dX4_nextCue_21 : decode cX4_nextCue 21 = .ok (.iadd, 1) := by decide +kernel
theorem dX4_nextCue_22 : decode cX4_nextCue 22 = .ok (.iaload, 1) := by decide +kernel
theorem dX4_nextCue_23 : decode cX4_nextCue 23 = .ok (.iconst 1, 1) := by decide +kernel
theorem dX4_nextCue_24 : decode cX4_nextCue 24 = .ok (.if_icmp .ne 5, 3) := by decide +kernel
theorem dX4_nextCue_27 : decode cX4_nextCue 27 = .ok (.iload_n 1, 1) := by decide +kernel
theorem dX4_nextCue_28 : decode cX4_nextCue 28 = .ok (.ireturn, 1) := by decide +kernel
theorem dX4_nextCue_29 : decode cX4_nextCue 29 = .ok (.iinc 1 1, 3) := by decide +kernel
theorem dX4_nextCue_32 : decode cX4_nextCue 32 = .ok (.goto (-30), 3) := by decide +kernel
theorem dX4_nextCue_35 : decode cX4_nextCue 35 = .ok (.bipush (-9), 2) := by decide +kernel
theorem dX4_nextCue_37 : decode cX4_nextCue 37 = .ok (.ireturn, 1) := by decide +kernel
set_option maxRecDepth 20000 in
theorem ggX4_estimated_X4_nextCue : GoodIn wsX4_estimated wsX4_nextCue := goodIn_r _ [6, 1, 7, 8, 9, 10, 11, 12, 13, 14, 15, 16, 17, 18, 19, 20, 21, 22, 23, 24, 25] (by decide +kernel) (by decide +kernel)
set_option maxRecDepth 20000 in
theorem gX4_estimated_X4_nextCue : GoodIn wsX4_estimated (wsV RX4 85 RX4 yX4_nextCue wsX4_nextCue) := goodIn_app (goodIn_of _ (by decide +kernel)) ggX4_estimated_X4_nextCue
theorem dX4_estimated_0 : decode cX4_estimated 0 = .ok (.bipush 100, 2) := by decide +kernel
theorem dX4_estimated_2 : decode cX4_estimated 2 = .ok (.aload_n 0, 1) := by decide +kernel
theorem dX4_estimated_3 : decode cX4_estimated 3 = .ok (.getfield 7, 3) := by decide +kernel
theorem dX4_estimated_6 : decode cX4_estimated 6 = .ok (.bipush 11, 2) := by decide +kernel
theorem dX4_estimated_8 : decode cX4_estimated 8 = .ok (.iaload, 1) := by decide +kernel
theorem dX4_estimated_9 : decode cX4_estimated 9 = .ok (.imul, 1) := by decide +kernel
theorem dX4_estimated_10 : decode cX4_estimated 10 = .ok (.aload_n 0, 1) := by decide +kernel
theorem dX4_estimated_11 : decode cX4_estimated 11 = .ok (.getfield 7, 3) := by decide +kernel
