theorem dX1_scrollTo_80 : decode cX1_scrollTo 80 = .ok (.dup, 1) := by decide +kernel
theorem dX1_scrollTo_81 : decode cX1_scrollTo 81 = .ok (.getfield 71, 3) := by decide +kernel
theorem dX1_scrollTo_84 : decode cX1_scrollTo 84 = .ok (.iconst 1, 1) := by decide +kernel
theorem dX1_scrollTo_85 : decode cX1_scrollTo 85 = .ok (.iadd, 1) := by decide +kernel
theorem dX1_scrollTo_86 : decode cX1_scrollTo 86 = .ok (.putfield 71, 3) := by decide +kernel
theorem dX1_scrollTo_89 : decode cX1_scrollTo 89 = .ok (.return_, 1) := by decide +kernel
theorem dX2_init_0 : decode cX2_init 0 = .ok (.aload_n 0, 1) := by decide +kernel
theorem dX2_init_1 : decode cX2_init 1 = .ok (.invokespecial 3, 3) := by decide +kernel
theorem dX2_init_4 : decode cX2_init 4 = .ok (.aload_n 0, 1) := by decide +kernel
theorem dX2_init_5 : decode cX2_init 5 = .ok (.bipush 61, 2) := by decide +kernel
theorem dX2_init_7 : decode cX2_init 7 = .ok (.newarray .int, 2) := by decide +kernel
theorem dX2_init_9 : decode cX2_init 9 = .ok (.putfield 9, 3) := by decide +kernel
theorem dX2_init_12 : decode cX2_init 12 = .ok (.aload_n 0, 1) := by decide +kernel
theorem dX2_init_13 : decode cX2_init 13 = .ok (.bipush 61, 2) := by decide +kernel
theorem dX2_init_15 : decode cX2_init 15 = .ok (.newarray .int, 2) := by decide +kernel
theorem dX2_init_17 : decode cX2_init 17 = .ok (.putfield 15, 3) := by decide +kernel
theorem dX2_init_20 : decode cX2_init 20 = .ok (.return_, 1) := by decide +kernel
set_option maxRecDepth 20000 in
theorem ggX2_become_X3_copyRow : GoodIn wsX2_become wsX3_copyRow := goodIn_r _ [6, 7, 8, 9, 10, 11, 12, 13, 14] (by decide +kernel) (by decide +kernel)
set_option maxRecDepth 20000 in
theorem gX2_become_X3_copyRow_n22 : GoodIn wsX2_become (wsX3_copyRow) := ggX2_become_X3_copyRow
theorem dX2_become_0 : decode cX2_become 0 = .ok (.aload_n 0, 1) := by decide +kernel
theorem dX2_become_1 : decode cX2_become 1 = .ok (.aload_n 1, 1) := by decide +kernel
theorem dX2_become_2 : decode cX2_become 2 = .ok (.getfield 18, 3) := by decide +kernel
theorem dX2_become_5 : decode cX2_become 5 = .ok (.putfield 18, 3) := by decide +kernel
theorem dX2_become_8 : decode cX2_become 8 = .ok (.aload_n 1, 1) := by decide +kernel
theorem dX2_become_9 : decode cX2_become 9 = .ok (.getfield 9, 3) := by decide +kernel
theorem dX2_become_12 : decode cX2_become 12 = .ok (.aload_n 0, 1) := by decide +kernel
theorem dX2_become_13 : decode cX2_become 13 = .ok (.getfield 9, 3) := by decide +kernel
theorem dX2_become_16 : decode cX2_become 16 = .ok (.invokestatic 22, 3) := by decide +kernel
theorem dX2_become_19 : decode cX2_become 19 = .ok (.aload_n 1, 1) := by decide +kernel
theorem dX2_become_20 : decode cX2_become 20 = .ok (.getfield 15, 3) := by decide +kernel
theorem dX2_become_23 : decode cX2_become 23 = .ok (.aload_n 0, 1) := by decide +kernel
theorem dX2_become_24 : decode cX2_become 24 = .ok (.getfield 15, 3) := by decide +kernel
theorem dX2_become_27 : decode cX2_become 27 = .ok (.invokestatic 22, 3) := by decide +kernel
theorem dX2_become_30 : decode cX2_become 30 = .ok (.return_, 1) := by decide +kernel
theorem dX2_empty_0 : decode cX2_empty 0 = .ok (.aload_n 0, 1) := by decide +kernel
theorem dX2_empty_1 : decode cX2_empty 1 = .ok (.iconst 0, 1) := by decide +kernel
theorem dX2_empty_2 : decode cX2_empty 2 = .ok (.putfield 18, 3) := by decide +kernel
theorem dX2_empty_5 : decode cX2_empty 5 = .ok (.return_, 1) := by decide +kernel
set_option maxRecDepth 20000 in
theorem ggX2_add_X3_at : GoodIn wsX2_add wsX3_at := goodIn_r _ [6] (by decide +kernel) (by decide +kernel)
set_option maxRecDepth 20000 in
theorem gX2_add_X3_at_n26 : GoodIn wsX2_add (wsX3_at) := ggX2_add_X3_at
set_option maxRecDepth 20000 in
theorem ggX2_add_X3_put : GoodIn wsX2_add wsX3_put := goodIn_r _ [8] (by decide +kernel) (by decide +kernel)
set_option maxRecDepth 20000 in
theorem gX2_add_X3_put_n30 : GoodIn wsX2_add (wsX3_put) := ggX2_add_X3_put
theorem dX2_add_0 : decode cX2_add 0 = .ok (.iconst 0, 1) := by decide +kernel
theorem dX2_add_1 : decode cX2_add 1 = .ok (.istore 4, 2) := by decide +kernel
theorem dX2_add_3 : decode cX2_add 3 = .ok (.iconst 0, 1) := by decide +kernel
theorem dX2_add_4 : decode cX2_add 4 = .ok (.istore 5, 2) := by decide +kernel
theorem dX2_add_6 : decode cX2_add 6 = .ok (.iload 5, 2) := by decide +kernel
theorem dX2_add_8 : decode cX2_add 8 = .ok (.aload_n 0, 1) := by decide +kernel
theorem dX2_add_9 : decode cX2_add 9 = .ok (.getfield 18, 3) := by decide +kernel
theorem dX2_add_12 : decode cX2_add 12 = .ok (.if_icmp .ge 66, 3) := by decide +kernel
theorem dX2_add_15 : decode cX2_add 15 = .ok (.aload_n 0, 1) := by decide +kernel
theorem dX2_add_16 : decode cX2_add 16 = .ok (.getfield 9, 3) := by decide +kernel
theorem dX2_add_19 : decode cX2_add 19 = .ok (.iload 5, 2) := by decide +kernel
theorem dX2_add_21 : decode cX2_add 21 = .ok (.invokestatic 26, 3) := by decide +kernel
theorem dX2_add_24 : decode cX2_add 24 = .ok (.istore 6, 2) := by decide +kernel
theorem dX2_add_26 : decode cX2_add 26 = .ok (.iload 6, 2) := by decide +kernel
theorem dX2_add_28 : decode cX2_add 28 = .ok (.iload_n 1, 1) := by decide +kernel
theorem dX2_add_29 : decode cX2_add 29 = .ok (.iload_n 3, 1) := by decide +kernel
theorem dX2_add_30 : decode cX2_add 30 = .ok (.isub, 1) := by decide +kernel
theorem dX2_add_31 : decode cX2_add 31 = .ok (.if_icmp .lt 41, 3) := by decide +kernel
theorem dX2_add_34 : decode cX2_add 34 = .ok (.iload 6, 2) := by decide +kernel
theorem dX2_add_36 : decode cX2_add 36 = .ok (.iload_n 1, 1) := by decide +kernel
theorem dX2_add_37 : decode cX2_add 37 = .ok (.if_icmp .eq 35, 3) := by decide +kernel
theorem dX2_add_40 : decode cX2_add 40 = .ok (.aload_n 0, 1) := by decide +kernel
theorem dX2_add_41 : decode cX2_add 41 = .ok (.getfield 9, 3) := by decide +kernel
theorem dX2_add_44 : decode cX2_add 44 = .ok (.iload 4, 2) := by decide +kernel
theorem dX2_add_46 : decode cX2_add 46 = .ok (.iload 6, 2) := by decide +kernel
theorem dX2_add_48 : decode cX2_add 48 = .ok (.invokestatic 30, 3) := by decide +kernel
theorem dX2_add_51 : decode cX2_add 51 = .ok (.aload_n 0, 1) := by decide +kernel
theorem dX2_add_52 : decode cX2_add 52 = .ok (.getfield 15, 3) := by decide +kernel
theorem dX2_add_55 : decode cX2_add 55 = .ok (.iload 4, 2) := by decide +kernel
theorem dX2_add_57 : decode cX2_add 57 = .ok (.aload_n 0, 1) := by decide +kernel
theorem dX2_add_58 : decode cX2_add 58 = .ok (.getfield 15, 3) := by decide +kernel
theorem dX2_add_61 : decode cX2_add 61 = .ok (.iload 5, 2) := by decide +kernel
theorem dX2_add_63 : decode cX2_add 63 = .ok (.invokestatic 26, 3) := by decide +kernel
theorem dX2_add_66 : decode cX2_add 66 = .ok (.invokestatic 30, 3) := by decide +kernel
theorem dX2_add_69 : decode cX2_add 69 = .ok (.iinc 4 1, 3) := by decide +kernel
theorem dX2_add_72 : decode cX2_add 72 = .ok (.iinc 5 1, 3) := by decide +kernel
theorem dX2_add_75 : decode cX2_add 75 = .ok (.goto (-69), 3) := by decide +kernel
theorem dX2_add_78 : decode cX2_add 78 = .ok (.aload_n 0, 1) := by decide +kernel
theorem dX2_add_79 : decode cX2_add 79 = .ok (.iload 4, 2) := by decide +kernel
theorem dX2_add_81 : decode cX2_add 81 = .ok (.putfield 18, 3) := by decide +kernel
theorem dX2_add_84 : decode cX2_add 84 = .ok (.aload_n 0, 1) := by decide +kernel
theorem dX2_add_85 : decode cX2_add 85 = .ok (.getfield 18, 3) := by decide +kernel
theorem dX2_add_88 : decode cX2_add 88 = .ok (.bipush 61, 2) := by decide +kernel
theorem dX2_add_90 : decode cX2_add 90 = .ok (.if_icmp .ge 37, 3) := by decide +kernel
theorem dX2_add_93 : decode cX2_add 93 = .ok (.aload_n 0, 1) := by decide +kernel
theorem dX2_add_94 : decode cX2_add 94 = .ok (.getfield 9, 3) := by decide +kernel
theorem dX2_add_97 : decode cX2_add 97 = .ok (.aload_n 0, 1) := by decide +kernel
theorem dX2_add_98 : decode cX2_add 98 = .ok (.getfield 18, 3) := by decide +kernel
theorem dX2_add_101 : decode cX2_add 101 = .ok (.iload_n 1, 1) := by decide +kernel
theorem dX2_add_102 : decode cX2_add 102 = .ok (.invokestatic 30, 3) := by decide +kernel
theorem dX2_add_105 : decode cX2_add 105 = .ok (.aload_n 0, 1) := by decide +kernel
theorem dX2_add_106 : decode cX2_add 106 = .ok (.getfield 15, 3) := by decide +kernel
theorem dX2_add_109 : decode cX2_add 109 = .ok (.aload_n 0, 1) := by decide +kernel
theorem dX2_add_110 : decode cX2_add 110 = .ok (.getfield 18, 3) := by decide +kernel
theorem dX2_add_113 : decode cX2_add 113 = .ok (.iload_n 2, 1) := by decide +kernel
theorem dX2_add_114 : decode cX2_add 114 = .ok (.invokestatic 30, 3) := by decide +kernel
theorem dX2_add_117 : decode cX2_add 117 = .ok (.aload_n 0, 1) := by decide +kernel
theorem dX2_add_118 : decode cX2_add 118 = .ok (.dup, 1) := by decide +kernel
theorem dX2_add_119 : decode cX2_add 119 = .ok (.getfield 18, 3) := by decide +kernel
theorem dX2_add_122 : decode cX2_add 122 = .ok (.iconst 1, 1) := by decide +kernel
theorem dX2_add_123 : decode cX2_add 123 = .ok (.iadd, 1) := by decide +kernel
theorem dX2_add_124 : decode cX2_add 124 = .ok (.putfield 18, 3) := by decide +kernel
theorem dX2_add_127 : decode cX2_add 127 = .ok (.return_, 1) := by decide +kernel
set_option maxRecDepth 20000 in
theorem ggX2_speedOr_X3_at : GoodIn wsX2_speedOr wsX3_at := goodIn_r _ [6] (by decide +kernel) (by decide +kernel)
set_option maxRecDepth 20000 in
theorem gX2_speedOr_X3_at_n26 : GoodIn wsX2_speedOr (wsX3_at) := ggX2_speedOr_X3_at
theorem dX2_speedOr_0 : decode cX2_speedOr 0 = .ok (.aload_n 0, 1) := by decide +kernel
theorem dX2_speedOr_1 : decode cX2_speedOr 1 = .ok (.getfield 9, 3) := by decide +kernel
theorem dX2_speedOr_4 : decode cX2_speedOr 4 = .ok (.aload_n 0, 1) := by decide +kernel
theorem dX2_speedOr_5 : decode cX2_speedOr 5 = .ok (.getfield 18, 3) := by decide +kernel
theorem dX2_speedOr_8 : decode cX2_speedOr 8 = .ok (.iconst 1, 1) := by decide +kernel
theorem dX2_speedOr_9 : decode cX2_speedOr 9 = .ok (.isub, 1) := by decide +kernel
theorem dX2_speedOr_10 : decode cX2_speedOr 10 = .ok (.invokestatic 26, 3) := by decide +kernel
theorem dX2_speedOr_13 : decode cX2_speedOr 13 = .ok (.aload_n 0, 1) := by decide +kernel
theorem dX2_speedOr_14 : decode cX2_speedOr 14 = .ok (.getfield 9, 3) := by decide +kernel
theorem dX2_speedOr_17 : decode cX2_speedOr 17 = .ok (.iconst 0, 1) := by decide +kernel
theorem dX2_speedOr_18 : decode cX2_speedOr 18 = .ok (.invokestatic 26, 3) := by decide +kernel
theorem dX2_speedOr_21 : decode cX2_speedOr 21 = .ok (.isub, 1) := by decide +kernel
theorem dX2_speedOr_22 : decode cX2_speedOr 22 = .ok (.istore_n 2, 1) := by decide +kernel
theorem dX2_speedOr_23 : decode cX2_speedOr 23 = .ok (.aload_n 0, 1) := by decide +kernel
theorem dX2_speedOr_24 : decode cX2_speedOr 24 = .ok (.getfield 18, 3) := by decide +kernel
theorem dX2_speedOr_27 : decode cX2_speedOr 27 = .ok (.iconst 2, 1) := by decide +kernel
theorem dX2_speedOr_28 : decode cX2_speedOr 28 = .ok (.if_icmp .lt 8, 3) := by decide +kernel
theorem dX2_speedOr_31 : decode cX2_speedOr 31 = .ok (.iload_n 2, 1) := by decide +kernel
theorem dX2_speedOr_32 : decode cX2_speedOr 32 = .ok (.iconst 1, 1) := by decide +kernel
theorem dX2_speedOr_33 : decode cX2_speedOr 33 = .ok (.if_icmp .ge 5, 3) := by decide +kernel
theorem dX2_speedOr_36 : decode cX2_speedOr 36 = .ok (.iload_n 1, 1) := by decide +kernel
theorem dX2_speedOr_37 : decode cX2_speedOr 37 = .ok (.ireturn, 1) := by decide +kernel
theorem dX2_speedOr_38 : decode cX2_speedOr 38 = .ok (.bipush 100, 2) := by decide +kernel
theorem dX2_speedOr_40 : decode cX2_speedOr 40 = .ok (.aload_n 0, 1) := by decide +kernel
theorem dX2_speedOr_41 : decode cX2_speedOr 41 = .ok (.getfield 15, 3) := by decide +kernel
theorem dX2_speedOr_44 : decode cX2_speedOr 44 = .ok (.aload_n 0, 1) := by decide +kernel
theorem dX2_speedOr_45 : decode cX2_speedOr 45 = .ok (.getfield 18, 3) := by decide +kernel
theorem dX2_speedOr_48 : decode cX2_speedOr 48 = .ok (.iconst 1, 1) := by decide +kernel
theorem dX2_speedOr_49 : decode cX2_speedOr 49 = .ok (.isub, 1) := by decide +kernel
theorem dX2_speedOr_50 : decode cX2_speedOr 50 = .ok (.invokestatic 26, 3) := by decide +kernel
theorem dX2_speedOr_53 : decode cX2_speedOr 53 = .ok (.aload_n 0, 1) := by decide +kernel
theorem dX2_speedOr_54 : decode cX2_speedOr 54 = .ok (.getfield 15, 3) := by decide +kernel
theorem dX2_speedOr_57 : decode cX2_speedOr 57 = .ok (.iconst 0, 1) := by decide +kernel
theorem dX2_speedOr_58 : decode cX2_speedOr 58 = .ok (.invokestatic 26, 3) := by decide +kernel
theorem dX2_speedOr_61 : decode cX2_speedOr 61 = .ok (.isub, 1) := by decide +kernel
theorem dX2_speedOr_62 : decode cX2_speedOr 62 = .ok (.imul, 1) := by decide +kernel
theorem dX2_speedOr_63 : decode cX2_speedOr 63 = .ok (.iload_n 2, 1) := by decide +kernel
theorem dX2_speedOr_64 : decode cX2_speedOr 64 = .ok (.idiv, 1) := by decide +kernel
theorem dX2_speedOr_65 : decode cX2_speedOr 65 = .ok (.ireturn, 1) := by decide +kernel
set_option maxRecDepth 20000 in
theorem ggX3_init_X0_init : GoodIn wsX3_init wsX0_init := goodIn_r _ [22, 23, 2, 3, 4, 24, 25, 26, 27, 28, 126, 127, 128, 129, 130, 131, 132, 133, 134] (by decide +kernel) (by decide +kernel)
set_option maxRecDepth 20000 in
theorem gX3_init_X0_init_n15 : GoodIn wsX3_init (wsX0_init) := ggX3_init_X0_init
set_option maxRecDepth 20000 in
theorem ggX3_init_X1_init : GoodIn wsX3_init wsX1_init := goodIn_r _ [30, 31, 2, 3, 4, 32, 33, 7, 8, 34, 35, 36, 37, 38, 39, 21, 22, 23, 24, 25, 26, 27, 28, 40, 41, 42, 43, 44, 135, 136, 137, 138, 139, 140, 141, 142, 143, 144, 145, 146, 147, 148, 149, 126, 127, 128, 129, 130, 131, 132, 133, 134, 150, 151, 152] (by decide +kernel) (by decide +kernel)
set_option maxRecDepth 20000 in
theorem gX3_init_X1_init_n22 : GoodIn wsX3_init (wsX1_init) := ggX3_init_X1_init
set_option maxRecDepth 20000 in
theorem ggX3_init_X3_copyRow : GoodIn wsX3_init wsX3_copyRow := goodIn_r _ [48, 49, 50, 51, 52, 53, 54, 55, 56] (by decide +kernel) (by decide +kernel)
set_option maxRecDepth 20000 in
theorem gX3_init_X3_copyRow : GoodIn wsX3_init (va_wsS RX3 47 yX3_copyRow wsX3_copyRow) := goodIn_app (goodIn_of _ (by decide +kernel)) ggX3_init_X3_copyRow
set_option maxRecDepth 20000 in
theorem ggX3_init_X0_empty : GoodIn wsX3_init wsX0_empty := goodIn_r _ [60, 61, 62, 63, 126, 127, 128, 129, 130, 131, 132, 133, 134] (by decide +kernel) (by decide +kernel)
set_option maxRecDepth 20000 in
theorem gX3_init_X0_empty : GoodIn wsX3_init (wsV RX3 51 RX0 yX0_empty wsX0_empty) := goodIn_app (goodIn_of _ (by decide +kernel)) ggX3_init_X0_empty
set_option maxRecDepth 20000 in
theorem ggX3_init_X0_read : GoodIn wsX3_init wsX0_read := goodIn_r _ [67, 63, 68, 47, 69, 70, 71, 72, 8, 73, 61, 24, 25, 62, 26, 74, 75, 76, 77, 78, 79, 80, 81, 82, 83, 126, 127, 128, 129, 130, 131, 132, 133, 134] (by decide +kernel) (by decide +kernel)
set_option maxRecDepth 20000 in
theorem gX3_init_X0_read : GoodIn wsX3_init (wsV RX3 54 RX0 yX0_read wsX0_read) := goodIn_app (goodIn_of _ (by decide +kernel)) ggX3_init_X0_read
set_option maxRecDepth 20000 in
theorem ggX3_init_X1_begin : GoodIn wsX3_init wsX1_begin := goodIn_r _ [87, 34, 32, 38, 88, 89, 90, 91, 92, 93, 94, 95, 96, 97, 98, 99, 100, 101, 8, 102, 61, 62, 63, 103, 24, 25, 26, 27, 28, 46, 47, 48, 49, 50, 51, 52, 53, 54, 55, 56, 104, 105, 106, 107, 108, 109, 74, 75, 110, 111, 112, 37, 113, 114, 135, 136, 137, 138, 139, 140, 141, 142, 143, 144, 145, 146, 147, 148, 149, 126, 127, 128, 129, 130, 131, 132, 133, 134, 150, 151, 152] (by decide +kernel) (by decide +kernel)
set_option maxRecDepth 20000 in
theorem gX3_init_X1_begin : GoodIn wsX3_init (wsV RX3 58 RX1 yX1_begin wsX1_begin) := goodIn_app (goodIn_of _ (by decide +kernel)) ggX3_init_X1_begin
theorem dX3_init_0 : decode cX3_init 0 = .ok (.aload_n 0, 1) := by decide +kernel
theorem dX3_init_1 : decode cX3_init 1 = .ok (.invokespecial 1, 3) := by decide +kernel
theorem dX3_init_4 : decode cX3_init 4 = .ok (.aload_n 0, 1) := by decide +kernel
theorem dX3_init_5 : decode cX3_init 5 = .ok (.sipush 140, 3) := by decide +kernel
theorem dX3_init_8 : decode cX3_init 8 = .ok (.newarray .int, 2) := by decide +kernel
theorem dX3_init_10 : decode cX3_init 10 = .ok (.putfield 9, 3) := by decide +kernel
theorem dX3_init_13 : decode cX3_init 13 = .ok (.aload_n 0, 1) := by decide +kernel
theorem dX3_init_14 : decode cX3_init 14 = .ok (.new 13, 3) := by decide +kernel
theorem dX3_init_17 : decode cX3_init 17 = .ok (.dup, 1) := by decide +kernel
theorem dX3_init_18 : decode cX3_init 18 = .ok (.invokespecial 15, 3) := by decide +kernel
theorem dX3_init_21 : decode cX3_init 21 = .ok (.putfield 16, 3) := by decide +kernel
theorem dX3_init_24 : decode cX3_init 24 = .ok (.aload_n 0, 1) := by decide +kernel
theorem dX3_init_25 : decode cX3_init 25 = .ok (.new 20, 3) := by decide +kernel
theorem dX3_init_28 : decode cX3_init 28 = .ok (.dup, 1) := by decide +kernel
theorem dX3_init_29 : decode cX3_init 29 = .ok (.invokespecial 22, 3) := by decide +kernel
theorem dX3_init_32 : decode cX3_init 32 = .ok (.putfield 23, 3) := by decide +kernel
theorem dX3_init_35 : decode cX3_init 35 = .ok (.aload_n 0, 1) := by decide +kernel
theorem dX3_init_36 : decode cX3_init 36 = .ok (.new 20, 3) := by decide +kernel
theorem dX3_init_39 : decode cX3_init 39 = .ok (.dup, 1) := by decide +kernel
theorem dX3_init_40 : decode cX3_init 40 = .ok (.invokespecial 22, 3) := by decide +kernel
theorem dX3_init_43 : decode cX3_init 43 = .ok (.putfield 27, 3) := by decide +kernel
theorem dX3_init_46 : decode cX3_init 46 = .ok (.aload_n 0, 1) := by decide +kernel
theorem dX3_init_47 : decode cX3_init 47 = .ok (.bipush 8, 2) := by decide +kernel
theorem dX3_init_49 : decode cX3_init 49 = .ok (.anewarray 20, 3) := by decide +kernel
theorem dX3_init_52 : decode cX3_init 52 = .ok (.putfield 30, 3) := by decide +kernel
theorem dX3_init_55 : decode cX3_init 55 = .ok (.aload_n 0, 1) := by decide +kernel
theorem dX3_init_56 : decode cX3_init 56 = .ok (.iconst 2, 1) := by decide +kernel
theorem dX3_init_57 : decode cX3_init 57 = .ok (.anewarray 20, 3) := by decide +kernel
theorem dX3_init_60 : decode cX3_init 60 = .ok (.putfield 34, 3) := by decide +kernel
theorem dX3_init_63 : decode cX3_init 63 = .ok (.aload_n 0, 1) := by decide +kernel
theorem dX3_init_64 : decode cX3_init 64 = .ok (.iconst 2, 1) := by decide +kernel
theorem dX3_init_65 : decode cX3_init 65 = .ok (.newarray .boolean, 2) := by decide +kernel
theorem dX3_init_67 : decode cX3_init 67 = .ok (.putfield 37, 3) := by decide +kernel
theorem dX3_init_70 : decode cX3_init 70 = .ok (.iconst 0, 1) := by decide +kernel
theorem dX3_init_71 : decode cX3_init 71 = .ok (.istore_n 1, 1) := by decide +kernel
theorem dX3_init_72 : decode cX3_init 72 = .ok (.iload_n 1, 1) := by decide +kernel
theorem dX3_init_73 : decode cX3_init 73 = .ok (.aload_n 0, 1) := by decide +kernel
theorem dX3_init_74 : decode cX3_init 74 = .ok (.getfield 30, 3) := by decide +kernel
theorem dX3_init_77 : decode cX3_init 77 = .ok (.arraylength, 1) := by decide +kernel
theorem dX3_init_78 : decode cX3_init 78 = .ok (.if_icmp .ge 22, 3) := by decide +kernel
theorem dX3_init_81 : decode cX3_init 81 = .ok (.aload_n 0, 1) := by decide +kernel
theorem dX3_init_82 : decode cX3_init 82 = .ok (.getfield 30, 3) := by decide +kernel
theorem dX3_init_85 : decode cX3_init 85 = .ok (.iload_n 1, 1) := by decide +kernel
theorem dX3_init_86 : decode cX3_init 86 = .ok (.new 20, 3) := by decide +kernel
theorem dX3_init_89 : decode cX3_init 89 = .ok (.dup, 1) := by decide +kernel
theorem dX3_init_90 : decode cX3_init 90 = .ok (.invokespecial 22, 3) := by decide +kernel
theorem dX3_init_93 : decode cX3_init 93 = .ok (.aastore, 1) := by decide +kernel
theorem dX3_init_94 : decode cX3_init 94 = .ok (.iinc 1 1, 3) := by decide +kernel
theorem dX3_init_97 : decode cX3_init 97 = .ok (.goto (-25), 3) := by decide +kernel
theorem dX3_init_100 : decode cX3_init 100 = .ok (.iconst 0, 1) := by decide +kernel
theorem dX3_init_101 : decode cX3_init 101 = .ok (.istore_n 1, 1) := by decide +kernel
theorem dX3_init_102 : decode cX3_init 102 = .ok (.iload_n 1, 1) := by decide +kernel
theorem dX3_init_103 : decode cX3_init 103 = .ok (.aload_n 0, 1) := by decide +kernel
theorem dX3_init_104 : decode cX3_init 104 = .ok (.getfield 34, 3) := by decide +kernel
theorem dX3_init_107 : decode cX3_init 107 = .ok (.arraylength, 1) := by decide +kernel
theorem dX3_init_108 : decode cX3_init 108 = .ok (.if_icmp .ge 22, 3) := by decide +kernel
theorem dX3_init_111 : decode cX3_init 111 = .ok (.aload_n 0, 1) := by decide +kernel
theorem dX3_init_112 : decode cX3_init 112 = .ok (.getfield 34, 3) := by decide +kernel
theorem dX3_init_115 : decode cX3_init 115 = .ok (.iload_n 1, 1) := by decide +kernel
theorem dX3_init_116 : decode cX3_init 116 = .ok (.new 20, 3) := by decide +kernel
theorem dX3_init_119 : decode cX3_init 119 = .ok (.dup, 1) := by decide +kernel
theorem dX3_init_120 : decode cX3_init 120 = .ok (.invokespecial 22, 3) := by decide +kernel
theorem dX3_init_123 : decode cX3_init 123 = .ok (.aastore, 1) := by decide +kernel
theorem dX3_init_124 : decode cX3_init 124 = .ok (.iinc 1 1, 3) := by decide +kernel
theorem dX3_init_127 : decode cX3_init 127 = .ok (.goto (-25), 3) := by decide +kernel
theorem dX3_init_130 : decode cX3_init 130 = .ok (.getstatic 41, 3) := by decide +kernel
theorem dX3_init_133 : decode cX3_init 133 = .ok (.aload_n 0, 1) := by decide +kernel
theorem dX3_init_134 : decode cX3_init 134 = .ok (.getfield 23, 3) := by decide +kernel
theorem dX3_init_137 : decode cX3_init 137 = .ok (.getfield 44, 3) := by decide +kernel
theorem dX3_init_140 : decode cX3_init 140 = .ok (.invokestatic 47, 3) := by decide +kernel
theorem dX3_init_143 : decode cX3_init 143 = .ok (.aload_n 0, 1) := by decide +kernel
theorem dX3_init_144 : decode cX3_init 144 = .ok (.getfield 16, 3) := by decide +kernel
theorem dX3_init_147 : decode cX3_init 147 = .ok (.invokevirtual 51, 3) := by decide +kernel
theorem dX3_init_150 : decode cX3_init 150 = .ok (.aload_n 0, 1) := by decide +kernel
theorem dX3_init_151 : decode cX3_init 151 = .ok (.getfield 16, 3) := by decide +kernel
theorem dX3_init_154 : decode cX3_init 154 = .ok (.bipush 97, 2) := by decide +kernel
theorem dX3_init_156 : decode cX3_init 156 = .ok (.bipush 32, 2) := by decide +kernel
theorem dX3_init_158 : decode cX3_init 158 = .ok (.invokevirtual 54, 3) := by decide +kernel
theorem dX3_init_161 : decode cX3_init 161 = .ok (.pop, 1) := by decide +kernel
theorem dX3_init_162 : decode cX3_init 162 = .ok (.aload_n 0, 1) := by decide +kernel
theorem dX3_init_163 : decode cX3_init 163 = .ok (.getfield 23, 3) := by decide +kernel
theorem dX3_init_166 : decode cX3_init 166 = .ok (.aload_n 0, 1) := by decide +kernel
theorem dX3_init_167 : decode cX3_init 167 = .ok (.getfield 16, 3) := by decide +kernel
theorem dX3_init_170 : decode cX3_init 170 = .ok (.invokevirtual 58, 3) := by decide +kernel
theorem dX3_init_173 : decode cX3_init 173 = .ok (.return_, 1) := by decide +kernel
set_option maxRecDepth 20000 in
theorem ggX3_load_X3_readText : GoodIn wsX3_load wsX3_readText := goodIn_r _ [9, 2, 10, 11, 12, 13, 14, 15, 16, 17, 18, 19, 20, 21, 22, 23, 24, 8, 25, 26, 27, 28, 29, 30, 31, 32, 33, 34, 35, 36, 37, 38, 39, 40, 41, 42, 43, 44, 45, 46, 47, 48, 121, 122, 123, 124, 125, 126, 127, 128, 129, 130, 131, 147, 148, 149, 150, 151, 152, 153, 154, 155] (by decide +kernel) (by decide +kernel)
set_option maxRecDepth 20000 in
theorem gX3_load_X3_readText : GoodIn wsX3_load (wsV RX3 62 RX3 yX3_readText wsX3_readText) := goodIn_app (goodIn_of _ (by decide +kernel)) ggX3_load_X3_readText
set_option maxRecDepth 20000 in
theorem ggX3_load_X3_record : GoodIn wsX3_load wsX3_record := goodIn_r _ [52, 53, 54, 1, 55, 56, 57, 8, 58, 59, 60, 61, 62, 63, 64, 65, 66, 67, 68, 69, 70, 71, 72, 73, 74, 75, 76, 77, 78, 79, 80, 81, 82, 83, 84, 85, 86, 87, 88, 89, 90, 91, 92, 93, 94, 95, 96, 18, 97, 20, 21, 22, 98, 36, 37, 38, 99, 100, 101, 102, 103, 104, 105, 106, 107, 108, 121, 122, 123, 124, 125, 126, 127, 128, 129, 130, 131, 132, 133, 134, 135, 136, 137, 138, 139, 140, 141, 142, 143, 144, 145, 146, 147, 148, 149, 150, 151, 152, 153, 154, 155, 156, 157, 158] (by decide +kernel) (by decide +kernel)
set_option maxRecDepth 20000 in
theorem gX3_load_X3_record : GoodIn wsX3_load (wsV RX3 66 RX3 yX3_record wsX3_record) := goodIn_app (goodIn_of _ (by decide +kernel)) ggX3_load_X3_record
set_option maxRecDepth 20000 in
theorem ggX3_load_X1_begin : GoodIn wsX3_load wsX1_begin := goodIn_r _ [112, 70, 69, 71, 73, 74, 75, 76, 77, 78, 79, 80, 81, 82, 83, 94, 95, 96, 18, 97, 20, 21, 22, 98, 36, 37, 38, 99, 100, 84, 8, 85, 86, 87, 88, 89, 90, 91, 92, 93, 24, 25, 113, 114, 115, 116, 39, 40, 117, 118, 119, 104, 120, 106, 132, 133, 134, 135, 136, 137, 138, 139, 140, 141, 142, 143, 144, 145, 146, 147, 148, 149, 150, 151, 152, 153, 154, 155, 156, 157, 158] (by decide +kernel) (by decide +kernel)
set_option maxRecDepth 20000 in
theorem gX3_load_X1_begin : GoodIn wsX3_load (wsV RX3 58 RX1 yX1_begin wsX1_begin) := goodIn_app (goodIn_of _ (by decide +kernel)) ggX3_load_X1_begin
theorem dX3_load_0 : decode cX3_load 0 = .ok (.aload_n 0, 1) := by decide +kernel
theorem dX3_load_1 : decode cX3_load 1 = .ok (.invokevirtual 62, 3) := by decide +kernel
theorem dX3_load_4 : decode cX3_load 4 = .ok (.ifCond .ne 6, 3) := by decide +kernel
theorem dX3_load_7 : decode cX3_load 7 = .ok (.bipush (-2), 2) := by decide +kernel
theorem dX3_load_9 : decode cX3_load 9 = .ok (.ireturn, 1) := by decide +kernel
theorem dX3_load_10 : decode cX3_load 10 = .ok (.aload_n 0, 1) := by decide +kernel
theorem dX3_load_11 : decode cX3_load 11 = .ok (.invokevirtual 66, 3) := by decide +kernel
theorem dX3_load_14 : decode cX3_load 14 = .ok (.aload_n 0, 1) := by decide +kernel
theorem dX3_load_15 : decode cX3_load 15 = .ok (.getfield 23, 3) := by decide +kernel
theorem dX3_load_18 : decode cX3_load 18 = .ok (.aload_n 0, 1) := by decide +kernel
theorem dX3_load_19 : decode cX3_load 19 = .ok (.getfield 16, 3) := by decide +kernel
theorem dX3_load_22 : decode cX3_load 22 = .ok (.invokevirtual 58, 3) := by decide +kernel
theorem dX3_load_25 : decode cX3_load 25 = .ok (.aload_n 0, 1) := by decide +kernel
theorem dX3_load_26 : decode cX3_load 26 = .ok (.getfield 23, 3) := by decide +kernel
theorem dX3_load_29 : decode cX3_load 29 = .ok (.getfield 69, 3) := by decide +kernel
theorem dX3_load_32 : decode cX3_load 32 = .ok (.getfield 72, 3) := by decide +kernel
theorem dX3_load_35 : decode cX3_load 35 = .ok (.ireturn, 1) := by decide +kernel
set_option maxRecDepth 20000 in
theorem ggX3_set_X3_isSetting : GoodIn wsX3_set wsX3_isSetting := goodIn_r _ [8] (by decide +kernel) (by decide +kernel)
set_option maxRecDepth 20000 in
theorem gX3_set_X3_isSetting : GoodIn wsX3_set (va_wsS RX3 76 yX3_isSetting wsX3_isSetting) := goodIn_app (goodIn_of _ (by decide +kernel)) ggX3_set_X3_isSetting
set_option maxRecDepth 20000 in
theorem ggX3_set_X3_at : GoodIn wsX3_set wsX3_at := goodIn_r _ [11] (by decide +kernel) (by decide +kernel)
set_option maxRecDepth 20000 in
theorem gX3_set_X3_at : GoodIn wsX3_set (va_wsS RX3 83 yX3_at wsX3_at) := goodIn_app (goodIn_of _ (by decide +kernel)) ggX3_set_X3_at
set_option maxRecDepth 20000 in
theorem ggX3_set_X3_record : GoodIn wsX3_set wsX3_record := goodIn_r _ [15, 16, 17, 3, 18, 19, 20, 7, 21, 22, 23, 24, 25, 26, 27, 28, 29, 30, 31, 32, 33, 34, 35, 36, 37, 38, 39, 40, 41, 42, 43, 44, 45, 46, 47, 48, 49, 50, 51, 52, 53, 54, 55, 56, 57, 58, 59, 60, 61, 62, 63, 64, 65, 66, 67, 68, 69, 70, 71, 72, 73, 74, 75, 76, 77, 78, 100, 101, 102, 103, 104, 105, 106, 107, 108, 109, 110, 111, 112, 113, 114, 115, 116, 117, 118, 119, 120, 121, 122, 123, 124, 125, 126, 127, 128, 129, 130, 131, 132, 133, 134, 135, 136, 137] (by decide +kernel) (by decide +kernel)
set_option maxRecDepth 20000 in
theorem gX3_set_X3_record : GoodIn wsX3_set (wsV RX3 66 RX3 yX3_record wsX3_record) := goodIn_app (goodIn_of _ (by decide +kernel)) ggX3_set_X3_record
set_option maxRecDepth 20000 in
theorem ggX3_set_X1_change : GoodIn wsX3_set wsX1_change := goodIn_r _ [82, 32, 33, 41, 83, 7, 84, 10, 11, 85, 86, 87, 60, 88, 65, 62, 67, 70, 69, 89, 90, 91, 30, 92, 93, 94, 95, 51, 96, 97, 98, 49, 50, 52, 99, 111, 112, 113, 114, 115, 116, 117, 118, 119, 120, 121, 122, 123, 124, 125, 126, 127, 128, 129, 130, 131, 132, 133, 134] (by decide +kernel) (by decide +kernel)
set_option maxRecDepth 20000 in
theorem gX3_set_X1_change : GoodIn wsX3_set (wsV RX3 90 RX1 yX1_change wsX1_change) := goodIn_app (goodIn_of _ (by decide +kernel)) ggX3_set_X1_change
theorem dX3_set_0 : decode cX3_set 0 = .ok (.iload_n 1, 1) := by decide +kernel
theorem dX3_set_1 : decode cX3_set 1 = .ok (.invokestatic 76, 3) := by decide +kernel
theorem dX3_set_4 : decode cX3_set 4 = .ok (.ifCond .eq 25, 3) := by decide +kernel
theorem dX3_set_7 : decode cX3_set 7 = .ok (.iload_n 2, 1) := by decide +kernel
theorem dX3_set_8 : decode cX3_set 8 = .ok (.getstatic 80, 3) := by decide +kernel
theorem dX3_set_11 : decode cX3_set 11 = .ok (.iload_n 1, 1) := by decide +kernel
theorem dX3_set_12 : decode cX3_set 12 = .ok (.invokestatic 83, 3) := by decide +kernel
theorem dX3_set_15 : decode cX3_set 15 = .ok (.if_icmp .lt 14, 3) := by decide +kernel
theorem dX3_set_18 : decode cX3_set 18 = .ok (.iload_n 2, 1) := by decide +kernel
theorem dX3_set_19 : decode cX3_set 19 = .ok (.getstatic 87, 3) := by decide +kernel
theorem dX3_set_22 : decode cX3_set 22 = .ok (.iload_n 1, 1) := by decide +kernel
theorem dX3_set_23 : decode cX3_set 23 = .ok (.invokestatic 83, 3) := by decide +kernel
theorem dX3_set_26 : decode cX3_set 26 = .ok (.if_icmp .le 5, 3) := by decide +kernel
theorem dX3_set_29 : decode cX3_set 29 = .ok (.iconst (-1), 1) := by decide +kernel
theorem dX3_set_30 : decode cX3_set 30 = .ok (.ireturn, 1) := by decide +kernel
theorem dX3_set_31 : decode cX3_set 31 = .ok (.aload_n 0, 1) := by decide +kernel
theorem dX3_set_32 : decode cX3_set 32 = .ok (.invokevirtual 66, 3) := by decide +kernel
theorem dX3_set_35 : decode cX3_set 35 = .ok (.aload_n 0, 1) := by decide +kernel
theorem dX3_set_36 : decode cX3_set 36 = .ok (.getfield 23, 3) := by decide +kernel
theorem dX3_set_39 : decode cX3_set 39 = .ok (.getfield 44, 3) := by decide +kernel
theorem dX3_set_42 : decode cX3_set 42 = .ok (.iload_n 1, 1) := by decide +kernel
theorem dX3_set_43 : decode cX3_set 43 = .ok (.invokestatic 83, 3) := by decide +kernel
theorem dX3_set_46 : decode cX3_set 46 = .ok (.istore_n 3, 1) := by decide +kernel
theorem dX3_set_47 : decode cX3_set 47 = .ok (.aload_n 0, 1) := by decide +kernel
theorem dX3_set_48 : decode cX3_set 48 = .ok (.getfield 23, 3) := by decide +kernel
theorem dX3_set_51 : decode cX3_set 51 = .ok (.iload_n 1, 1) := by decide +kernel
theorem dX3_set_52 : decode cX3_set 52 = .ok (.iload_n 2, 1) := by decide +kernel
theorem dX3_set_53 : decode cX3_set 53 = .ok (.invokevirtual 90, 3) := by decide +kernel
theorem dX3_set_56 : decode cX3_set 56 = .ok (.iload_n 3, 1) := by decide +kernel
theorem dX3_set_57 : decode cX3_set 57 = .ok (.ireturn, 1) := by decide +kernel
set_option maxRecDepth 20000 in
theorem ggX3_hear_X3_isLetter : GoodIn wsX3_hear wsX3_isLetter := goodIn_r _ [6] (by decide +kernel) (by decide +kernel)
set_option maxRecDepth 20000 in
theorem gX3_hear_X3_isLetter : GoodIn wsX3_hear (va_wsS RX3 94 yX3_isLetter wsX3_isLetter) := goodIn_app (goodIn_of _ (by decide +kernel)) ggX3_hear_X3_isLetter
set_option maxRecDepth 20000 in
theorem ggX3_hear_X3_record : GoodIn wsX3_hear wsX3_record := goodIn_r _ [10, 11, 12, 1, 13, 14, 15, 5, 16, 17, 18, 19, 20, 21, 22, 23, 24, 25, 26, 27, 28, 29, 30, 31, 32, 33, 34, 35, 36, 37, 38, 39, 40, 41, 42, 43, 44, 45, 46, 47, 48, 49, 50, 51, 52, 53, 54, 55, 56, 57, 58, 59, 60, 61, 62, 63, 64, 65, 66, 67, 68, 69, 70, 71, 72, 73, 131, 132, 133, 134, 135, 136, 137, 138, 139, 140, 141, 142, 143, 144, 145, 146, 147, 148, 149, 150, 151, 152, 153, 154, 155, 156, 157, 158, 159, 160, 161, 162, 163, 164, 165, 166, 167, 168] (by decide +kernel) (by decide +kernel)
set_option maxRecDepth 20000 in
theorem gX3_hear_X3_record : GoodIn wsX3_hear (wsV RX3 66 RX3 yX3_record wsX3_record) := goodIn_app (goodIn_of _ (by decide +kernel)) ggX3_hear_X3_record
set_option maxRecDepth 20000 in
theorem ggX3_hear_X1_listen : GoodIn wsX3_hear wsX1_listen := goodIn_r _ [77, 39, 78, 79, 80, 25, 81, 32, 27, 82, 83, 46, 84, 28, 85, 86, 45, 47, 87, 88, 5, 89, 90, 91, 92, 93, 94, 95, 96, 97, 98, 99, 100, 31, 30, 101, 102, 103, 104, 105, 106, 107, 108, 37, 29, 38, 34, 35, 33, 41, 109, 110, 111, 69, 112, 71, 113, 114, 115, 116, 72, 73, 117, 118, 119, 120, 121, 122, 123, 124, 125, 55, 126, 57, 63, 127, 128, 129, 130, 142, 143, 144, 145, 146, 147, 148, 149, 150, 151, 152, 153, 154, 155, 156, 157, 158, 159, 160, 161, 162, 163, 164, 165, 166, 167, 168] (by decide +kernel) (by decide +kernel)
set_option maxRecDepth 20000 in
theorem gX3_hear_X1_listen : GoodIn wsX3_hear (wsV RX3 97 RX1 yX1_listen wsX1_listen) := goodIn_app (goodIn_of _ (by decide +kernel)) ggX3_hear_X1_listen
theorem dX3_hear_0 : decode cX3_hear 0 = .ok (.iload_n 1, 1) := by decide +kernel
theorem dX3_hear_1 : decode cX3_hear 1 = .ok (.invokestatic 94, 3) := by decide +kernel
theorem dX3_hear_4 : decode cX3_hear 4 = .ok (.ifCond .ne 5, 3) := by decide +kernel
theorem dX3_hear_7 : decode cX3_hear 7 = .ok (.iconst (-1), 1) := by decide +kernel
theorem dX3_hear_8 : decode cX3_hear 8 = .ok (.ireturn, 1) := by decide +kernel
theorem dX3_hear_9 : decode cX3_hear 9 = .ok (.aload_n 0, 1) := by decide +kernel
theorem dX3_hear_10 : decode cX3_hear 10 = .ok (.invokevirtual 66, 3) := by decide +kernel
theorem dX3_hear_13 : decode cX3_hear 13 = .ok (.aload_n 0, 1) := by decide +kernel
theorem dX3_hear_14 : decode cX3_hear 14 = .ok (.getfield 23, 3) := by decide +kernel
theorem dX3_hear_17 : decode cX3_hear 17 = .ok (.iload_n 1, 1) := by decide +kernel
theorem dX3_hear_18 : decode cX3_hear 18 = .ok (.invokevirtual 97, 3) := by decide +kernel
theorem dX3_hear_21 : decode cX3_hear 21 = .ok (.ifCond .eq 13, 3) := by decide +kernel
theorem dX3_hear_24 : decode cX3_hear 24 = .ok (.aload_n 0, 1) := by decide +kernel
theorem dX3_hear_25 : decode cX3_hear 25 = .ok (.getfield 23, 3) := by decide +kernel
theorem dX3_hear_28 : decode cX3_hear 28 = .ok (.getfield 100, 3) := by decide +kernel
theorem dX3_hear_31 : decode cX3_hear 31 = .ok (.goto 5, 3) := by decide +kernel
theorem dX3_hear_34 : decode cX3_hear 34 = .ok (.bipush (-9), 2) := by decide +kernel
theorem dX3_hear_36 : decode cX3_hear 36 = .ok (.ireturn, 1) := by decide +kernel
set_option maxRecDepth 20000 in
theorem ggX3_tick_X3_record : GoodIn wsX3_tick wsX3_record := goodIn_r _ [6, 7, 8, 1, 9, 10, 11, 5, 12, 13, 14, 15, 16, 17, 18, 19, 20, 21, 22, 23, 24, 25, 26, 27, 28, 29, 30, 31, 32, 33, 34, 35, 36, 37, 38, 39, 40, 41, 42, 43, 44, 45, 46, 47, 48, 49, 50, 51, 52, 53, 54, 55, 56, 57, 58, 59, 60, 61, 62, 63, 64, 65, 66, 67, 68, 69, 125, 126, 127, 128, 129, 130, 131, 132, 133, 134, 135, 136, 137, 138, 139, 140, 141, 142, 143, 144, 145, 146, 147, 148, 149, 150, 151, 152, 153, 154, 155, 156, 157, 158, 159, 160, 161, 162] (by decide +kernel) (by decide +kernel)
set_option maxRecDepth 20000 in
theorem gX3_tick_X3_record : GoodIn wsX3_tick (wsV RX3 66 RX3 yX3_record wsX3_record) := goodIn_app (goodIn_of _ (by decide +kernel)) ggX3_tick_X3_record
set_option maxRecDepth 20000 in
theorem ggX3_tick_X1_passTime : GoodIn wsX3_tick wsX1_passTime := goodIn_r _ [73, 36, 30, 74, 75, 76, 21, 77, 24, 78, 79, 80, 81, 51, 82, 53, 59, 83, 5, 84, 85, 86, 87, 88, 31, 23, 89, 28, 29, 90, 91, 42, 92, 93, 94, 95, 96, 97, 98, 99, 32, 100, 101, 102, 103, 104, 105, 41, 43, 106, 107, 108, 109, 110, 111, 112, 113, 114, 115, 40, 116, 117, 118, 119, 120, 121, 122, 123, 124, 136, 137, 138, 139, 140, 141, 142, 143, 144, 145, 146, 147, 148, 149, 150, 151, 152, 153, 154, 155, 156, 157, 158, 159] (by decide +kernel) (by decide +kernel)
set_option maxRecDepth 20000 in
theorem gX3_tick_X1_passTime : GoodIn wsX3_tick (wsV RX3 103 RX1 yX1_passTime wsX1_passTime) := goodIn_app (goodIn_of _ (by decide +kernel)) ggX3_tick_X1_passTime
theorem dX3_tick_0 : decode cX3_tick 0 = .ok (.iload_n 1, 1) := by decide +kernel
theorem dX3_tick_1 : decode cX3_tick 1 = .ok (.iconst 1, 1) := by decide +kernel
theorem dX3_tick_2 : decode cX3_tick 2 = .ok (.if_icmp .lt 9, 3) := by decide +kernel
theorem dX3_tick_5 : decode cX3_tick 5 = .ok (.iload_n 1, 1) := by decide +kernel
theorem dX3_tick_6 : decode cX3_tick 6 = .ok (.bipush 100, 2) := by decide +kernel
theorem dX3_tick_8 : decode cX3_tick 8 = .ok (.if_icmp .le 5, 3) := by decide +kernel
theorem dX3_tick_11 : decode cX3_tick 11 = .ok (.iconst (-1), 1) := by decide +kernel
theorem dX3_tick_12 : decode cX3_tick 12 = .ok (.ireturn, 1) := by decide +kernel
theorem dX3_tick_13 : decode cX3_tick 13 = .ok (.aload_n 0, 1) := by decide +kernel
theorem dX3_tick_14 : decode cX3_tick 14 = .ok (.invokevirtual 66, 3) := by decide +kernel
theorem dX3_tick_17 : decode cX3_tick 17 = .ok (.aload_n 0, 1) := by decide +kernel
theorem dX3_tick_18 : decode cX3_tick 18 = .ok (.getfield 23, 3) := by decide +kernel
theorem dX3_tick_21 : decode cX3_tick 21 = .ok (.iload_n 1, 1) := by decide +kernel
theorem dX3_tick_22 : decode cX3_tick 22 = .ok (.invokevirtual 103, 3) := by decide +kernel
theorem dX3_tick_25 : decode cX3_tick 25 = .ok (.ireturn, 1) := by decide +kernel
set_option maxRecDepth 20000 in
theorem ggX3_release_X0_nextCue : GoodIn wsX3_release wsX0_nextCue := goodIn_r _ [7, 8, 9, 10, 11, 12, 109, 110, 111, 112, 113, 114, 115, 116, 117] (by decide +kernel) (by decide +kernel)
set_option maxRecDepth 20000 in
theorem gX3_release_X0_nextCue : GoodIn wsX3_release (wsV RX3 107 RX0 yX0_nextCue wsX0_nextCue) := goodIn_app (goodIn_of _ (by decide +kernel)) ggX3_release_X0_nextCue
set_option maxRecDepth 20000 in
theorem ggX3_release_X3_record : GoodIn wsX3_release wsX3_record := goodIn_r _ [16, 17, 18, 1, 19, 20, 21, 11, 22, 23, 24, 25, 26, 27, 28, 29, 30, 31, 32, 33, 34, 35, 36, 37, 38, 39, 40, 41, 42, 43, 44, 45, 46, 47, 48, 49, 50, 51, 52, 53, 54, 55, 56, 57, 58, 59, 60, 6, 61, 8, 62, 63, 64, 65, 66, 9, 67, 68, 69, 70, 71, 72, 73, 74, 75, 76, 83, 84, 85, 86, 87, 88, 89, 90, 91, 92, 93, 94, 95, 96, 97, 98, 99, 100, 101, 102, 103, 104, 105, 106, 107, 108, 109, 110, 111, 112, 113, 114, 115, 116, 117, 118, 119, 120] (by decide +kernel) (by decide +kernel)
set_option maxRecDepth 20000 in
theorem gX3_release_X3_record : GoodIn wsX3_release (wsV RX3 66 RX3 yX3_record wsX3_record) := goodIn_app (goodIn_of _ (by decide +kernel)) ggX3_release_X3_record
set_option maxRecDepth 20000 in
theorem ggX3_release_X0_freeCue : GoodIn wsX3_release wsX0_freeCue := goodIn_r _ [80, 9, 81, 11, 82, 109, 110, 111, 112, 113, 114, 115, 116, 117] (by decide +kernel) (by decide +kernel)
set_option maxRecDepth 20000 in
theorem gX3_release_X0_freeCue : GoodIn wsX3_release (wsV RX3 111 RX0 yX0_freeCue wsX0_freeCue) := goodIn_app (goodIn_of _ (by decide +kernel)) ggX3_release_X0_freeCue
theorem dX3_release_0 : decode cX3_release 0 = .ok (.aload_n 0, 1) := by decide +kernel
theorem dX3_release_1 : decode cX3_release 1 = .ok (.getfield 23, 3) := by decide +kernel
theorem dX3_release_4 : decode cX3_release 4 = .ok (.getfield 69, 3) := by decide +kernel
theorem dX3_release_7 : decode cX3_release 7 = .ok (.invokevirtual 107, 3) := by decide +kernel
theorem dX3_release_10 : decode cX3_release 10 = .ok (.istore_n 1, 1) := by decide +kernel
theorem dX3_release_11 : decode cX3_release 11 = .ok (.iload_n 1, 1) := by decide +kernel
theorem dX3_release_12 : decode cX3_release 12 = .ok (.bipush (-9), 2) := by decide +kernel
theorem dX3_release_14 : decode cX3_release 14 = .ok (.if_icmp .ne 6, 3) := by decide +kernel
theorem dX3_release_17 : decode cX3_release 17 = .ok (.bipush (-2), 2) := by decide +kernel
theorem dX3_release_19 : decode cX3_release 19 = .ok (.ireturn, 1) := by decide +kernel
theorem dX3_release_20 : decode cX3_release 20 = .ok (.aload_n 0, 1) := by decide +kernel
theorem dX3_release_21 : decode cX3_release 21 = .ok (.invokevirtual 66, 3) := by decide +kernel
theorem dX3_release_24 : decode cX3_release 24 = .ok (.aload_n 0, 1) := by decide +kernel
theorem dX3_release_25 : decode cX3_release 25 = .ok (.getfield 23, 3) := by decide +kernel
theorem dX3_release_28 : decode cX3_release 28 = .ok (.getfield 69, 3) := by decide +kernel
theorem dX3_release_31 : decode cX3_release 31 = .ok (.iload_n 1, 1) := by decide +kernel
theorem dX3_release_32 : decode cX3_release 32 = .ok (.invokevirtual 111, 3) := by decide +kernel
theorem dX3_release_35 : decode cX3_release 35 = .ok (.iload_n 1, 1) := by decide +kernel
theorem dX3_release_36 : decode cX3_release 36 = .ok (.ireturn, 1) := by decide +kernel
set_option maxRecDepth 20000 in
theorem ggX3_place_X0_has : GoodIn wsX3_place wsX0_has := goodIn_r _ [8, 9, 118, 119, 120, 121, 122, 123, 124, 125, 126] (by decide +kernel) (by decide +kernel)
set_option maxRecDepth 20000 in
theorem gX3_place_X0_has : GoodIn wsX3_place (wsV RX3 115 RX0 yX0_has wsX0_has) := goodIn_app (goodIn_of _ (by decide +kernel)) ggX3_place_X0_has
set_option maxRecDepth 20000 in
theorem ggX3_place_X3_record : GoodIn wsX3_place wsX3_record := goodIn_r _ [14, 15, 16, 1, 17, 18, 19, 13, 20, 21, 22, 23, 24, 25, 26, 27, 28, 29, 30, 31, 32, 33, 34, 35, 36, 37, 38, 39, 40, 41, 42, 43, 44, 45, 46, 47, 48, 49, 50, 51, 52, 53, 54, 55, 56, 57, 58, 7, 59, 9, 60, 61, 62, 63, 64, 65, 66, 67, 68, 69, 70, 71, 72, 73, 74, 75, 92, 93, 94, 95, 96, 97, 98, 99, 100, 101, 102, 103, 104, 105, 106, 107, 108, 109, 110, 111, 112, 113, 114, 115, 116, 117, 118, 119, 120, 121, 122, 123, 124, 125, 126, 127, 128, 129] (by decide +kernel) (by decide +kernel)
set_option maxRecDepth 20000 in
theorem gX3_place_X3_record : GoodIn wsX3_place (wsV RX3 66 RX3 yX3_record wsX3_record) := goodIn_app (goodIn_of _ (by decide +kernel)) ggX3_place_X3_record
set_option maxRecDepth 20000 in
theorem ggX3_place_X1_jump : GoodIn wsX3_place wsX1_jump := goodIn_r _ [79, 35, 33, 38, 39, 36, 32, 80, 81, 82, 71, 83, 73, 84, 85, 86, 7, 87, 9, 65, 88, 13, 89, 90, 91, 103, 104, 105, 106, 107, 108, 109, 110, 111, 112, 113, 114, 115, 116, 117, 127, 128, 129, 118, 119, 120, 121, 122, 123, 124, 125, 126] (by decide +kernel) (by decide +kernel)
set_option maxRecDepth 20000 in
theorem gX3_place_X1_jump : GoodIn wsX3_place (wsV RX3 118 RX1 yX1_jump wsX1_jump) := goodIn_app (goodIn_of _ (by decide +kernel)) ggX3_place_X1_jump
theorem dX3_place_0 : decode cX3_place 0 = .ok (.aload_n 0, 1) := by decide +kernel
theorem dX3_place_1 : decode cX3_place 1 = .ok (.getfield 23, 3) := by decide +kernel
theorem dX3_place_4 : decode cX3_place 4 = .ok (.getfield 69, 3) := by decide +kernel
theorem dX3_place_7 : decode cX3_place 7 = .ok (.iload_n 1, 1) := by decide +kernel
theorem dX3_place_8 : decode cX3_place 8 = .ok (.invokevirtual 115, 3) := by decide +kernel
theorem dX3_place_11 : decode cX3_place 11 = .ok (.ifCond .ne 5, 3) := by decide +kernel
theorem dX3_place_14 : decode cX3_place 14 = .ok (.iconst (-1), 1) := by decide +kernel
theorem dX3_place_15 : decode cX3_place 15 = .ok (.ireturn, 1) := by decide +kernel
theorem dX3_place_16 : decode cX3_place 16 = .ok (.aload_n 0, 1) := by decide +kernel
theorem dX3_place_17 : decode cX3_place 17 = .ok (.invokevirtual 66, 3) := by decide +kernel
theorem dX3_place_20 : decode cX3_place 20 = .ok (.aload_n 0, 1) := by decide +kernel
theorem dX3_place_21 : decode cX3_place 21 = .ok (.getfield 23, 3) := by decide +kernel
theorem dX3_place_24 : decode cX3_place 24 = .ok (.getfield 100, 3) := by decide +kernel
theorem dX3_place_27 : decode cX3_place 27 = .ok (.istore_n 2, 1) := by decide +kernel
theorem dX3_place_28 : decode cX3_place 28 = .ok (.aload_n 0, 1) := by decide +kernel
theorem dX3_place_29 : decode cX3_place 29 = .ok (.getfield 23, 3) := by decide +kernel
theorem dX3_place_32 : decode cX3_place 32 = .ok (.iload_n 1, 1) := by decide +kernel
theorem dX3_place_33 : decode cX3_place 33 = .ok (.invokevirtual 118, 3) := by decide +kernel
theorem dX3_place_36 : decode cX3_place 36 = .ok (.iload_n 2, 1) := by decide +kernel
theorem dX3_place_37 : decode cX3_place 37 = .ok (.ireturn, 1) := by decide +kernel
set_option maxRecDepth 20000 in
theorem ggX3_undo_X3_stateAt : GoodIn wsX3_undo wsX3_stateAt := goodIn_r _ [8, 9, 62, 63, 64, 65, 66, 67, 68, 69, 70, 71, 72] (by decide +kernel) (by decide +kernel)
set_option maxRecDepth 20000 in
theorem gX3_undo_X3_stateAt : GoodIn wsX3_undo (wsV RX3 124 RX3 yX3_stateAt wsX3_stateAt) := goodIn_app (goodIn_of _ (by decide +kernel)) ggX3_undo_X3_stateAt
set_option maxRecDepth 20000 in
theorem ggX3_undo_X1_become : GoodIn wsX3_undo wsX1_become := goodIn_r _ [14, 15, 16, 17, 18, 19, 20, 21, 22, 23, 24, 25, 26, 27, 28, 29, 30, 7, 31, 32, 33, 34, 35, 36, 37, 38, 39, 40, 41, 42, 43, 44, 45, 46, 47, 48, 49, 50, 51, 52, 53, 54, 55, 56, 57, 58, 59, 60, 61, 73, 74, 75, 76, 77, 78, 79, 80, 81, 82, 83, 84, 85, 86, 87, 88, 89, 90, 91, 92, 93, 94, 95, 96, 97, 98, 99] (by decide +kernel) (by decide +kernel)
set_option maxRecDepth 20000 in
theorem gX3_undo_X1_become : GoodIn wsX3_undo (wsV RX3 128 RX1 yX1_become wsX1_become) := goodIn_app (goodIn_of _ (by decide +kernel)) ggX3_undo_X1_become
theorem dX3_undo_0 : decode cX3_undo 0 = .ok (.aload_n 0, 1) := by decide +kernel
theorem dX3_undo_1 : decode cX3_undo 1 = .ok (.getfield 121, 3) := by decide +kernel
theorem dX3_undo_4 : decode cX3_undo 4 = .ok (.iconst 1, 1) := by decide +kernel
theorem dX3_undo_5 : decode cX3_undo 5 = .ok (.if_icmp .ge 6, 3) := by decide +kernel
theorem dX3_undo_8 : decode cX3_undo 8 = .ok (.bipush (-2), 2) := by decide +kernel
theorem dX3_undo_10 : decode cX3_undo 10 = .ok (.ireturn, 1) := by decide +kernel
theorem dX3_undo_11 : decode cX3_undo 11 = .ok (.aload_n 0, 1) := by decide +kernel
theorem dX3_undo_12 : decode cX3_undo 12 = .ok (.dup, 1) := by decide +kernel
theorem dX3_undo_13 : decode cX3_undo 13 = .ok (.getfield 121, 3) := by decide +kernel
theorem dX3_undo_16 : decode cX3_undo 16 = .ok (.iconst 1, 1) := by decide +kernel
theorem dX3_undo_17 : decode cX3_undo 17 = .ok (.isub, 1) := by decide +kernel
theorem dX3_undo_18 : decode cX3_undo 18 = .ok (.putfield 121, 3) := by decide +kernel
theorem dX3_undo_21 : decode cX3_undo 21 = .ok (.aload_n 0, 1) := by decide +kernel
theorem dX3_undo_22 : decode cX3_undo 22 = .ok (.getfield 23, 3) := by decide +kernel
theorem dX3_undo_25 : decode cX3_undo 25 = .ok (.aload_n 0, 1) := by decide +kernel
theorem dX3_undo_26 : decode cX3_undo 26 = .ok (.aload_n 0, 1) := by decide +kernel
theorem dX3_undo_27 : decode cX3_undo 27 = .ok (.getfield 30, 3) := by decide +kernel
theorem dX3_undo_30 : decode cX3_undo 30 = .ok (.aload_n 0, 1) := by decide +kernel
theorem dX3_undo_31 : decode cX3_undo 31 = .ok (.getfield 121, 3) := by decide +kernel
theorem dX3_undo_34 : decode cX3_undo 34 = .ok (.invokevirtual 124, 3) := by decide +kernel
theorem dX3_undo_37 : decode cX3_undo 37 = .ok (.invokevirtual 128, 3) := by decide +kernel
theorem dX3_undo_40 : decode cX3_undo 40 = .ok (.aload_n 0, 1) := by decide +kernel
theorem dX3_undo_41 : decode cX3_undo 41 = .ok (.getfield 121, 3) := by decide +kernel
theorem dX3_undo_44 : decode cX3_undo 44 = .ok (.ireturn, 1) := by decide +kernel
set_option maxRecDepth 20000 in
theorem ggX3_write_X3_put : GoodIn wsX3_write wsX3_put := goodIn_r _ [6] (by decide +kernel) (by decide +kernel)
set_option maxRecDepth 20000 in
theorem gX3_write_X3_put : GoodIn wsX3_write (va_wsS RX3 135 yX3_put wsX3_put) := goodIn_app (goodIn_of _ (by decide +kernel)) ggX3_write_X3_put
theorem dX3_write_0 : decode cX3_write 0 = .ok (.iload_n 1, 1) := by decide +kernel
theorem dX3_write_1 : decode cX3_write 1 = .ok (.bipush 32, 2) := by decide +kernel
theorem dX3_write_3 : decode cX3_write 3 = .ok (.if_icmp .lt 9, 3) := by decide +kernel
theorem dX3_write_6 : decode cX3_write 6 = .ok (.iload_n 1, 1) := by decide +kernel
theorem dX3_write_7 : decode cX3_write 7 = .ok (.bipush 126, 2) := by decide +kernel
theorem dX3_write_9 : decode cX3_write 9 = .ok (.if_icmp .le 5, 3) := by decide +kernel
theorem dX3_write_12 : decode cX3_write 12 = .ok (.iconst (-1), 1) := by decide +kernel
theorem dX3_write_13 : decode cX3_write 13 = .ok (.ireturn, 1) := by decide +kernel
theorem dX3_write_14 : decode cX3_write 14 = .ok (.aload_n 0, 1) := by decide +kernel
theorem dX3_write_15 : decode cX3_write 15 = .ok (.getfield 132, 3) := by decide +kernel
theorem dX3_write_18 : decode cX3_write 18 = .ok (.sipush 140, 3) := by decide +kernel
theorem dX3_write_21 : decode cX3_write 21 = .ok (.if_icmp .lt 6, 3) := by decide +kernel
theorem dX3_write_24 : decode cX3_write 24 = .ok (.bipush (-3), 2) := by decide +kernel
theorem dX3_write_26 : decode cX3_write 26 = .ok (.ireturn, 1) := by decide +kernel
theorem dX3_write_27 : decode cX3_write 27 = .ok (.aload_n 0, 1) := by decide +kernel
theorem dX3_write_28 : decode cX3_write 28 = .ok (.getfield 9, 3) := by decide +kernel
theorem dX3_write_31 : decode cX3_write 31 = .ok (.aload_n 0, 1) := by decide +kernel
theorem dX3_write_32 : decode cX3_write 32 = .ok (.getfield 132, 3) := by decide +kernel
theorem dX3_write_35 : decode cX3_write 35 = .ok (.iload_n 1, 1) := by decide +kernel
theorem dX3_write_36 : decode cX3_write 36 = .ok (.invokestatic 135, 3) := by decide +kernel
theorem dX3_write_39 : decode cX3_write 39 = .ok (.aload_n 0, 1) := by decide +kernel
theorem dX3_write_40 : decode cX3_write 40 = .ok (.dup, 1) := by decide +kernel
theorem dX3_write_41 : decode cX3_write 41 = .ok (.getfield 132, 3) := by decide +kernel
theorem dX3_write_44 : decode cX3_write 44 = .ok (.iconst 1, 1) := by decide +kernel
theorem dX3_write_45 : decode cX3_write 45 = .ok (.iadd, 1) := by decide +kernel
theorem dX3_write_46 : decode cX3_write 46 = .ok (.putfield 132, 3) := by decide +kernel
theorem dX3_write_49 : decode cX3_write 49 = .ok (.aload_n 0, 1) := by decide +kernel
theorem dX3_write_50 : decode cX3_write 50 = .ok (.getfield 132, 3) := by decide +kernel
theorem dX3_write_53 : decode cX3_write 53 = .ok (.ireturn, 1) := by decide +kernel
theorem dX3_wipe_0 : decode cX3_wipe 0 = .ok (.aload_n 0, 1) := by decide +kernel
theorem dX3_wipe_1 : decode cX3_wipe 1 = .ok (.getfield 132, 3) := by decide +kernel
theorem dX3_wipe_4 : decode cX3_wipe 4 = .ok (.istore_n 1, 1) := by decide +kernel
theorem dX3_wipe_5 : decode cX3_wipe 5 = .ok (.aload_n 0, 1) := by decide +kernel
theorem dX3_wipe_6 : decode cX3_wipe 6 = .ok (.iconst 0, 1) := by decide +kernel
theorem dX3_wipe_7 : decode cX3_wipe 7 = .ok (.putfield 132, 3) := by decide +kernel
theorem dX3_wipe_10 : decode cX3_wipe 10 = .ok (.iload_n 1, 1) := by decide +kernel
theorem dX3_wipe_11 : decode cX3_wipe 11 = .ok (.ireturn, 1) := by decide +kernel
set_option maxRecDepth 20000 in
theorem ggX3_told_X0_cueCount : GoodIn wsX3_told wsX0_cueCount := goodIn_r _ [23, 24, 25, 26, 27, 28, 108, 109, 110, 111, 112, 113, 114, 115, 116] (by decide +kernel) (by decide +kernel)
set_option maxRecDepth 20000 in
theorem gX3_told_X0_cueCount : GoodIn wsX3_told (wsV RX3 151 RX0 yX0_cueCount wsX0_cueCount) := goodIn_app (goodIn_of _ (by decide +kernel)) ggX3_told_X0_cueCount
set_option maxRecDepth 20000 in
theorem ggX3_told_X1_estimatedWord : GoodIn wsX3_told wsX1_estimatedWord := goodIn_r _ [33, 34, 35, 36, 32, 37, 38, 39, 40, 41, 42, 22, 43, 24, 25, 26, 27, 28, 44, 45, 46, 47, 48, 49, 50, 51, 52, 53, 54, 55, 56, 57, 58, 59, 60, 93, 94, 95, 96, 97, 98, 99, 100, 101, 102, 103, 104, 105, 106, 107, 108, 109, 110, 111, 112, 113, 114, 115, 116] (by decide +kernel) (by decide +kernel)
set_option maxRecDepth 20000 in
theorem gX3_told_X1_estimatedWord : GoodIn wsX3_told (wsV RX3 160 RX1 yX1_estimatedWord wsX1_estimatedWord) := goodIn_app (goodIn_of _ (by decide +kernel)) ggX3_told_X1_estimatedWord
set_option maxRecDepth 20000 in
theorem ggX3_told_X1_desiredTop : GoodIn wsX3_told wsX1_desiredTop := goodIn_r _ [64, 50, 65, 66, 56, 67, 38, 68, 26, 27, 28, 69, 70, 71, 32, 72, 73, 74, 75, 76, 77, 78, 79, 80, 93, 94, 95, 96, 97, 98, 99, 100, 101, 102, 103, 104, 105, 106, 107, 108, 109, 110, 111, 112, 113, 114, 115, 116] (by decide +kernel) (by decide +kernel)
set_option maxRecDepth 20000 in
theorem gX3_told_X1_desiredTop : GoodIn wsX3_told (wsV RX3 166 RX1 yX1_desiredTop wsX1_desiredTop) := goodIn_app (goodIn_of _ (by decide +kernel)) ggX3_told_X1_desiredTop
set_option maxRecDepth 20000 in
theorem ggX3_told_X0_nextCue : GoodIn wsX3_told wsX0_nextCue := goodIn_r _ [43, 24, 25, 26, 27, 28, 108, 109, 110, 111, 112, 113, 114, 115, 116] (by decide +kernel) (by decide +kernel)
set_option maxRecDepth 20000 in
theorem gX3_told_X0_nextCue : GoodIn wsX3_told (wsV RX3 107 RX0 yX0_nextCue wsX0_nextCue) := goodIn_app (goodIn_of _ (by decide +kernel)) ggX3_told_X0_nextCue
theorem dX3_told_0 : decode cX3_told 0 = .ok (.iload_n 1, 1) := by decide +kernel
theorem dX3_told_1 : decode cX3_told 1 = .ok (.tableswitch 265 0 18 #[91, 102, 113, 124, 135, 143, 151, 159, 167, 175, 190, 198, 206, 214, 222, 230, 241, 252, 260], 91) := by decide +kernel
theorem dX3_told_92 : decode cX3_told 92 = .ok (.aload_n 0, 1) := by decide +kernel
theorem dX3_told_93 : decode cX3_told 93 = .ok (.getfield 23, 3) := by decide +kernel
theorem dX3_told_96 : decode cX3_told 96 = .ok (.getfield 69, 3) := by decide +kernel
theorem dX3_told_99 : decode cX3_told 99 = .ok (.getfield 72, 3) := by decide +kernel
theorem dX3_told_102 : decode cX3_told 102 = .ok (.ireturn, 1) := by decide +kernel
theorem dX3_told_103 : decode cX3_told 103 = .ok (.aload_n 0, 1) := by decide +kernel
theorem dX3_told_104 : decode cX3_told 104 = .ok (.getfield 23, 3) := by decide +kernel
theorem dX3_told_107 : decode cX3_told 107 = .ok (.getfield 69, 3) := by decide +kernel
theorem dX3_told_110 : decode cX3_told 110 = .ok (.getfield 145, 3) := by decide +kernel
theorem dX3_told_113 : decode cX3_told 113 = .ok (.ireturn, 1) := by decide +kernel
theorem dX3_told_114 : decode cX3_told 114 = .ok (.aload_n 0, 1) := by decide +kernel
theorem dX3_told_115 : decode cX3_told 115 = .ok (.getfield 23, 3) := by decide +kernel
theorem dX3_told_118 : decode cX3_told 118 = .ok (.getfield 69, 3) := by decide +kernel
theorem dX3_told_121 : decode cX3_told 121 = .ok (.getfield 148, 3) := by decide +kernel
theorem dX3_told_124 : decode cX3_told 124 = .ok (.ireturn, 1) := by decide +kernel
theorem dX3_told_125 : decode cX3_told 125 = .ok (.aload_n 0, 1) := by decide +kernel
theorem dX3_told_126 : decode cX3_told 126 = .ok (.getfield 23, 3) := by decide +kernel
theorem dX3_told_129 : decode cX3_told 129 = .ok (.getfield 69, 3) := by decide +kernel
theorem dX3_told_132 : decode cX3_told 132 = .ok (.invokevirtual 151, 3) := by decide +kernel
theorem dX3_told_135 : decode cX3_told 135 = .ok (.ireturn, 1) := by decide +kernel
theorem dX3_told_136 : decode cX3_told 136 = .ok (.aload_n 0, 1) := by decide +kernel
theorem dX3_told_137 : decode cX3_told 137 = .ok (.getfield 23, 3) := by decide +kernel
theorem dX3_told_140 : decode cX3_told 140 = .ok (.getfield 154, 3) := by decide +kernel
theorem dX3_told_143 : decode cX3_told 143 = .ok (.ireturn, 1) := by decide +kernel
theorem dX3_told_144 : decode cX3_told 144 = .ok (.aload_n 0, 1) := by decide +kernel
theorem dX3_told_145 : decode cX3_told 145 = .ok (.getfield 23, 3) := by decide +kernel
theorem dX3_told_148 : decode cX3_told 148 = .ok (.getfield 100, 3) := by decide +kernel
theorem dX3_told_151 : decode cX3_told 151 = .ok (.ireturn, 1) := by decide +kernel
theorem dX3_told_152 : decode cX3_told 152 = .ok (.aload_n 0, 1) := by decide +kernel
theorem dX3_told_153 : decode cX3_told 153 = .ok (.getfield 23, 3) := by decide +kernel
theorem dX3_told_156 : decode cX3_told 156 = .ok (.getfield 157, 3) := by decide +kernel
theorem dX3_told_159 : decode cX3_told 159 = .ok (.ireturn, 1) := by decide +kernel
theorem dX3_told_160 : decode cX3_told 160 = .ok (.aload_n 0, 1) := by decide +kernel
theorem dX3_told_161 : decode cX3_told 161 = .ok (.getfield 23, 3) := by decide +kernel
theorem dX3_told_164 : decode cX3_told 164 = .ok (.invokevirtual 160, 3) := by decide +kernel
theorem dX3_told_167 : decode cX3_told 167 = .ok (.ireturn, 1) := by decide +kernel
theorem dX3_told_168 : decode cX3_told 168 = .ok (.aload_n 0, 1) := by decide +kernel
theorem dX3_told_169 : decode cX3_told 169 = .ok (.getfield 23, 3) := by decide +kernel
theorem dX3_told_172 : decode cX3_told 172 = .ok (.getfield 163, 3) := by decide +kernel
theorem dX3_told_175 : decode cX3_told 175 = .ok (.ireturn, 1) := by decide +kernel
theorem dX3_told_176 : decode cX3_told 176 = .ok (.aload_n 0, 1) := by decide +kernel
theorem dX3_told_177 : decode cX3_told 177 = .ok (.getfield 23, 3) := by decide +kernel
theorem dX3_told_180 : decode cX3_told 180 = .ok (.aload_n 0, 1) := by decide +kernel
theorem dX3_told_181 : decode cX3_told 181 = .ok (.getfield 23, 3) := by decide +kernel
theorem dX3_told_184 : decode cX3_told 184 = .ok (.invokevirtual 160, 3) := by decide +kernel
theorem dX3_told_187 : decode cX3_told 187 = .ok (.invokevirtual 166, 3) := by decide +kernel
theorem dX3_told_190 : decode cX3_told 190 = .ok (.ireturn, 1) := by decide +kernel
theorem dX3_told_191 : decode cX3_told 191 = .ok (.aload_n 0, 1) := by decide +kernel
theorem dX3_told_192 : decode cX3_told 192 = .ok (.getfield 23, 3) := by decide +kernel
theorem dX3_told_195 : decode cX3_told 195 = .ok (.getfield 169, 3) := by decide +kernel
theorem dX3_told_198 : decode cX3_told 198 = .ok (.ireturn, 1) := by decide +kernel
theorem dX3_told_199 : decode cX3_told 199 = .ok (.aload_n 0, 1) := by decide +kernel
theorem dX3_told_200 : decode cX3_told 200 = .ok (.getfield 23, 3) := by decide +kernel
theorem dX3_told_203 : decode cX3_told 203 = .ok (.getfield 172, 3) := by decide +kernel
theorem dX3_told_206 : decode cX3_told 206 = .ok (.ireturn, 1) := by decide +kernel
theorem dX3_told_207 : decode cX3_told 207 = .ok (.aload_n 0, 1) := by decide +kernel
theorem dX3_told_208 : decode cX3_told 208 = .ok (.getfield 23, 3) := by decide +kernel
theorem dX3_told_211 : decode cX3_told 211 = .ok (.getfield 175, 3) := by decide +kernel
theorem dX3_told_214 : decode cX3_told 214 = .ok (.ireturn, 1) := by decide +kernel
theorem dX3_told_215 : decode cX3_told 215 = .ok (.aload_n 0, 1) := by decide +kernel
theorem dX3_told_216 : decode cX3_told 216 = .ok (.getfield 23, 3) := by decide +kernel
theorem dX3_told_219 : decode cX3_told 219 = .ok (.getfield 178, 3) := by decide +kernel
theorem dX3_told_222 : decode cX3_told 222 = .ok (.ireturn, 1) := by decide +kernel
theorem dX3_told_223 : decode cX3_told 223 = .ok (.aload_n 0, 1) := by decide +kernel
theorem dX3_told_224 : decode cX3_told 224 = .ok (.getfield 23, 3) := by decide +kernel
theorem dX3_told_227 : decode cX3_told 227 = .ok (.getfield 181, 3) := by decide +kernel
theorem dX3_told_230 : decode cX3_told 230 = .ok (.ireturn, 1) := by decide +kernel
theorem dX3_told_231 : decode cX3_told 231 = .ok (.aload_n 0, 1) := by decide +kernel
theorem dX3_told_232 : decode cX3_told 232 = .ok (.getfield 23, 3) := by decide +kernel
theorem dX3_told_235 : decode cX3_told 235 = .ok (.getfield 184, 3) := by decide +kernel
theorem dX3_told_238 : decode cX3_told 238 = .ok (.getfield 188, 3) := by decide +kernel
theorem dX3_told_241 : decode cX3_told 241 = .ok (.ireturn, 1) := by decide +kernel
theorem dX3_told_242 : decode cX3_told 242 = .ok (.aload_n 0, 1) := by decide +kernel
theorem dX3_told_243 : decode cX3_told 243 = .ok (.getfield 23, 3) := by decide +kernel
theorem dX3_told_246 : decode cX3_told 246 = .ok (.getfield 69, 3) := by decide +kernel
theorem dX3_told_249 : decode cX3_told 249 = .ok (.invokevirtual 107, 3) := by decide +kernel
theorem dX3_told_252 : decode cX3_told 252 = .ok (.ireturn, 1) := by decide +kernel
theorem dX3_told_253 : decode cX3_told 253 = .ok (.aload_n 0, 1) := by decide +kernel
theorem dX3_told_254 : decode cX3_told 254 = .ok (.getfield 23, 3) := by decide +kernel
theorem dX3_told_257 : decode cX3_told 257 = .ok (.getfield 193, 3) := by decide +kernel
theorem dX3_told_260 : decode cX3_told 260 = .ok (.ireturn, 1) := by decide +kernel
theorem dX3_told_261 : decode cX3_told 261 = .ok (.aload_n 0, 1) := by decide +kernel
theorem dX3_told_262 : decode cX3_told 262 = .ok (.getfield 121, 3) := by decide +kernel
theorem dX3_told_265 : decode cX3_told 265 = .ok (.ireturn, 1) := by decide +kernel
theorem dX3_told_266 : decode cX3_told 266 = .ok (.iconst (-1), 1) := by decide +kernel
theorem dX3_told_267 : decode cX3_told 267 = .ok (.ireturn, 1) := by decide +kernel
set_option maxRecDepth 20000 in
theorem ggX3_setting_X3_isSetting : GoodIn wsX3_setting wsX3_isSetting := goodIn_r _ [6] (by decide +kernel) (by decide +kernel)
set_option maxRecDepth 20000 in
theorem gX3_setting_X3_isSetting : GoodIn wsX3_setting (va_wsS RX3 76 yX3_isSetting wsX3_isSetting) := goodIn_app (goodIn_of _ (by decide +kernel)) ggX3_setting_X3_isSetting
set_option maxRecDepth 20000 in
theorem ggX3_setting_X3_at : GoodIn wsX3_setting wsX3_at := goodIn_r _ [9] (by decide +kernel) (by decide +kernel)
set_option maxRecDepth 20000 in
theorem gX3_setting_X3_at : GoodIn wsX3_setting (va_wsS RX3 83 yX3_at wsX3_at) := goodIn_app (goodIn_of _ (by decide +kernel)) ggX3_setting_X3_at
theorem dX3_setting_0 : decode cX3_setting 0 = .ok (.iload_n 1, 1) := by decide +kernel
theorem dX3_setting_1 : decode cX3_setting 1 = .ok (.invokestatic 76, 3) := by decide +kernel
theorem dX3_setting_4 : decode cX3_setting 4 = .ok (.ifCond .eq 17, 3) := by decide +kernel
theorem dX3_setting_7 : decode cX3_setting 7 = .ok (.aload_n 0, 1) := by decide +kernel
theorem dX3_setting_8 : decode cX3_setting 8 = .ok (.getfield 23, 3) := by decide +kernel
theorem dX3_setting_11 : decode cX3_setting 11 = .ok (.getfield 44, 3) := by decide +kernel
theorem dX3_setting_14 : decode cX3_setting 14 = .ok (.iload_n 1, 1) := by decide +kernel
theorem dX3_setting_15 : decode cX3_setting 15 = .ok (.invokestatic 83, 3) := by decide +kernel
theorem dX3_setting_18 : decode cX3_setting 18 = .ok (.goto 4, 3) := by decide +kernel
theorem dX3_setting_21 : decode cX3_setting 21 = .ok (.iconst (-1), 1) := by decide +kernel
theorem dX3_setting_22 : decode cX3_setting 22 = .ok (.ireturn, 1) := by decide +kernel
set_option maxRecDepth 20000 in
theorem ggX3_word_X0_has : GoodIn wsX3_word wsX0_has := goodIn_r _ [11, 12, 54, 55, 56, 57, 58, 59, 60, 61, 62] (by decide +kernel) (by decide +kernel)
set_option maxRecDepth 20000 in
theorem gX3_word_X0_has : GoodIn wsX3_word (wsV RX3 115 RX0 yX0_has wsX0_has) := goodIn_app (goodIn_of _ (by decide +kernel)) ggX3_word_X0_has
set_option maxRecDepth 20000 in
theorem ggX3_word_X3_at : GoodIn wsX3_word wsX3_at := goodIn_r _ [16] (by decide +kernel) (by decide +kernel)
set_option maxRecDepth 20000 in
theorem gX3_word_X3_at : GoodIn wsX3_word (va_wsS RX3 83 yX3_at wsX3_at) := goodIn_app (goodIn_of _ (by decide +kernel)) ggX3_word_X3_at
set_option maxRecDepth 20000 in
theorem ggX3_word_X1_shows : GoodIn wsX3_word wsX1_shows := goodIn_r _ [21, 22, 23, 24, 25, 20, 26, 27, 14, 15, 16, 39, 40, 41, 42, 43, 44, 45, 46, 47, 48, 49, 50, 51, 52, 53] (by decide +kernel) (by decide +kernel)
set_option maxRecDepth 20000 in
theorem gX3_word_X1_shows : GoodIn wsX3_word (wsV RX3 208 RX1 yX1_shows wsX1_shows) := goodIn_app (goodIn_of _ (by decide +kernel)) ggX3_word_X1_shows
theorem dX3_word_0 : decode cX3_word 0 = .ok (.aload_n 0, 1) := by decide +kernel
theorem dX3_word_1 : decode cX3_word 1 = .ok (.getfield 23, 3) := by decide +kernel
theorem dX3_word_4 : decode cX3_word 4 = .ok (.getfield 69, 3) := by decide +kernel
theorem dX3_word_7 : decode cX3_word 7 = .ok (.astore_n 3, 1) := by decide +kernel
theorem dX3_word_8 : decode cX3_word 8 = .ok (.aload_n 3, 1) := by decide +kernel
theorem dX3_word_9 : decode cX3_word 9 = .ok (.iload_n 1, 1) := by decide +kernel
theorem dX3_word_10 : decode cX3_word 10 = .ok (.invokevirtual 115, 3) := by decide +kernel
theorem dX3_word_13 : decode cX3_word 13 = .ok (.ifCond .ne 5, 3) := by decide +kernel
theorem dX3_word_16 : decode cX3_word 16 = .ok (.iconst (-1), 1) := by decide +kernel
theorem dX3_word_17 : decode cX3_word 17 = .ok (.ireturn, 1) := by decide +kernel
theorem dX3_word_18 : decode cX3_word 18 = .ok (.iload_n 2, 1) := by decide +kernel
theorem dX3_word_19 : decode cX3_word 19 = .ok (.tableswitch 93 0 4 #[33, 42, 51, 60, 69], 33) := by decide +kernel
theorem dX3_word_52 : decode cX3_word 52 = .ok (.aload_n 3, 1) := by decide +kernel
theorem dX3_word_53 : decode cX3_word 53 = .ok (.getfield 196, 3) := by decide +kernel
theorem dX3_word_56 : decode cX3_word 56 = .ok (.iload_n 1, 1) := by decide +kernel
theorem dX3_word_57 : decode cX3_word 57 = .ok (.invokestatic 83, 3) := by decide +kernel
theorem dX3_word_60 : decode cX3_word 60 = .ok (.ireturn, 1) := by decide +kernel
theorem dX3_word_61 : decode cX3_word 61 = .ok (.aload_n 3, 1) := by decide +kernel
theorem dX3_word_62 : decode cX3_word 62 = .ok (.getfield 199, 3) := by decide +kernel
theorem dX3_word_65 : decode cX3_word 65 = .ok (.iload_n 1, 1) := by decide +kernel
theorem dX3_word_66 : decode cX3_word 66 = .ok (.invokestatic 83, 3) := by decide +kernel
theorem dX3_word_69 : decode cX3_word 69 = .ok (.ireturn, 1) := by decide +kernel
theorem dX3_word_70 : decode cX3_word 70 = .ok (.aload_n 3, 1) := by decide +kernel
theorem dX3_word_71 : decode cX3_word 71 = .ok (.getfield 202, 3) := by decide +kernel
theorem dX3_word_74 : decode cX3_word 74 = .ok (.iload_n 1, 1) := by decide +kernel
theorem dX3_word_75 : decode cX3_word 75 = .ok (.invokestatic 83, 3) := by decide +kernel
theorem dX3_word_78 : decode cX3_word 78 = .ok (.ireturn, 1) := by decide +kernel
theorem dX3_word_79 : decode cX3_word 79 = .ok (.aload_n 3, 1) := by decide +kernel
theorem dX3_word_80 : decode cX3_word 80 = .ok (.getfield 205, 3) := by decide +kernel
theorem dX3_word_83 : decode cX3_word 83 = .ok (.iload_n 1, 1) := by decide +kernel
theorem dX3_word_84 : decode cX3_word 84 = .ok (.invokestatic 83, 3) := by decide +kernel
theorem dX3_word_87 : decode cX3_word 87 = .ok (.ireturn, 1) := by decide +kernel
theorem dX3_word_88 : decode cX3_word 88 = .ok (.aload_n 0, 1) := by decide +kernel
theorem dX3_word_89 : decode cX3_word 89 = .ok (.getfield 23, 3) := by decide +kernel
theorem dX3_word_92 : decode cX3_word 92 = .ok (.aload_n 3, 1) := by decide +kernel
theorem dX3_word_93 : decode cX3_word 93 = .ok (.getfield 199, 3) := by decide +kernel
theorem dX3_word_96 : decode cX3_word 96 = .ok (.iload_n 1, 1) := by decide +kernel
theorem dX3_word_97 : decode cX3_word 97 = .ok (.invokestatic 83, 3) := by decide +kernel
theorem dX3_word_100 : decode cX3_word 100 = .ok (.invokevirtual 208, 3) := by decide +kernel
theorem dX3_word_103 : decode cX3_word 103 = .ok (.ifCond .eq 7, 3) := by decide +kernel
theorem dX3_word_106 : decode cX3_word 106 = .ok (.iconst 1, 1) := by decide +kernel
theorem dX3_word_107 : decode cX3_word 107 = .ok (.goto 4, 3) := by decide +kernel
theorem dX3_word_110 : decode cX3_word 110 = .ok (.iconst 0, 1) := by decide +kernel
theorem dX3_word_111 : decode cX3_word 111 = .ok (.ireturn, 1) := by decide +kernel
theorem dX3_word_112 : decode cX3_word 112 = .ok (.iconst (-1), 1) := by decide +kernel
theorem dX3_word_113 : decode cX3_word 113 = .ok (.ireturn, 1) := by decide +kernel
set_option maxRecDepth 20000 in
theorem ggX3_row_X3_at : GoodIn wsX3_row wsX3_at := goodIn_r _ [8] (by decide +kernel) (by decide +kernel)
set_option maxRecDepth 20000 in
theorem gX3_row_X3_at : GoodIn wsX3_row (va_wsS RX3 83 yX3_at wsX3_at) := goodIn_app (goodIn_of _ (by decide +kernel)) ggX3_row_X3_at
set_option maxRecDepth 20000 in
theorem ggX3_row_X0_rowLength : GoodIn wsX3_row wsX0_rowLength := goodIn_r _ [13, 14, 15, 16, 6, 7, 8, 43, 44, 45, 46, 47, 48, 49, 50, 51] (by decide +kernel) (by decide +kernel)
set_option maxRecDepth 20000 in
theorem gX3_row_X0_rowLength : GoodIn wsX3_row (wsV RX3 214 RX0 yX0_rowLength wsX0_rowLength) := goodIn_app (goodIn_of _ (by decide +kernel)) ggX3_row_X0_rowLength
theorem dX3_row_0 : decode cX3_row 0 = .ok (.iload_n 1, 1) := by decide +kernel
theorem dX3_row_1 : decode cX3_row 1 = .ok (.ifCond .lt 26, 3) := by decide +kernel
theorem dX3_row_4 : decode cX3_row 4 = .ok (.iload_n 1, 1) := by decide +kernel
theorem dX3_row_5 : decode cX3_row 5 = .ok (.aload_n 0, 1) := by decide +kernel
theorem dX3_row_6 : decode cX3_row 6 = .ok (.getfield 23, 3) := by decide +kernel
theorem dX3_row_9 : decode cX3_row 9 = .ok (.getfield 69, 3) := by decide +kernel
theorem dX3_row_12 : decode cX3_row 12 = .ok (.getfield 145, 3) := by decide +kernel
theorem dX3_row_15 : decode cX3_row 15 = .ok (.if_icmp .ge 12, 3) := by decide +kernel
theorem dX3_row_18 : decode cX3_row 18 = .ok (.iload_n 2, 1) := by decide +kernel
theorem dX3_row_19 : decode cX3_row 19 = .ok (.ifCond .lt 8, 3) := by decide +kernel
theorem dX3_row_22 : decode cX3_row 22 = .ok (.iload_n 2, 1) := by decide +kernel
theorem dX3_row_23 : decode cX3_row 23 = .ok (.iconst 1, 1) := by decide +kernel
theorem dX3_row_24 : decode cX3_row 24 = .ok (.if_icmp .le 5, 3) := by decide +kernel
theorem dX3_row_27 : decode cX3_row 27 = .ok (.iconst (-1), 1) := by decide +kernel
theorem dX3_row_28 : decode cX3_row 28 = .ok (.ireturn, 1) := by decide +kernel
theorem dX3_row_29 : decode cX3_row 29 = .ok (.iload_n 2, 1) := by decide +kernel
theorem dX3_row_30 : decode cX3_row 30 = .ok (.ifCond .ne 20, 3) := by decide +kernel
theorem dX3_row_33 : decode cX3_row 33 = .ok (.aload_n 0, 1) := by decide +kernel
theorem dX3_row_34 : decode cX3_row 34 = .ok (.getfield 23, 3) := by decide +kernel
theorem dX3_row_37 : decode cX3_row 37 = .ok (.getfield 69, 3) := by decide +kernel
theorem dX3_row_40 : decode cX3_row 40 = .ok (.getfield 211, 3) := by decide +kernel
theorem dX3_row_43 : decode cX3_row 43 = .ok (.iload_n 1, 1) := by decide +kernel
theorem dX3_row_44 : decode cX3_row 44 = .ok (.invokestatic 83, 3) := by decide +kernel
theorem dX3_row_47 : decode cX3_row 47 = .ok (.goto 14, 3) := by decide +kernel
theorem dX3_row_50 : decode cX3_row 50 = .ok (.aload_n 0, 1) := by decide +kernel
theorem dX3_row_51 : decode cX3_row 51 = .ok (.getfield 23, 3) := by decide +kernel
theorem dX3_row_54 : decode cX3_row 54 = .ok (.getfield 69, 3) := by decide +kernel
theorem dX3_row_57 : decode cX3_row 57 = .ok (.iload_n 1, 1) := by decide +kernel
theorem dX3_row_58 : decode cX3_row 58 = .ok (.invokevirtual 214, 3) := by decide +kernel
theorem dX3_row_61 : decode cX3_row 61 = .ok (.ireturn, 1) := by decide +kernel
set_option maxRecDepth 20000 in
theorem ggX3_heard_X3_at : GoodIn wsX3_heard wsX3_at := goodIn_r _ [7] (by decide +kernel) (by decide +kernel)
set_option maxRecDepth 20000 in
theorem gX3_heard_X3_at : GoodIn wsX3_heard (va_wsS RX3 83 yX3_at wsX3_at) := goodIn_app (goodIn_of _ (by decide +kernel)) ggX3_heard_X3_at
theorem dX3_heard_0 : decode cX3_heard 0 = .ok (.iload_n 1, 1) := by decide +kernel
theorem dX3_heard_1 : decode cX3_heard 1 = .ok (.ifCond .ge 5, 3) := by decide +kernel
theorem dX3_heard_4 : decode cX3_heard 4 = .ok (.iconst (-1), 1) := by decide +kernel
theorem dX3_heard_5 : decode cX3_heard 5 = .ok (.ireturn, 1) := by decide +kernel
theorem dX3_heard_6 : decode cX3_heard 6 = .ok (.iload_n 1, 1) := by decide +kernel
theorem dX3_heard_7 : decode cX3_heard 7 = .ok (.aload_n 0, 1) := by decide +kernel
theorem dX3_heard_8 : decode cX3_heard 8 = .ok (.getfield 23, 3) := by decide +kernel
theorem dX3_heard_11 : decode cX3_heard 11 = .ok (.getfield 193, 3) := by decide +kernel
theorem dX3_heard_14 : decode cX3_heard 14 = .ok (.if_icmp .ge 17, 3) := by decide +kernel
theorem dX3_heard_17 : decode cX3_heard 17 = .ok (.aload_n 0, 1) := by decide +kernel
theorem dX3_heard_18 : decode cX3_heard 18 = .ok (.getfield 23, 3) := by decide +kernel
theorem dX3_heard_21 : decode cX3_heard 21 = .ok (.getfield 217, 3) := by decide +kernel
theorem dX3_heard_24 : decode cX3_heard 24 = .ok (.iload_n 1, 1) := by decide +kernel
theorem dX3_heard_25 : decode cX3_heard 25 = .ok (.invokestatic 83, 3) := by decide +kernel
theorem dX3_heard_28 : decode cX3_heard 28 = .ok (.goto 5, 3) := by decide +kernel
theorem dX3_heard_31 : decode cX3_heard 31 = .ok (.bipush (-9), 2) := by decide +kernel
theorem dX3_heard_33 : decode cX3_heard 33 = .ok (.ireturn, 1) := by decide +kernel
set_option maxRecDepth 20000 in
theorem ggX3_trail_X3_at : GoodIn wsX3_trail wsX3_at := goodIn_r _ [9] (by decide +kernel) (by decide +kernel)
set_option maxRecDepth 20000 in
theorem gX3_trail_X3_at : GoodIn wsX3_trail (va_wsS RX3 83 yX3_at wsX3_at) := goodIn_app (goodIn_of _ (by decide +kernel)) ggX3_trail_X3_at
theorem dX3_trail_0 : decode cX3_trail 0 = .ok (.iload_n 1, 1) := by decide +kernel
theorem dX3_trail_1 : decode cX3_trail 1 = .ok (.ifCond .lt 12, 3) := by decide +kernel
theorem dX3_trail_4 : decode cX3_trail 4 = .ok (.iload_n 2, 1) := by decide +kernel
theorem dX3_trail_5 : decode cX3_trail 5 = .ok (.ifCond .lt 8, 3) := by decide +kernel
theorem dX3_trail_8 : decode cX3_trail 8 = .ok (.iload_n 2, 1) := by decide +kernel
theorem dX3_trail_9 : decode cX3_trail 9 = .ok (.iconst 1, 1) := by decide +kernel
theorem dX3_trail_10 : decode cX3_trail 10 = .ok (.if_icmp .le 5, 3) := by decide +kernel
theorem dX3_trail_13 : decode cX3_trail 13 = .ok (.iconst (-1), 1) := by decide +kernel
theorem dX3_trail_14 : decode cX3_trail 14 = .ok (.ireturn, 1) := by decide +kernel
theorem dX3_trail_15 : decode cX3_trail 15 = .ok (.iload_n 1, 1) := by decide +kernel
theorem dX3_trail_16 : decode cX3_trail 16 = .ok (.aload_n 0, 1) := by decide +kernel
theorem dX3_trail_17 : decode cX3_trail 17 = .ok (.getfield 23, 3) := by decide +kernel
theorem dX3_trail_20 : decode cX3_trail 20 = .ok (.getfield 184, 3) := by decide +kernel
theorem dX3_trail_23 : decode cX3_trail 23 = .ok (.getfield 188, 3) := by decide +kernel
theorem dX3_trail_26 : decode cX3_trail 26 = .ok (.if_icmp .lt 6, 3) := by decide +kernel
theorem dX3_trail_29 : decode cX3_trail 29 = .ok (.bipush (-9), 2) := by decide +kernel
theorem dX3_trail_31 : decode cX3_trail 31 = .ok (.ireturn, 1) := by decide +kernel
theorem dX3_trail_32 : decode cX3_trail 32 = .ok (.iload_n 2, 1) := by decide +kernel
theorem dX3_trail_33 : decode cX3_trail 33 = .ok (.ifCond .ne 20, 3) := by decide +kernel
theorem dX3_trail_36 : decode cX3_trail 36 = .ok (.aload_n 0, 1) := by decide +kernel
theorem dX3_trail_37 : decode cX3_trail 37 = .ok (.getfield 23, 3) := by decide +kernel
theorem dX3_trail_40 : decode cX3_trail 40 = .ok (.getfield 184, 3) := by decide +kernel
theorem dX3_trail_43 : decode cX3_trail 43 = .ok (.getfield 220, 3) := by decide +kernel
theorem dX3_trail_46 : decode cX3_trail 46 = .ok (.iload_n 1, 1) := by decide +kernel
theorem dX3_trail_47 : decode cX3_trail 47 = .ok (.invokestatic 83, 3) := by decide +kernel
theorem dX3_trail_50 : decode cX3_trail 50 = .ok (.goto 17, 3) := by decide +kernel
theorem dX3_trail_53 : decode cX3_trail 53 = .ok (.aload_n 0, 1) := by decide +kernel
theorem dX3_trail_54 : decode cX3_trail 54 = .ok (.getfield 23, 3) := by decide +kernel
theorem dX3_trail_57 : decode cX3_trail 57 = .ok (.getfield 184, 3) := by decide +kernel
theorem dX3_trail_60 : decode cX3_trail 60 = .ok (.getfield 223, 3) := by decide +kernel
theorem dX3_trail_63 : decode cX3_trail 63 = .ok (.iload_n 1, 1) := by decide +kernel
theorem dX3_trail_64 : decode cX3_trail 64 = .ok (.invokestatic 83, 3) := by decide +kernel
theorem dX3_trail_67 : decode cX3_trail 67 = .ok (.ireturn, 1) := by decide +kernel
set_option maxRecDepth 20000 in
theorem ggX3_score_X0_has : GoodIn wsX3_score wsX0_has := goodIn_r _ [7, 8, 47, 48, 49, 50, 51, 52, 53, 54, 55] (by decide +kernel) (by decide +kernel)
set_option maxRecDepth 20000 in
theorem gX3_score_X0_has : GoodIn wsX3_score (wsV RX3 115 RX0 yX0_has wsX0_has) := goodIn_app (goodIn_of _ (by decide +kernel)) ggX3_score_X0_has
set_option maxRecDepth 20000 in
theorem ggX3_score_X1_points : GoodIn wsX3_score wsX1_points := goodIn_r _ [13, 14, 15, 16, 17, 18, 19, 20, 32, 33, 34, 35, 36, 37, 38, 39, 40, 41, 42, 43, 44, 45, 46, 47, 48, 49, 50, 51, 52, 53, 54, 55] (by decide +kernel) (by decide +kernel)
set_option maxRecDepth 20000 in
theorem gX3_score_X1_points : GoodIn wsX3_score (wsV RX3 226 RX1 yX1_points wsX1_points) := goodIn_app (goodIn_of _ (by decide +kernel)) ggX3_score_X1_points
theorem dX3_score_0 : decode cX3_score 0 = .ok (.aload_n 0, 1) := by decide +kernel
theorem dX3_score_1 : decode cX3_score 1 = .ok (.getfield 23, 3) := by decide +kernel
theorem dX3_score_4 : decode cX3_score 4 = .ok (.getfield 69, 3) := by decide +kernel
theorem dX3_score_7 : decode cX3_score 7 = .ok (.iload_n 1, 1) := by decide +kernel
theorem dX3_score_8 : decode cX3_score 8 = .ok (.invokevirtual 115, 3) := by decide +kernel
theorem dX3_score_11 : decode cX3_score 11 = .ok (.ifCond .eq 14, 3) := by decide +kernel
theorem dX3_score_14 : decode cX3_score 14 = .ok (.aload_n 0, 1) := by decide +kernel
theorem dX3_score_15 : decode cX3_score 15 = .ok (.getfield 23, 3) := by decide +kernel
theorem dX3_score_18 : decode cX3_score 18 = .ok (.iload_n 1, 1) := by decide +kernel
theorem dX3_score_19 : decode cX3_score 19 = .ok (.invokevirtual 226, 3) := by decide +kernel
theorem dX3_score_22 : decode cX3_score 22 = .ok (.goto 4, 3) := by decide +kernel
theorem dX3_score_25 : decode cX3_score 25 = .ok (.iconst (-1), 1) := by decide +kernel
theorem dX3_score_26 : decode cX3_score 26 = .ok (.ireturn, 1) := by decide +kernel
set_option maxRecDepth 20000 in
theorem ggX3_best_X3_isLetter : GoodIn wsX3_best wsX3_isLetter := goodIn_r _ [5] (by decide +kernel) (by decide +kernel)
set_option maxRecDepth 20000 in
theorem gX3_best_X3_isLetter : GoodIn wsX3_best (va_wsS RX3 94 yX3_isLetter wsX3_isLetter) := goodIn_app (goodIn_of _ (by decide +kernel)) ggX3_best_X3_isLetter
set_option maxRecDepth 20000 in
theorem ggX3_best_X1_bestCandidate : GoodIn wsX3_best wsX1_bestCandidate := goodIn_r _ [10, 11, 12, 13, 14, 15, 16, 17, 18, 19, 20, 21, 22, 23, 4, 24, 25, 26, 27, 9, 28, 29, 30, 31, 32, 33, 34, 35, 36, 37, 54, 55, 56, 57, 58, 59, 60, 61, 62, 63, 64, 65, 66, 67, 68, 69, 70, 71, 72, 73, 74, 75, 76, 77] (by decide +kernel) (by decide +kernel)
set_option maxRecDepth 20000 in
theorem gX3_best_X1_bestCandidate : GoodIn wsX3_best (wsV RX3 229 RX1 yX1_bestCandidate wsX1_bestCandidate) := goodIn_app (goodIn_of _ (by decide +kernel)) ggX3_best_X1_bestCandidate
set_option maxRecDepth 20000 in
theorem ggX3_best_X1_points : GoodIn wsX3_best wsX1_points := goodIn_r _ [35, 36, 37, 17, 22, 23, 4, 24, 54, 55, 56, 57, 58, 59, 60, 61, 62, 63, 64, 65, 66, 67, 68, 69, 70, 71, 72, 73, 74, 75, 76, 77] (by decide +kernel) (by decide +kernel)
set_option maxRecDepth 20000 in
theorem gX3_best_X1_points : GoodIn wsX3_best (wsV RX3 226 RX1 yX1_points wsX1_points) := goodIn_app (goodIn_of _ (by decide +kernel)) ggX3_best_X1_points
set_option maxRecDepth 20000 in
theorem ggX3_best_X1_accepts : GoodIn wsX3_best wsX1_accepts := goodIn_r _ [42, 11, 12, 32, 33, 34, 9, 35, 36, 37, 17, 22, 23, 4, 24, 54, 55, 56, 57, 58, 59, 60, 61, 62, 63, 64, 65, 66, 67, 68, 69, 70, 71, 72, 73, 74, 75, 76, 77] (by decide +kernel) (by decide +kernel)
set_option maxRecDepth 20000 in
theorem gX3_best_X1_accepts : GoodIn wsX3_best (wsV RX3 232 RX1 yX1_accepts wsX1_accepts) := goodIn_app (goodIn_of _ (by decide +kernel)) ggX3_best_X1_accepts
theorem dX3_best_0 : decode cX3_best 0 = .ok (.iload_n 1, 1) := by decide +kernel
theorem dX3_best_1 : decode cX3_best 1 = .ok (.invokestatic 94, 3) := by decide +kernel
theorem dX3_best_4 : decode cX3_best 4 = .ok (.ifCond .eq 12, 3) := by decide +kernel
theorem dX3_best_7 : decode cX3_best 7 = .ok (.iload_n 2, 1) := by decide +kernel
theorem dX3_best_8 : decode cX3_best 8 = .ok (.ifCond .lt 8, 3) := by decide +kernel
theorem dX3_best_11 : decode cX3_best 11 = .ok (.iload_n 2, 1) := by decide +kernel
theorem dX3_best_12 : decode cX3_best 12 = .ok (.iconst 2, 1) := by decide +kernel
theorem dX3_best_13 : decode cX3_best 13 = .ok (.if_icmp .le 5, 3) := by decide +kernel
theorem dX3_best_16 : decode cX3_best 16 = .ok (.iconst (-1), 1) := by decide +kernel
theorem dX3_best_17 : decode cX3_best 17 = .ok (.ireturn, 1) := by decide +kernel
theorem dX3_best_18 : decode cX3_best 18 = .ok (.aload_n 0, 1) := by decide +kernel
theorem dX3_best_19 : decode cX3_best 19 = .ok (.getfield 23, 3) := by decide +kernel
theorem dX3_best_22 : decode cX3_best 22 = .ok (.iload_n 1, 1) := by decide +kernel
theorem dX3_best_23 : decode cX3_best 23 = .ok (.invokevirtual 229, 3) := by decide +kernel
theorem dX3_best_26 : decode cX3_best 26 = .ok (.istore_n 3, 1) := by decide +kernel
theorem dX3_best_27 : decode cX3_best 27 = .ok (.iload_n 3, 1) := by decide +kernel
theorem dX3_best_28 : decode cX3_best 28 = .ok (.bipush (-9), 2) := by decide +kernel
theorem dX3_best_30 : decode cX3_best 30 = .ok (.if_icmp .eq 7, 3) := by decide +kernel
theorem dX3_best_33 : decode cX3_best 33 = .ok (.iload_n 2, 1) := by decide +kernel
theorem dX3_best_34 : decode cX3_best 34 = .ok (.ifCond .ne 5, 3) := by decide +kernel
theorem dX3_best_37 : decode cX3_best 37 = .ok (.iload_n 3, 1) := by decide +kernel
theorem dX3_best_38 : decode cX3_best 38 = .ok (.ireturn, 1) := by decide +kernel
theorem dX3_best_39 : decode cX3_best 39 = .ok (.iload_n 2, 1) := by decide +kernel
theorem dX3_best_40 : decode cX3_best 40 = .ok (.iconst 1, 1) := by decide +kernel
theorem dX3_best_41 : decode cX3_best 41 = .ok (.if_icmp .ne 12, 3) := by decide +kernel
theorem dX3_best_44 : decode cX3_best 44 = .ok (.aload_n 0, 1) := by decide +kernel
theorem dX3_best_45 : decode cX3_best 45 = .ok (.getfield 23, 3) := by decide +kernel
theorem dX3_best_48 : decode cX3_best 48 = .ok (.iload_n 3, 1) := by decide +kernel
theorem dX3_best_49 : decode cX3_best 49 = .ok (.invokevirtual 226, 3) := by decide +kernel
theorem dX3_best_52 : decode cX3_best 52 = .ok (.ireturn, 1) := by decide +kernel
theorem dX3_best_53 : decode cX3_best 53 = .ok (.aload_n 0, 1) := by decide +kernel
theorem dX3_best_54 : decode cX3_best 54 = .ok (.getfield 23, 3) := by decide +kernel
theorem dX3_best_57 : decode cX3_best 57 = .ok (.iload_n 3, 1) := by decide +kernel
theorem dX3_best_58 : decode cX3_best 58 = .ok (.invokevirtual 232, 3) := by decide +kernel
theorem dX3_best_61 : decode cX3_best 61 = .ok (.ifCond .eq 7, 3) := by decide +kernel
theorem dX3_best_64 : decode cX3_best 64 = .ok (.iconst 1, 1) := by decide +kernel
theorem dX3_best_65 : decode cX3_best 65 = .ok (.goto 4, 3) := by decide +kernel
theorem dX3_best_68 : decode cX3_best 68 = .ok (.iconst 0, 1) := by decide +kernel
theorem dX3_best_69 : decode cX3_best 69 = .ok (.ireturn, 1) := by decide +kernel
theorem dX3_mean_0 : decode cX3_mean 0 = .ok (.aload_n 0, 1) := by decide +kernel
theorem dX3_mean_1 : decode cX3_mean 1 = .ok (.getfield 23, 3) := by decide +kernel
theorem dX3_mean_4 : decode cX3_mean 4 = .ok (.getfield 69, 3) := by decide +kernel
theorem dX3_mean_7 : decode cX3_mean 7 = .ok (.getfield 145, 3) := by decide +kernel
theorem dX3_mean_10 : decode cX3_mean 10 = .ok (.istore_n 1, 1) := by decide +kernel
theorem dX3_mean_11 : decode cX3_mean 11 = .ok (.iload_n 1, 1) := by decide +kernel
theorem dX3_mean_12 : decode cX3_mean 12 = .ok (.ifCond .le 20, 3) := by decide +kernel
theorem dX3_mean_15 : decode cX3_mean 15 = .ok (.aload_n 0, 1) := by decide +kernel
theorem dX3_mean_16 : decode cX3_mean 16 = .ok (.getfield 23, 3) := by decide +kernel
theorem dX3_mean_19 : decode cX3_mean 19 = .ok (.getfield 69, 3) := by decide +kernel
theorem dX3_mean_22 : decode cX3_mean 22 = .ok (.getfield 72, 3) := by decide +kernel
theorem dX3_mean_25 : decode cX3_mean 25 = .ok (.i2f, 1) := by decide +kernel
theorem dX3_mean_26 : decode cX3_mean 26 = .ok (.iload_n 1, 1) := by decide +kernel
theorem dX3_mean_27 : decode cX3_mean 27 = .ok (.i2f, 1) := by decide +kernel
theorem dX3_mean_28 : decode cX3_mean 28 = .ok (.fdiv, 1) := by decide +kernel
theorem dX3_mean_29 : decode cX3_mean 29 = .ok (.goto 4, 3) := by decide +kernel
theorem dX3_mean_32 : decode cX3_mean 32 = .ok (.fconst 0, 1) := by decide +kernel
theorem dX3_mean_33 : decode cX3_mean 33 = .ok (.freturn, 1) := by decide +kernel
set_option maxRecDepth 20000 in
theorem ggX3_rehearse_X1_become : GoodIn wsX3_rehearse wsX1_become := goodIn_r _ [12, 13, 14, 15, 16, 17, 18, 19, 20, 21, 22, 23, 24, 25, 26, 27, 28, 29, 30, 31, 32, 33, 34, 35, 36, 37, 38, 39, 40, 41, 42, 43, 44, 45, 46, 47, 48, 49, 50, 51, 52, 53, 54, 55, 56, 57, 58, 59, 60, 185, 186, 187, 188, 189, 190, 191, 192, 193, 194, 195, 196, 197, 198, 199, 200, 201, 202, 203, 204, 205, 206, 207, 208, 209, 210, 211] (by decide +kernel) (by decide +kernel)
set_option maxRecDepth 20000 in
theorem gX3_rehearse_X1_become : GoodIn wsX3_rehearse (wsV RX3 128 RX1 yX1_become wsX1_become) := goodIn_app (goodIn_of _ (by decide +kernel)) ggX3_rehearse_X1_become
set_option maxRecDepth 20000 in
theorem ggX3_rehearse_X1_readToEnd : GoodIn wsX3_rehearse wsX1_readToEnd := goodIn_r _ [64, 18, 14, 65, 66, 67, 68, 69, 11, 70, 26, 20, 71, 72, 73, 74, 75, 76, 77, 42, 78, 44, 50, 79, 29, 80, 81, 82, 83, 84, 21, 13, 85, 19, 86, 87, 33, 88, 89, 90, 91, 92, 93, 94, 95, 22, 96, 97, 98, 99, 100, 101, 32, 34, 102, 103, 104, 105, 106, 107, 108, 109, 110, 111, 31, 112, 113, 114, 115, 116, 117, 118, 119, 120, 121, 122, 123, 124, 25, 125, 126, 127, 128, 129, 130, 131, 132, 133, 134, 135, 136, 137, 138, 139, 17, 16, 140, 141, 142, 143, 144, 145, 146, 147, 23, 15, 24, 27, 148, 149, 150, 56, 151, 58, 152, 153, 154, 155, 59, 60, 156, 157, 158, 159, 160, 161, 162, 163, 164, 165, 166, 167, 168, 169, 170, 171, 172, 173, 185, 186, 187, 188, 189, 190, 191, 192, 193, 194, 195, 196, 197, 198, 199, 200, 201, 202, 203, 204, 205, 206, 207, 208, 209, 210, 211] (by decide +kernel) (by decide +kernel)
set_option maxRecDepth 20000 in
theorem gX3_rehearse_X1_readToEnd : GoodIn wsX3_rehearse (wsV RX3 241 RX1 yX1_readToEnd wsX1_readToEnd) := goodIn_app (goodIn_of _ (by decide +kernel)) ggX3_rehearse_X1_readToEnd
theorem dX3_rehearse_0 : decode cX3_rehearse 0 = .ok (.iload_n 1, 1) := by decide +kernel
theorem dX3_rehearse_1 : decode cX3_rehearse 1 = .ok (.iconst 1, 1) := by decide +kernel
theorem dX3_rehearse_2 : decode cX3_rehearse 2 = .ok (.if_icmp .lt 18, 3) := by decide +kernel
theorem dX3_rehearse_5 : decode cX3_rehearse 5 = .ok (.iload_n 1, 1) := by decide +kernel
theorem dX3_rehearse_6 : decode cX3_rehearse 6 = .ok (.bipush 10, 2) := by decide +kernel
theorem dX3_rehearse_8 : decode cX3_rehearse 8 = .ok (.if_icmp .gt 12, 3) := by decide +kernel
theorem dX3_rehearse_11 : decode cX3_rehearse 11 = .ok (.iload_n 2, 1) := by decide +kernel
theorem dX3_rehearse_12 : decode cX3_rehearse 12 = .ok (.ifCond .lt 8, 3) := by decide +kernel
theorem dX3_rehearse_15 : decode cX3_rehearse 15 = .ok (.iload_n 2, 1) := by decide +kernel
theorem dX3_rehearse_16 : decode cX3_rehearse 16 = .ok (.iconst 3, 1) := by decide +kernel
theorem dX3_rehearse_17 : decode cX3_rehearse 17 = .ok (.if_icmp .le 5, 3) := by decide +kernel
theorem dX3_rehearse_20 : decode cX3_rehearse 20 = .ok (.iconst (-1), 1) := by decide +kernel
theorem dX3_rehearse_21 : decode cX3_rehearse 21 = .ok (.ireturn, 1) := by decide +kernel
theorem dX3_rehearse_22 : decode cX3_rehearse 22 = .ok (.aload_n 0, 1) := by decide +kernel
theorem dX3_rehearse_23 : decode cX3_rehearse 23 = .ok (.getfield 27, 3) := by decide +kernel
theorem dX3_rehearse_26 : decode cX3_rehearse 26 = .ok (.aload_n 0, 1) := by decide +kernel
theorem dX3_rehearse_27 : decode cX3_rehearse 27 = .ok (.getfield 23, 3) := by decide +kernel
theorem dX3_rehearse_30 : decode cX3_rehearse 30 = .ok (.invokevirtual 128, 3) := by decide +kernel
theorem dX3_rehearse_33 : decode cX3_rehearse 33 = .ok (.aload_n 0, 1) := by decide +kernel
theorem dX3_rehearse_34 : decode cX3_rehearse 34 = .ok (.getfield 27, 3) := by decide +kernel
theorem dX3_rehearse_37 : decode cX3_rehearse 37 = .ok (.iload_n 1, 1) := by decide +kernel
theorem dX3_rehearse_38 : decode cX3_rehearse 38 = .ok (.invokevirtual 241, 3) := by decide +kernel
theorem dX3_rehearse_41 : decode cX3_rehearse 41 = .ok (.iload_n 2, 1) := by decide +kernel
theorem dX3_rehearse_42 : decode cX3_rehearse 42 = .ok (.tableswitch 90 0 2 #[26, 42, 74], 26) := by decide +kernel
theorem dX3_rehearse_68 : decode cX3_rehearse 68 = .ok (.aload_n 0, 1) := by decide +kernel
theorem dX3_rehearse_69 : decode cX3_rehearse 69 = .ok (.getfield 27, 3) := by decide +kernel
theorem dX3_rehearse_72 : decode cX3_rehearse 72 = .ok (.getfield 178, 3) := by decide +kernel
theorem dX3_rehearse_75 : decode cX3_rehearse 75 = .ok (.aload_n 0, 1) := by decide +kernel
theorem dX3_rehearse_76 : decode cX3_rehearse 76 = .ok (.getfield 23, 3) := by decide +kernel
theorem dX3_rehearse_79 : decode cX3_rehearse 79 = .ok (.getfield 178, 3) := by decide +kernel
theorem dX3_rehearse_82 : decode cX3_rehearse 82 = .ok (.isub, 1) := by decide +kernel
theorem dX3_rehearse_83 : decode cX3_rehearse 83 = .ok (.ireturn, 1) := by decide +kernel
theorem dX3_rehearse_84 : decode cX3_rehearse 84 = .ok (.aload_n 0, 1) := by decide +kernel
theorem dX3_rehearse_85 : decode cX3_rehearse 85 = .ok (.getfield 27, 3) := by decide +kernel
theorem dX3_rehearse_88 : decode cX3_rehearse 88 = .ok (.getfield 169, 3) := by decide +kernel
theorem dX3_rehearse_91 : decode cX3_rehearse 91 = .ok (.aload_n 0, 1) := by decide +kernel
theorem dX3_rehearse_92 : decode cX3_rehearse 92 = .ok (.getfield 23, 3) := by decide +kernel
theorem dX3_rehearse_95 : decode cX3_rehearse 95 = .ok (.getfield 169, 3) := by decide +kernel
theorem dX3_rehearse_98 : decode cX3_rehearse 98 = .ok (.isub, 1) := by decide +kernel
theorem dX3_rehearse_99 : decode cX3_rehearse 99 = .ok (.aload_n 0, 1) := by decide +kernel
theorem dX3_rehearse_100 : decode cX3_rehearse 100 = .ok (.getfield 27, 3) := by decide +kernel
theorem dX3_rehearse_103 : decode cX3_rehearse 103 = .ok (.getfield 172, 3) := by decide +kernel
theorem dX3_rehearse_106 : decode cX3_rehearse 106 = .ok (.iadd, 1) := by decide +kernel
theorem dX3_rehearse_107 : decode cX3_rehearse 107 = .ok (.aload_n 0, 1) := by decide +kernel
theorem dX3_rehearse_108 : decode cX3_rehearse 108 = .ok (.getfield 23, 3) := by decide +kernel
theorem dX3_rehearse_111 : decode cX3_rehearse 111 = .ok (.getfield 172, 3) := by decide +kernel
theorem dX3_rehearse_114 : decode cX3_rehearse 114 = .ok (.isub, 1) := by decide +kernel
theorem dX3_rehearse_115 : decode cX3_rehearse 115 = .ok (.ireturn, 1) := by decide +kernel
theorem dX3_rehearse_116 : decode cX3_rehearse 116 = .ok (.aload_n 0, 1) := by decide +kernel
theorem dX3_rehearse_117 : decode cX3_rehearse 117 = .ok (.getfield 27, 3) := by decide +kernel
theorem dX3_rehearse_120 : decode cX3_rehearse 120 = .ok (.getfield 175, 3) := by decide +kernel
theorem dX3_rehearse_123 : decode cX3_rehearse 123 = .ok (.aload_n 0, 1) := by decide +kernel
theorem dX3_rehearse_124 : decode cX3_rehearse 124 = .ok (.getfield 23, 3) := by decide +kernel
theorem dX3_rehearse_127 : decode cX3_rehearse 127 = .ok (.getfield 175, 3) := by decide +kernel
theorem dX3_rehearse_130 : decode cX3_rehearse 130 = .ok (.isub, 1) := by decide +kernel
theorem dX3_rehearse_131 : decode cX3_rehearse 131 = .ok (.ireturn, 1) := by decide +kernel
theorem dX3_rehearse_132 : decode cX3_rehearse 132 = .ok (.aload_n 0, 1) := by decide +kernel
theorem dX3_rehearse_133 : decode cX3_rehearse 133 = .ok (.getfield 27, 3) := by decide +kernel
theorem dX3_rehearse_136 : decode cX3_rehearse 136 = .ok (.getfield 100, 3) := by decide +kernel
theorem dX3_rehearse_139 : decode cX3_rehearse 139 = .ok (.ireturn, 1) := by decide +kernel
set_option maxRecDepth 20000 in
theorem ggX3_keep_X3_stateAt : GoodIn wsX3_keep wsX3_stateAt := goodIn_r _ [9, 10, 63, 64, 65, 66, 67, 68, 69, 70, 71, 72, 73] (by decide +kernel) (by decide +kernel)
set_option maxRecDepth 20000 in
theorem gX3_keep_X3_stateAt : GoodIn wsX3_keep (wsV RX3 124 RX3 yX3_stateAt wsX3_stateAt) := goodIn_app (goodIn_of _ (by decide +kernel)) ggX3_keep_X3_stateAt
set_option maxRecDepth 20000 in
theorem ggX3_keep_X1_become : GoodIn wsX3_keep wsX1_become := goodIn_r _ [15, 16, 17, 18, 19, 20, 21, 22, 23, 24, 25, 26, 27, 28, 29, 30, 31, 8, 32, 33, 34, 35, 36, 37, 38, 39, 40, 41, 42, 43, 44, 45, 46, 47, 48, 49, 50, 51, 52, 53, 54, 55, 56, 57, 58, 59, 60, 61, 62, 74, 75, 76, 77, 78, 79, 80, 81, 82, 83, 84, 85, 86, 87, 88, 89, 90, 91, 92, 93, 94, 95, 96, 97, 98, 99, 100] (by decide +kernel) (by decide +kernel)
set_option maxRecDepth 20000 in
theorem gX3_keep_X1_become : GoodIn wsX3_keep (wsV RX3 128 RX1 yX1_become wsX1_become) := goodIn_app (goodIn_of _ (by decide +kernel)) ggX3_keep_X1_become
theorem dX3_keep_0 : decode cX3_keep 0 = .ok (.iload_n 1, 1) := by decide +kernel
theorem dX3_keep_1 : decode cX3_keep 1 = .ok (.ifCond .lt 12, 3) := by decide +kernel
theorem dX3_keep_4 : decode cX3_keep 4 = .ok (.iload_n 1, 1) := by decide +kernel
theorem dX3_keep_5 : decode cX3_keep 5 = .ok (.aload_n 0, 1) := by decide +kernel
theorem dX3_keep_6 : decode cX3_keep 6 = .ok (.getfield 37, 3) := by decide +kernel
theorem dX3_keep_9 : decode cX3_keep 9 = .ok (.arraylength, 1) := by decide +kernel
theorem dX3_keep_10 : decode cX3_keep 10 = .ok (.if_icmp .lt 5, 3) := by decide +kernel
theorem dX3_keep_13 : decode cX3_keep 13 = .ok (.iconst (-1), 1) := by decide +kernel
theorem dX3_keep_14 : decode cX3_keep 14 = .ok (.ireturn, 1) := by decide +kernel
theorem dX3_keep_15 : decode cX3_keep 15 = .ok (.aload_n 0, 1) := by decide +kernel
theorem dX3_keep_16 : decode cX3_keep 16 = .ok (.aload_n 0, 1) := by decide +kernel
theorem dX3_keep_17 : decode cX3_keep 17 = .ok (.getfield 34, 3) := by decide +kernel
theorem dX3_keep_20 : decode cX3_keep 20 = .ok (.iload_n 1, 1) := by decide +kernel
theorem dX3_keep_21 : decode cX3_keep 21 = .ok (.invokevirtual 124, 3) := by decide +kernel
theorem dX3_keep_24 : decode cX3_keep 24 = .ok (.aload_n 0, 1) := by decide +kernel
theorem dX3_keep_25 : decode cX3_keep 25 = .ok (.getfield 23, 3) := by decide +kernel
theorem dX3_keep_28 : decode cX3_keep 28 = .ok (.invokevirtual 128, 3) := by decide +kernel
theorem dX3_keep_31 : decode cX3_keep 31 = .ok (.aload_n 0, 1) := by decide +kernel
theorem dX3_keep_32 : decode cX3_keep 32 = .ok (.getfield 37, 3) := by decide +kernel
theorem dX3_keep_35 : decode cX3_keep 35 = .ok (.iload_n 1, 1) := by decide +kernel
theorem dX3_keep_36 : decode cX3_keep 36 = .ok (.iconst 1, 1) := by decide +kernel
theorem dX3_keep_37 : decode cX3_keep 37 = .ok (.bastore, 1) := by decide +kernel
theorem dX3_keep_38 : decode cX3_keep 38 = .ok (.aload_n 0, 1) := by decide +kernel
theorem dX3_keep_39 : decode cX3_keep 39 = .ok (.getfield 23, 3) := by decide +kernel
theorem dX3_keep_42 : decode cX3_keep 42 = .ok (.getfield 100, 3) := by decide +kernel
theorem dX3_keep_45 : decode cX3_keep 45 = .ok (.ireturn, 1) := by decide +kernel
set_option maxRecDepth 20000 in
theorem ggX3_back_X3_record : GoodIn wsX3_back wsX3_record := goodIn_r _ [9, 10, 11, 2, 12, 13, 14, 8, 15, 16, 17, 18, 19, 20, 21, 22, 23, 24, 25, 26, 27, 28, 29, 30, 31, 32, 33, 34, 35, 36, 37, 38, 39, 40, 41, 42, 43, 44, 45, 46, 47, 48, 49, 50, 51, 52, 53, 54, 55, 56, 57, 58, 59, 60, 61, 62, 63, 64, 65, 66, 67, 68, 69, 70, 71, 72, 73, 74, 75, 76, 77, 78, 79, 80, 81, 82, 83, 84, 85, 86, 87, 88, 89, 90, 91, 92, 93, 94, 95, 96, 97, 98, 99, 100, 101, 102, 103, 104, 105, 106, 107, 108, 109, 110] (by decide +kernel) (by decide +kernel)
set_option maxRecDepth 20000 in
theorem gX3_back_X3_record : GoodIn wsX3_back (wsV RX3 66 RX3 yX3_record wsX3_record) := goodIn_app (goodIn_of _ (by decide +kernel)) ggX3_back_X3_record
set_option maxRecDepth 20000 in
theorem ggX3_back_X3_stateAt : GoodIn wsX3_back wsX3_stateAt := goodIn_r _ [19, 20, 73, 74, 75, 76, 77, 78, 79, 80, 81, 82, 83] (by decide +kernel) (by decide +kernel)
set_option maxRecDepth 20000 in
theorem gX3_back_X3_stateAt : GoodIn wsX3_back (wsV RX3 124 RX3 yX3_stateAt wsX3_stateAt) := goodIn_app (goodIn_of _ (by decide +kernel)) ggX3_back_X3_stateAt
set_option maxRecDepth 20000 in
theorem ggX3_back_X1_become : GoodIn wsX3_back wsX1_become := goodIn_r _ [25, 26, 27, 28, 29, 30, 31, 32, 33, 34, 35, 36, 37, 38, 39, 40, 41, 8, 42, 43, 44, 45, 46, 47, 48, 49, 50, 51, 52, 53, 54, 55, 56, 57, 58, 59, 60, 61, 62, 63, 64, 65, 66, 67, 68, 69, 70, 71, 72, 84, 85, 86, 87, 88, 89, 90, 91, 92, 93, 94, 95, 96, 97, 98, 99, 100, 101, 102, 103, 104, 105, 106, 107, 108, 109, 110] (by decide +kernel) (by decide +kernel)
set_option maxRecDepth 20000 in
theorem gX3_back_X1_become : GoodIn wsX3_back (wsV RX3 128 RX1 yX1_become wsX1_become) := goodIn_app (goodIn_of _ (by decide +kernel)) ggX3_back_X1_become
theorem dX3_back_0 : decode cX3_back 0 = .ok (.iload_n 1, 1) := by decide +kernel
theorem dX3_back_1 : decode cX3_back 1 = .ok (.ifCond .lt 12, 3) := by decide +kernel
theorem dX3_back_4 : decode cX3_back 4 = .ok (.iload_n 1, 1) := by decide +kernel
theorem dX3_back_5 : decode cX3_back 5 = .ok (.aload_n 0, 1) := by decide +kernel
theorem dX3_back_6 : decode cX3_back 6 = .ok (.getfield 37, 3) := by decide +kernel
theorem dX3_back_9 : decode cX3_back 9 = .ok (.arraylength, 1) := by decide +kernel
theorem dX3_back_10 : decode cX3_back 10 = .ok (.if_icmp .lt 5, 3) := by decide +kernel
theorem dX3_back_13 : decode cX3_back 13 = .ok (.iconst (-1), 1) := by decide +kernel
theorem dX3_back_14 : decode cX3_back 14 = .ok (.ireturn, 1) := by decide +kernel
theorem dX3_back_15 : decode cX3_back 15 = .ok (.aload_n 0, 1) := by decide +kernel
theorem dX3_back_16 : decode cX3_back 16 = .ok (.getfield 37, 3) := by decide +kernel
theorem dX3_back_19 : decode cX3_back 19 = .ok (.iload_n 1, 1) := by decide +kernel
theorem dX3_back_20 : decode cX3_back 20 = .ok (.baload, 1) := by decide +kernel
theorem dX3_back_21 : decode cX3_back 21 = .ok (.ifCond .ne 6, 3) := by decide +kernel
theorem dX3_back_24 : decode cX3_back 24 = .ok (.bipush (-2), 2) := by decide +kernel
theorem dX3_back_26 : decode cX3_back 26 = .ok (.ireturn, 1) := by decide +kernel
theorem dX3_back_27 : decode cX3_back 27 = .ok (.aload_n 0, 1) := by decide +kernel
theorem dX3_back_28 : decode cX3_back 28 = .ok (.invokevirtual 66, 3) := by decide +kernel
theorem dX3_back_31 : decode cX3_back 31 = .ok (.aload_n 0, 1) := by decide +kernel
theorem dX3_back_32 : decode cX3_back 32 = .ok (.getfield 23, 3) := by decide +kernel
theorem dX3_back_35 : decode cX3_back 35 = .ok (.aload_n 0, 1) := by decide +kernel
theorem dX3_back_36 : decode cX3_back 36 = .ok (.aload_n 0, 1) := by decide +kernel
theorem dX3_back_37 : decode cX3_back 37 = .ok (.getfield 34, 3) := by decide +kernel
theorem dX3_back_40 : decode cX3_back 40 = .ok (.iload_n 1, 1) := by decide +kernel
theorem dX3_back_41 : decode cX3_back 41 = .ok (.invokevirtual 124, 3) := by decide +kernel
theorem dX3_back_44 : decode cX3_back 44 = .ok (.invokevirtual 128, 3) := by decide +kernel
theorem dX3_back_47 : decode cX3_back 47 = .ok (.aload_n 0, 1) := by decide +kernel
theorem dX3_back_48 : decode cX3_back 48 = .ok (.getfield 23, 3) := by decide +kernel
theorem dX3_back_51 : decode cX3_back 51 = .ok (.getfield 100, 3) := by decide +kernel
theorem dX3_back_54 : decode cX3_back 54 = .ok (.ireturn, 1) := by decide +kernel
set_option maxRecDepth 20000 in
theorem ggX3_readText_X0_empty : GoodIn wsX3_readText wsX0_empty := goodIn_r _ [11, 12, 13, 14, 53, 54, 55, 56, 57, 58, 59, 60, 61] (by decide +kernel) (by decide +kernel)
set_option maxRecDepth 20000 in
theorem gX3_readText_X0_empty : GoodIn wsX3_readText (wsV RX3 51 RX0 yX0_empty wsX0_empty) := goodIn_app (goodIn_of _ (by decide +kernel)) ggX3_readText_X0_empty
set_option maxRecDepth 20000 in
theorem ggX3_readText_X3_at : GoodIn wsX3_readText wsX3_at := goodIn_r _ [18] (by decide +kernel) (by decide +kernel)
set_option maxRecDepth 20000 in
theorem gX3_readText_X3_at : GoodIn wsX3_readText (va_wsS RX3 83 yX3_at wsX3_at) := goodIn_app (goodIn_of _ (by decide +kernel)) ggX3_readText_X3_at
set_option maxRecDepth 20000 in
theorem ggX3_readText_X0_read : GoodIn wsX3_readText wsX0_read := goodIn_r _ [22, 14, 23, 17, 24, 25, 26, 27, 10, 28, 12, 29, 30, 13, 31, 32, 33, 34, 35, 36, 37, 38, 39, 40, 41, 53, 54, 55, 56, 57, 58, 59, 60, 61] (by decide +kernel) (by decide +kernel)
set_option maxRecDepth 20000 in
theorem gX3_readText_X0_read : GoodIn wsX3_readText (wsV RX3 54 RX0 yX0_read wsX0_read) := goodIn_app (goodIn_of _ (by decide +kernel)) ggX3_readText_X0_read
theorem dX3_readText_0 : decode cX3_readText 0 = .ok (.aload_n 0, 1) := by decide +kernel
theorem dX3_readText_1 : decode cX3_readText 1 = .ok (.getfield 16, 3) := by decide +kernel
theorem dX3_readText_4 : decode cX3_readText 4 = .ok (.invokevirtual 51, 3) := by decide +kernel
theorem dX3_readText_7 : decode cX3_readText 7 = .ok (.iconst 0, 1) := by decide +kernel
theorem dX3_readText_8 : decode cX3_readText 8 = .ok (.istore_n 1, 1) := by decide +kernel
theorem dX3_readText_9 : decode cX3_readText 9 = .ok (.iload_n 1, 1) := by decide +kernel
theorem dX3_readText_10 : decode cX3_readText 10 = .ok (.aload_n 0, 1) := by decide +kernel
theorem dX3_readText_11 : decode cX3_readText 11 = .ok (.getfield 132, 3) := by decide +kernel
theorem dX3_readText_14 : decode cX3_readText 14 = .ok (.if_icmp .ge 51, 3) := by decide +kernel
theorem dX3_readText_17 : decode cX3_readText 17 = .ok (.aload_n 0, 1) := by decide +kernel
theorem dX3_readText_18 : decode cX3_readText 18 = .ok (.getfield 16, 3) := by decide +kernel
theorem dX3_readText_21 : decode cX3_readText 21 = .ok (.aload_n 0, 1) := by decide +kernel
theorem dX3_readText_22 : decode cX3_readText 22 = .ok (.getfield 9, 3) := by decide +kernel
theorem dX3_readText_25 : decode cX3_readText 25 = .ok (.iload_n 1, 1) := by decide +kernel
theorem dX3_readText_26 : decode cX3_readText 26 = .ok (.invokestatic 83, 3) := by decide +kernel
theorem dX3_readText_29 : decode cX3_readText 29 = .ok (.aload_n 0, 1) := by decide +kernel
theorem dX3_readText_30 : decode cX3_readText 30 = .ok (.getfield 9, 3) := by decide +kernel
theorem dX3_readText_33 : decode cX3_readText 33 = .ok (.iload_n 1, 1) := by decide +kernel
theorem dX3_readText_34 : decode cX3_readText 34 = .ok (.iconst 1, 1) := by decide +kernel
theorem dX3_readText_35 : decode cX3_readText 35 = .ok (.isub, 1) := by decide +kernel
theorem dX3_readText_36 : decode cX3_readText 36 = .ok (.invokestatic 83, 3) := by decide +kernel
theorem dX3_readText_39 : decode cX3_readText 39 = .ok (.invokevirtual 54, 3) := by decide +kernel
theorem dX3_readText_42 : decode cX3_readText 42 = .ok (.istore_n 2, 1) := by decide +kernel
theorem dX3_readText_43 : decode cX3_readText 43 = .ok (.iload_n 2, 1) := by decide +kernel
theorem dX3_readText_44 : decode cX3_readText 44 = .ok (.ifCond .eq 15, 3) := by decide +kernel
theorem dX3_readText_47 : decode cX3_readText 47 = .ok (.aload_n 0, 1) := by decide +kernel
theorem dX3_readText_48 : decode cX3_readText 48 = .ok (.iload_n 2, 1) := by decide +kernel
theorem dX3_readText_49 : decode cX3_readText 49 = .ok (.putfield 139, 3) := by decide +kernel
theorem dX3_readText_52 : decode cX3_readText 52 = .ok (.aload_n 0, 1) := by decide +kernel
theorem dX3_readText_53 : decode cX3_readText 53 = .ok (.iload_n 1, 1) := by decide +kernel
theorem dX3_readText_54 : decode cX3_readText 54 = .ok (.putfield 142, 3) := by decide +kernel
theorem dX3_readText_57 : decode cX3_readText 57 = .ok (.iconst 0, 1) := by decide +kernel
theorem dX3_readText_58 : decode cX3_readText 58 = .ok (.ireturn, 1) := by decide +kernel
theorem dX3_readText_59 : decode cX3_readText 59 = .ok (.iinc 1 1, 3) := by decide +kernel
theorem dX3_readText_62 : decode cX3_readText 62 = .ok (.goto (-53), 3) := by decide +kernel
theorem dX3_readText_65 : decode cX3_readText 65 = .ok (.aload_n 0, 1) := by decide +kernel
theorem dX3_readText_66 : decode cX3_readText 66 = .ok (.getfield 16, 3) := by decide +kernel
theorem dX3_readText_69 : decode cX3_readText 69 = .ok (.getfield 244, 3) := by decide +kernel
theorem dX3_readText_72 : decode cX3_readText 72 = .ok (.ifCond .ne 18, 3) := by decide +kernel
theorem dX3_readText_75 : decode cX3_readText 75 = .ok (.aload_n 0, 1) := by decide +kernel
theorem dX3_readText_76 : decode cX3_readText 76 = .ok (.iconst 5, 1) := by decide +kernel
theorem dX3_readText_77 : decode cX3_readText 77 = .ok (.putfield 139, 3) := by decide +kernel
theorem dX3_readText_80 : decode cX3_readText 80 = .ok (.aload_n 0, 1) := by decide +kernel
theorem dX3_readText_81 : decode cX3_readText 81 = .ok (.aload_n 0, 1) := by decide +kernel
theorem dX3_readText_82 : decode cX3_readText 82 = .ok (.getfield 132, 3) := by decide +kernel
theorem dX3_readText_85 : decode cX3_readText 85 = .ok (.putfield 142, 3) := by decide +kernel
theorem dX3_readText_88 : decode cX3_readText 88 = .ok (.iconst 0, 1) := by decide +kernel
theorem dX3_readText_89 : decode cX3_readText 89 = .ok (.ireturn, 1) := by decide +kernel
theorem dX3_readText_90 : decode cX3_readText 90 = .ok (.iconst 1, 1) := by decide +kernel
theorem dX3_readText_91 : decode cX3_readText 91 = .ok (.ireturn, 1) := by decide +kernel
set_option maxRecDepth 20000 in
theorem ggX3_record_X3_dropOldest : GoodIn wsX3_record wsX3_dropOldest := goodIn_r _ [8, 2, 1, 9, 10, 11, 7, 12, 13, 66, 67, 68, 69, 70, 71, 72, 73, 74, 75, 76] (by decide +kernel) (by decide +kernel)
set_option maxRecDepth 20000 in
theorem gX3_record_X3_dropOldest : GoodIn wsX3_record (wsV RX3 247 RX3 yX3_dropOldest wsX3_dropOldest) := goodIn_app (goodIn_of _ (by decide +kernel)) ggX3_record_X3_dropOldest
set_option maxRecDepth 20000 in
theorem ggX3_record_X3_stateAt : GoodIn wsX3_record wsX3_stateAt := goodIn_r _ [12, 13, 66, 67, 68, 69, 70, 71, 72, 73, 74, 75, 76] (by decide +kernel) (by decide +kernel)
set_option maxRecDepth 20000 in
theorem gX3_record_X3_stateAt : GoodIn wsX3_record (wsV RX3 124 RX3 yX3_stateAt wsX3_stateAt) := goodIn_app (goodIn_of _ (by decide +kernel)) ggX3_record_X3_stateAt
set_option maxRecDepth 20000 in
theorem ggX3_record_X1_become : GoodIn wsX3_record wsX1_become := goodIn_r _ [18, 19, 20, 21, 22, 23, 24, 25, 26, 27, 28, 29, 30, 31, 32, 33, 34, 7, 35, 36, 37, 38, 39, 40, 41, 42, 43, 44, 45, 46, 47, 48, 49, 50, 51, 52, 53, 54, 55, 56, 57, 58, 59, 60, 61, 62, 63, 64, 65, 77, 78, 79, 80, 81, 82, 83, 84, 85, 86, 87, 88, 89, 90, 91, 92, 93, 94, 95, 96, 97, 98, 99, 100, 101, 102, 103] (by decide +kernel) (by decide +kernel)
set_option maxRecDepth 20000 in
theorem gX3_record_X1_become : GoodIn wsX3_record (wsV RX3 128 RX1 yX1_become wsX1_become) := goodIn_app (goodIn_of _ (by decide +kernel)) ggX3_record_X1_become
theorem dX3_record_0 : decode cX3_record 0 = .ok (.aload_n 0, 1) := by decide +kernel
theorem dX3_record_1 : decode cX3_record 1 = .ok (.getfield 121, 3) := by decide +kernel
theorem dX3_record_4 : decode cX3_record 4 = .ok (.bipush 8, 2) := by decide +kernel
theorem dX3_record_6 : decode cX3_record 6 = .ok (.if_icmp .lt 7, 3) := by decide +kernel
theorem dX3_record_9 : decode cX3_record 9 = .ok (.aload_n 0, 1) := by decide +kernel
theorem dX3_record_10 : decode cX3_record 10 = .ok (.invokevirtual 247, 3) := by decide +kernel
theorem dX3_record_13 : decode cX3_record 13 = .ok (.aload_n 0, 1) := by decide +kernel
theorem dX3_record_14 : decode cX3_record 14 = .ok (.aload_n 0, 1) := by decide +kernel
theorem dX3_record_15 : decode cX3_record 15 = .ok (.getfield 30, 3) := by decide +kernel
theorem dX3_record_18 : decode cX3_record 18 = .ok (.aload_n 0, 1) := by decide +kernel
theorem dX3_record_19 : decode cX3_record 19 = .ok (.getfield 121, 3) := by decide +kernel
theorem dX3_record_22 : decode cX3_record 22 = .ok (.invokevirtual 124, 3) := by decide +kernel
theorem dX3_record_25 : decode cX3_record 25 = .ok (.aload_n 0, 1) := by decide +kernel
theorem dX3_record_26 : decode cX3_record 26 = .ok (.getfield 23, 3) := by decide +kernel
theorem dX3_record_29 : decode cX3_record 29 = .ok (.invokevirtual 128, 3) := by decide +kernel
theorem dX3_record_32 : decode cX3_record 32 = .ok (.aload_n 0, 1) := by decide +kernel
theorem dX3_record_33 : decode cX3_record 33 = .ok (.dup, 1) := by decide +kernel
theorem dX3_record_34 : decode cX3_record 34 = .ok (.getfield 121, 3) := by decide +kernel
theorem dX3_record_37 : decode cX3_record 37 = .ok (.iconst 1, 1) := by decide +kernel
theorem dX3_record_38 : decode cX3_record 38 = .ok (.iadd, 1) := by decide +kernel
theorem dX3_record_39 : decode cX3_record 39 = .ok (.putfield 121, 3) := by decide +kernel
theorem dX3_record_42 : decode cX3_record 42 = .ok (.return_, 1) := by decide +kernel
set_option maxRecDepth 20000 in
theorem ggX3_dropOldest_X3_stateAt : GoodIn wsX3_dropOldest wsX3_stateAt := goodIn_r _ [7, 8, 9, 10, 11, 12, 13, 14, 15, 16, 17, 18, 19] (by decide +kernel) (by decide +kernel)
set_option maxRecDepth 20000 in
theorem gX3_dropOldest_X3_stateAt : GoodIn wsX3_dropOldest (wsV RX3 124 RX3 yX3_stateAt wsX3_stateAt) := goodIn_app (goodIn_of _ (by decide +kernel)) ggX3_dropOldest_X3_stateAt
theorem dX3_dropOldest_0 : decode cX3_dropOldest 0 = .ok (.aload_n 0, 1) := by decide +kernel
theorem dX3_dropOldest_1 : decode cX3_dropOldest 1 = .ok (.aload_n 0, 1) := by decide +kernel
theorem dX3_dropOldest_2 : decode cX3_dropOldest 2 = .ok (.getfield 30, 3) := by decide +kernel
theorem dX3_dropOldest_5 : decode cX3_dropOldest 5 = .ok (.iconst 0, 1) := by decide +kernel
theorem dX3_dropOldest_6 : decode cX3_dropOldest 6 = .ok (.invokevirtual 124, 3) := by decide +kernel
theorem dX3_dropOldest_9 : decode cX3_dropOldest 9 = .ok (.astore_n 1, 1) := by decide +kernel
theorem dX3_dropOldest_10 : decode cX3_dropOldest 10 = .ok (.iconst 1, 1) := by decide +kernel
theorem dX3_dropOldest_11 : decode cX3_dropOldest 11 = .ok (.istore_n 2, 1) := by decide +kernel
theorem dX3_dropOldest_12 : decode cX3_dropOldest 12 = .ok (.iload_n 2, 1) := by decide +kernel
theorem dX3_dropOldest_13 : decode cX3_dropOldest 13 = .ok (.aload_n 0, 1) := by decide +kernel
theorem dX3_dropOldest_14 : decode cX3_dropOldest 14 = .ok (.getfield 30, 3) := by decide +kernel
theorem dX3_dropOldest_17 : decode cX3_dropOldest 17 = .ok (.arraylength, 1) := by decide +kernel
theorem dX3_dropOldest_18 : decode cX3_dropOldest 18 = .ok (.if_icmp .ge 23, 3) := by decide +kernel
theorem dX3_dropOldest_21 : decode cX3_dropOldest 21 = .ok (.aload_n 0, 1) := by decide +kernel
theorem dX3_dropOldest_22 : decode cX3_dropOldest 22 = .ok (.getfield 30, 3) := by decide +kernel
theorem dX3_dropOldest_25 : decode cX3_dropOldest 25 = .ok (.iload_n 2, 1) := by decide +kernel
theorem dX3_dropOldest_26 : decode cX3_dropOldest 26 = .ok (.iconst 1, 1) := by decide +kernel
theorem dX3_dropOldest_27 : decode cX3_dropOldest 27 = .ok (.isub, 1) := by decide +kernel
theorem dX3_dropOldest_28 : decode cX3_dropOldest 28 = .ok (.aload_n 0, 1) := by decide +kernel
theorem dX3_dropOldest_29 : decode cX3_dropOldest 29 = .ok (.getfield 30, 3) := by decide +kernel
theorem dX3_dropOldest_32 : decode cX3_dropOldest 32 = .ok (.iload_n 2, 1) := by decide +kernel
theorem dX3_dropOldest_33 : decode cX3_dropOldest 33 = .ok (.aaload, 1) := by decide +kernel
theorem dX3_dropOldest_34 : decode cX3_dropOldest 34 = .ok (.aastore, 1) := by decide +kernel
theorem dX3_dropOldest_35 : decode cX3_dropOldest 35 = .ok (.iinc 2 1, 3) := by decide +kernel
theorem dX3_dropOldest_38 : decode cX3_dropOldest 38 = .ok (.goto (-26), 3) := by decide +kernel
theorem dX3_dropOldest_41 : decode cX3_dropOldest 41 = .ok (.aload_n 0, 1) := by decide +kernel
theorem dX3_dropOldest_42 : decode cX3_dropOldest 42 = .ok (.getfield 30, 3) := by decide +kernel
theorem dX3_dropOldest_45 : decode cX3_dropOldest 45 = .ok (.arraylength, 1) := by decide +kernel
theorem dX3_dropOldest_46 : decode cX3_dropOldest 46 = .ok (.ifCond .le 16, 3) := by decide +kernel
theorem dX3_dropOldest_49 : decode cX3_dropOldest 49 = .ok (.aload_n 0, 1) := by decide +kernel
theorem dX3_dropOldest_50 : decode cX3_dropOldest 50 = .ok (.getfield 30, 3) := by decide +kernel
theorem dX3_dropOldest_53 : decode cX3_dropOldest 53 = .ok (.aload_n 0, 1) := by decide +kernel
theorem dX3_dropOldest_54 : decode cX3_dropOldest 54 = .ok (.getfield 30, 3) := by decide +kernel
theorem dX3_dropOldest_57 : decode cX3_dropOldest 57 = .ok (.arraylength, 1) := by decide +kernel
theorem dX3_dropOldest_58 : decode cX3_dropOldest 58 = .ok (.iconst 1, 1) := by decide +kernel
theorem dX3_dropOldest_59 : decode cX3_dropOldest 59 = .ok (.isub, 1) := by decide +kernel
theorem dX3_dropOldest_60 : decode cX3_dropOldest 60 = .ok (.aload_n 1, 1) := by decide +kernel
theorem dX3_dropOldest_61 : decode cX3_dropOldest 61 = .ok (.aastore, 1) := by decide +kernel
theorem dX3_dropOldest_62 : decode cX3_dropOldest 62 = .ok (.aload_n 0, 1) := by decide +kernel
theorem dX3_dropOldest_63 : decode cX3_dropOldest 63 = .ok (.dup, 1) := by decide +kernel
theorem dX3_dropOldest_64 : decode cX3_dropOldest 64 = .ok (.getfield 121, 3) := by decide +kernel
theorem dX3_dropOldest_67 : decode cX3_dropOldest 67 = .ok (.iconst 1, 1) := by decide +kernel
theorem dX3_dropOldest_68 : decode cX3_dropOldest 68 = .ok (.isub, 1) := by decide +kernel
theorem dX3_dropOldest_69 : decode cX3_dropOldest 69 = .ok (.putfield 121, 3) := by decide +kernel
theorem dX3_dropOldest_72 : decode cX3_dropOldest 72 = .ok (.return_, 1) := by decide +kernel
theorem dX3_stateAt_0 : decode cX3_stateAt 0 = .ok (.iload_n 2, 1) := by decide +kernel
theorem dX3_stateAt_1 : decode cX3_stateAt 1 = .ok (.ifCond .lt 19, 3) := by decide +kernel
theorem dX3_stateAt_4 : decode cX3_stateAt 4 = .ok (.iload_n 2, 1) := by decide +kernel
theorem dX3_stateAt_5 : decode cX3_stateAt 5 = .ok (.aload_n 1, 1) := by decide +kernel
theorem dX3_stateAt_6 : decode cX3_stateAt 6 = .ok (.arraylength, 1) := by decide +kernel
theorem dX3_stateAt_7 : decode cX3_stateAt 7 = .ok (.if_icmp .ge 13, 3) := by decide +kernel
theorem dX3_stateAt_10 : decode cX3_stateAt 10 = .ok (.aload_n 1, 1) := by decide +kernel
theorem dX3_stateAt_11 : decode cX3_stateAt 11 = .ok (.iload_n 2, 1) := by decide +kernel
theorem dX3_stateAt_12 : decode cX3_stateAt 12 = .ok (.aaload, 1) := by decide +kernel
theorem dX3_stateAt_13 : decode cX3_stateAt 13 = .ok (.ifnull 7, 3) := by decide +kernel
theorem dX3_stateAt_16 : decode cX3_stateAt 16 = .ok (.aload_n 1, 1) := by decide +kernel
theorem dX3_stateAt_17 : decode cX3_stateAt 17 = .ok (.iload_n 2, 1) := by decide +kernel
theorem dX3_stateAt_18 : decode cX3_stateAt 18 = .ok (.aaload, 1) := by decide +kernel
theorem dX3_stateAt_19 : decode cX3_stateAt 19 = .ok (.areturn, 1) := by decide +kernel
theorem dX3_stateAt_20 : decode cX3_stateAt 20 = .ok (.aload_n 0, 1) := by decide +kernel
theorem dX3_stateAt_21 : decode cX3_stateAt 21 = .ok (.getfield 27, 3) := by decide +kernel
theorem dX3_stateAt_24 : decode cX3_stateAt 24 = .ok (.areturn, 1) := by decide +kernel
theorem dX3_isSetting_0 : decode cX3_isSetting 0 = .ok (.iload_n 0, 1) := by decide +kernel
theorem dX3_isSetting_1 : decode cX3_isSetting 1 = .ok (.ifCond .lt 13, 3) := by decide +kernel
theorem dX3_isSetting_4 : decode cX3_isSetting 4 = .ok (.iload_n 0, 1) := by decide +kernel
theorem dX3_isSetting_5 : decode cX3_isSetting 5 = .ok (.bipush 9, 2) := by decide +kernel
theorem dX3_isSetting_7 : decode cX3_isSetting 7 = .ok (.if_icmp .ge 7, 3) := by decide +kernel
theorem dX3_isSetting_10 : decode cX3_isSetting 10 = .ok (.iconst 1, 1) := by decide +kernel
theorem dX3_isSetting_11 : decode cX3_isSetting 11 = .ok (.goto 4, 3) := by decide +kernel
theorem dX3_isSetting_14 : decode cX3_isSetting 14 = .ok (.iconst 0, 1) := by decide +kernel
theorem dX3_isSetting_15 : decode cX3_isSetting 15 = .ok (.ireturn, 1) := by decide +kernel
theorem dX3_isLetter_0 : decode cX3_isLetter 0 = .ok (.iload_n 0, 1) := by decide +kernel
theorem dX3_isLetter_1 : decode cX3_isLetter 1 = .ok (.bipush 97, 2) := by decide +kernel
theorem dX3_isLetter_3 : decode cX3_isLetter 3 = .ok (.if_icmp .lt 13, 3) := by decide +kernel
theorem dX3_isLetter_6 : decode cX3_isLetter 6 = .ok (.iload_n 0, 1) := by decide +kernel
theorem dX3_isLetter_7 : decode cX3_isLetter 7 = .ok (.bipush 122, 2) := by decide +kernel
theorem dX3_isLetter_9 : decode cX3_isLetter 9 = .ok (.if_icmp .gt 7, 3) := by decide +kernel
theorem dX3_isLetter_12 : decode cX3_isLetter 12 = .ok (.iconst 1, 1) := by decide +kernel
theorem dX3_isLetter_13 : decode cX3_isLetter 13 = .ok (.goto 4, 3) := by decide +kernel
theorem dX3_isLetter_16 : decode cX3_isLetter 16 = .ok (.iconst 0, 1) := by decide +kernel
theorem dX3_isLetter_17 : decode cX3_isLetter 17 = .ok (.ireturn, 1) := by decide +kernel
theorem dX3_at_0 : decode cX3_at 0 = .ok (.iload_n 1, 1) := by decide +kernel
theorem dX3_at_1 : decode cX3_at 1 = .ok (.ifCond .lt 15, 3) := by decide +kernel
theorem dX3_at_4 : decode cX3_at 4 = .ok (.iload_n 1, 1) := by decide +kernel
theorem dX3_at_5 : decode cX3_at 5 = .ok (.aload_n 0, 1) := by decide +kernel
theorem dX3_at_6 : decode cX3_at 6 = .ok (.arraylength, 1) := by decide +kernel
theorem dX3_at_7 : decode cX3_at 7 = .ok (.if_icmp .ge 9, 3) := by decide +kernel
theorem dX3_at_10 : decode cX3_at 10 = .ok (.aload_n 0, 1) := by decide +kernel
theorem dX3_at_11 : decode cX3_at 11 = .ok (.iload_n 1, 1) := by decide +kernel
theorem dX3_at_12 : decode cX3_at 12 = .ok (.iaload, 1) := by decide +kernel
theorem dX3_at_13 : decode cX3_at 13 = .ok (.goto 4, 3) := by decide +kernel
theorem dX3_at_16 : decode cX3_at 16 = .ok (.iconst 0, 1) := by decide +kernel
theorem dX3_at_17 : decode cX3_at 17 = .ok (.ireturn, 1) := by decide +kernel
theorem dX3_put_0 : decode cX3_put 0 = .ok (.iload_n 1, 1) := by decide +kernel
theorem dX3_put_1 : decode cX3_put 1 = .ok (.ifCond .lt 13, 3) := by decide +kernel
theorem dX3_put_4 : decode cX3_put 4 = .ok (.iload_n 1, 1) := by decide +kernel
theorem dX3_put_5 : decode cX3_put 5 = .ok (.aload_n 0, 1) := by decide +kernel
theorem dX3_put_6 : decode cX3_put 6 = .ok (.arraylength, 1) := by decide +kernel
theorem dX3_put_7 : decode cX3_put 7 = .ok (.if_icmp .ge 7, 3) := by decide +kernel
theorem dX3_put_10 : decode cX3_put 10 = .ok (.aload_n 0, 1) := by decide +kernel
theorem dX3_put_11 : decode cX3_put 11 = .ok (.iload_n 1, 1) := by decide +kernel
theorem dX3_put_12 : decode cX3_put 12 = .ok (.iload_n 2, 1) := by decide +kernel
theorem dX3_put_13 : decode cX3_put 13 = .ok (.iastore, 1) := by decide +kernel
theorem dX3_put_14 : decode cX3_put 14 = .ok (.return_, 1) := by decide +kernel
theorem dX3_copyRow_0 : decode cX3_copyRow 0 = .ok (.aload_n 0, 1) := by decide +kernel
theorem dX3_copyRow_1 : decode cX3_copyRow 1 = .ok (.iconst 0, 1) := by decide +kernel
theorem dX3_copyRow_2 : decode cX3_copyRow 2 = .ok (.aload_n 1, 1) := by decide +kernel
theorem dX3_copyRow_3 : decode cX3_copyRow 3 = .ok (.iconst 0, 1) := by decide +kernel
theorem dX3_copyRow_4 : decode cX3_copyRow 4 = .ok (.aload_n 0, 1) := by decide +kernel
theorem dX3_copyRow_5 : decode cX3_copyRow 5 = .ok (.arraylength, 1) := by decide +kernel
theorem dX3_copyRow_6 : decode cX3_copyRow 6 = .ok (.aload_n 1, 1) := by decide +kernel
theorem dX3_copyRow_7 : decode cX3_copyRow 7 = .ok (.arraylength, 1) := by decide +kernel
theorem dX3_copyRow_8 : decode cX3_copyRow 8 = .ok (.invokestatic 250, 3) := by decide +kernel
theorem dX3_copyRow_11 : decode cX3_copyRow 11 = .ok (.invokestatic 255, 3) := by decide +kernel
theorem dX3_copyRow_14 : decode cX3_copyRow 14 = .ok (.return_, 1) := by decide +kernel
theorem dX3_limited_0 : decode cX3_limited 0 = .ok (.iload_n 1, 1) := by decide +kernel
theorem dX3_limited_1 : decode cX3_limited 1 = .ok (.iload_n 0, 1) := by decide +kernel
theorem dX3_limited_2 : decode cX3_limited 2 = .ok (.iload_n 2, 1) := by decide +kernel
theorem dX3_limited_3 : decode cX3_limited 3 = .ok (.invokestatic 250, 3) := by decide +kernel
theorem dX3_limited_6 : decode cX3_limited 6 = .ok (.invokestatic 261, 3) := by decide +kernel
theorem dX3_limited_9 : decode cX3_limited 9 = .ok (.ireturn, 1) := by decide +kernel
theorem dJ9_abs_0f7a4_0 : decode cJ9_abs_0f7a4 0 = .ok (.iload_n 0, 1) := by decide +kernel
theorem dJ9_abs_0f7a4_1 : decode cJ9_abs_0f7a4 1 = .ok (.ifCond .ge 8, 3) := by decide +kernel
theorem dJ9_abs_0f7a4_4 : decode cJ9_abs_0f7a4 4 = .ok (.iload_n 0, 1) := by decide +kernel
theorem dJ9_abs_0f7a4_5 : decode cJ9_abs_0f7a4 5 = .ok (.ineg, 1) := by decide +kernel
theorem dJ9_abs_0f7a4_6 : decode cJ9_abs_0f7a4 6 = .ok (.goto 4, 3) := by decide +kernel
theorem dJ9_abs_0f7a4_9 : decode cJ9_abs_0f7a4 9 = .ok (.iload_n 0, 1) := by decide +kernel
theorem dJ9_abs_0f7a4_10 : decode cJ9_abs_0f7a4 10 = .ok (.ireturn, 1) := by decide +kernel
theorem dJ9_max_7cf53_0 : decode cJ9_max_7cf53 0 = .ok (.iload_n 0, 1) := by decide +kernel
theorem dJ9_max_7cf53_1 : decode cJ9_max_7cf53 1 = .ok (.iload_n 1, 1) := by decide +kernel
theorem dJ9_max_7cf53_2 : decode cJ9_max_7cf53 2 = .ok (.if_icmp .lt 7, 3) := by decide +kernel
theorem dJ9_max_7cf53_5 : decode cJ9_max_7cf53 5 = .ok (.iload_n 0, 1) := by decide +kernel
theorem dJ9_max_7cf53_6 : decode cJ9_max_7cf53 6 = .ok (.goto 4, 3) := by decide +kernel
theorem dJ9_max_7cf53_9 : decode cJ9_max_7cf53 9 = .ok (.iload_n 1, 1) := by decide +kernel
theorem dJ9_max_7cf53_10 : decode cJ9_max_7cf53 10 = .ok (.ireturn, 1) := by decide +kernel
theorem dJ9_max_f86c9_0 : decode cJ9_max_f86c9 0 = .ok (.lload_n 0, 1) := by decide +kernel
theorem dJ9_max_f86c9_1 : decode cJ9_max_f86c9 1 = .ok (.lload_n 2, 1) := by decide +kernel
theorem dJ9_max_f86c9_2 : decode cJ9_max_f86c9 2 = .ok (.lcmp, 1) := by decide +kernel
theorem dJ9_max_f86c9_3 : decode cJ9_max_f86c9 3 = .ok (.ifCond .lt 7, 3) := by decide +kernel
theorem dJ9_max_f86c9_6 : decode cJ9_max_f86c9 6 = .ok (.lload_n 0, 1) := by decide +kernel
theorem dJ9_max_f86c9_7 : decode cJ9_max_f86c9 7 = .ok (.goto 4, 3) := by decide +kernel
theorem dJ9_max_f86c9_10 : decode cJ9_max_f86c9 10 = .ok (.lload_n 2, 1) := by decide +kernel
theorem dJ9_max_f86c9_11 : decode cJ9_max_f86c9 11 = .ok (.lreturn, 1) := by decide +kernel
theorem dJ9_min_7cf53_0 : decode cJ9_min_7cf53 0 = .ok (.iload_n 0, 1) := by decide +kernel
theorem dJ9_min_7cf53_1 : decode cJ9_min_7cf53 1 = .ok (.iload_n 1, 1) := by decide +kernel
theorem dJ9_min_7cf53_2 : decode cJ9_min_7cf53 2 = .ok (.if_icmp .gt 7, 3) := by decide +kernel
theorem dJ9_min_7cf53_5 : decode cJ9_min_7cf53 5 = .ok (.iload_n 0, 1) := by decide +kernel
theorem dJ9_min_7cf53_6 : decode cJ9_min_7cf53 6 = .ok (.goto 4, 3) := by decide +kernel
theorem dJ9_min_7cf53_9 : decode cJ9_min_7cf53 9 = .ok (.iload_n 1, 1) := by decide +kernel
theorem dJ9_min_7cf53_10 : decode cJ9_min_7cf53 10 = .ok (.ireturn, 1) := by decide +kernel
theorem dJ9_min_f86c9_0 : decode cJ9_min_f86c9 0 = .ok (.lload_n 0, 1) := by decide +kernel
theorem dJ9_min_f86c9_1 : decode cJ9_min_f86c9 1 = .ok (.lload_n 2, 1) := by decide +kernel
theorem dJ9_min_f86c9_2 : decode cJ9_min_f86c9 2 = .ok (.lcmp, 1) := by decide +kernel
theorem dJ9_min_f86c9_3 : decode cJ9_min_f86c9 3 = .ok (.ifCond .gt 7, 3) := by decide +kernel
theorem dJ9_min_f86c9_6 : decode cJ9_min_f86c9 6 = .ok (.lload_n 0, 1) := by decide +kernel
theorem dJ9_min_f86c9_7 : decode cJ9_min_f86c9 7 = .ok (.goto 4, 3) := by decide +kernel
theorem dJ9_min_f86c9_10 : decode cJ9_min_f86c9 10 = .ok (.lload_n 2, 1) := by decide +kernel
theorem dJ9_min_f86c9_11 : decode cJ9_min_f86c9 11 = .ok (.lreturn, 1) := by decide +kernel
