theorem dX0_init_0 : decode cX0_init 0 = .ok (.aload_n 0, 1) := by decide +kernel
theorem dX0_init_1 : decode cX0_init 1 = .ok (.invokespecial 3, 3) := by decide +kernel
theorem dX0_init_4 : decode cX0_init 4 = .ok (.aload_n 0, 1) := by decide +kernel
theorem dX0_init_5 : decode cX0_init 5 = .ok (.bipush 120, 2) := by decide +kernel
theorem dX0_init_7 : decode cX0_init 7 = .ok (.newarray .int, 2) := by decide +kernel
theorem dX0_init_9 : decode cX0_init 9 = .ok (.putfield 9, 3) := by decide +kernel
theorem dX0_init_12 : decode cX0_init 12 = .ok (.aload_n 0, 1) := by decide +kernel
theorem dX0_init_13 : decode cX0_init 13 = .ok (.bipush 120, 2) := by decide +kernel
theorem dX0_init_15 : decode cX0_init 15 = .ok (.newarray .int, 2) := by decide +kernel
theorem dX0_init_17 : decode cX0_init 17 = .ok (.putfield 15, 3) := by decide +kernel
theorem dX0_init_20 : decode cX0_init 20 = .ok (.aload_n 0, 1) := by decide +kernel
theorem dX0_init_21 : decode cX0_init 21 = .ok (.bipush 120, 2) := by decide +kernel
theorem dX0_init_23 : decode cX0_init 23 = .ok (.newarray .int, 2) := by decide +kernel
theorem dX0_init_25 : decode cX0_init 25 = .ok (.putfield 18, 3) := by decide +kernel
theorem dX0_init_28 : decode cX0_init 28 = .ok (.aload_n 0, 1) := by decide +kernel
theorem dX0_init_29 : decode cX0_init 29 = .ok (.bipush 120, 2) := by decide +kernel
theorem dX0_init_31 : decode cX0_init 31 = .ok (.newarray .int, 2) := by decide +kernel
theorem dX0_init_33 : decode cX0_init 33 = .ok (.putfield 21, 3) := by decide +kernel
theorem dX0_init_36 : decode cX0_init 36 = .ok (.aload_n 0, 1) := by decide +kernel
theorem dX0_init_37 : decode cX0_init 37 = .ok (.bipush 120, 2) := by decide +kernel
theorem dX0_init_39 : decode cX0_init 39 = .ok (.newarray .int, 2) := by decide +kernel
theorem dX0_init_41 : decode cX0_init 41 = .ok (.putfield 24, 3) := by decide +kernel
theorem dX0_init_44 : decode cX0_init 44 = .ok (.return_, 1) := by decide +kernel
set_option maxRecDepth 20000 in
theorem ggX0_become_X3_copyRow : GoodIn wsX0_become wsX3_copyRow := goodIn_r _ [12, 13, 14, 15, 16, 17, 18, 19, 20] (by decide +kernel) (by decide +kernel)
set_option maxRecDepth 20000 in
theorem gX0_become_X3_copyRow_n40 : GoodIn wsX0_become (wsX3_copyRow) := ggX0_become_X3_copyRow
theorem dX0_become_0 : decode cX0_become 0 = .ok (.aload_n 0, 1) := by decide +kernel
theorem dX0_become_1 : decode cX0_become 1 = .ok (.aload_n 1, 1) := by decide +kernel
theorem dX0_become_2 : decode cX0_become 2 = .ok (.getfield 27, 3) := by decide +kernel
theorem dX0_become_5 : decode cX0_become 5 = .ok (.putfield 27, 3) := by decide +kernel
theorem dX0_become_8 : decode cX0_become 8 = .ok (.aload_n 0, 1) := by decide +kernel
theorem dX0_become_9 : decode cX0_become 9 = .ok (.aload_n 1, 1) := by decide +kernel
theorem dX0_become_10 : decode cX0_become 10 = .ok (.getfield 31, 3) := by decide +kernel
theorem dX0_become_13 : decode cX0_become 13 = .ok (.putfield 31, 3) := by decide +kernel
theorem dX0_become_16 : decode cX0_become 16 = .ok (.aload_n 0, 1) := by decide +kernel
theorem dX0_become_17 : decode cX0_become 17 = .ok (.aload_n 1, 1) := by decide +kernel
theorem dX0_become_18 : decode cX0_become 18 = .ok (.getfield 34, 3) := by decide +kernel
theorem dX0_become_21 : decode cX0_become 21 = .ok (.putfield 34, 3) := by decide +kernel
theorem dX0_become_24 : decode cX0_become 24 = .ok (.aload_n 0, 1) := by decide +kernel
theorem dX0_become_25 : decode cX0_become 25 = .ok (.aload_n 1, 1) := by decide +kernel
theorem dX0_become_26 : decode cX0_become 26 = .ok (.getfield 37, 3) := by decide +kernel
theorem dX0_become_29 : decode cX0_become 29 = .ok (.putfield 37, 3) := by decide +kernel
theorem dX0_become_32 : decode cX0_become 32 = .ok (.aload_n 1, 1) := by decide +kernel
theorem dX0_become_33 : decode cX0_become 33 = .ok (.getfield 9, 3) := by decide +kernel
theorem dX0_become_36 : decode cX0_become 36 = .ok (.aload_n 0, 1) := by decide +kernel
theorem dX0_become_37 : decode cX0_become 37 = .ok (.getfield 9, 3) := by decide +kernel
theorem dX0_become_40 : decode cX0_become 40 = .ok (.invokestatic 40, 3) := by decide +kernel
theorem dX0_become_43 : decode cX0_become 43 = .ok (.aload_n 1, 1) := by decide +kernel
theorem dX0_become_44 : decode cX0_become 44 = .ok (.getfield 15, 3) := by decide +kernel
theorem dX0_become_47 : decode cX0_become 47 = .ok (.aload_n 0, 1) := by decide +kernel
theorem dX0_become_48 : decode cX0_become 48 = .ok (.getfield 15, 3) := by decide +kernel
theorem dX0_become_51 : decode cX0_become 51 = .ok (.invokestatic 40, 3) := by decide +kernel
theorem dX0_become_54 : decode cX0_become 54 = .ok (.aload_n 1, 1) := by decide +kernel
theorem dX0_become_55 : decode cX0_become 55 = .ok (.getfield 18, 3) := by decide +kernel
theorem dX0_become_58 : decode cX0_become 58 = .ok (.aload_n 0, 1) := by decide +kernel
theorem dX0_become_59 : decode cX0_become 59 = .ok (.getfield 18, 3) := by decide +kernel
theorem dX0_become_62 : decode cX0_become 62 = .ok (.invokestatic 40, 3) := by decide +kernel
theorem dX0_become_65 : decode cX0_become 65 = .ok (.aload_n 1, 1) := by decide +kernel
theorem dX0_become_66 : decode cX0_become 66 = .ok (.getfield 21, 3) := by decide +kernel
theorem dX0_become_69 : decode cX0_become 69 = .ok (.aload_n 0, 1) := by decide +kernel
theorem dX0_become_70 : decode cX0_become 70 = .ok (.getfield 21, 3) := by decide +kernel
theorem dX0_become_73 : decode cX0_become 73 = .ok (.invokestatic 40, 3) := by decide +kernel
theorem dX0_become_76 : decode cX0_become 76 = .ok (.aload_n 1, 1) := by decide +kernel
theorem dX0_become_77 : decode cX0_become 77 = .ok (.getfield 24, 3) := by decide +kernel
theorem dX0_become_80 : decode cX0_become 80 = .ok (.aload_n 0, 1) := by decide +kernel
theorem dX0_become_81 : decode cX0_become 81 = .ok (.getfield 24, 3) := by decide +kernel
theorem dX0_become_84 : decode cX0_become 84 = .ok (.invokestatic 40, 3) := by decide +kernel
theorem dX0_become_87 : decode cX0_become 87 = .ok (.return_, 1) := by decide +kernel
theorem dX0_empty_0 : decode cX0_empty 0 = .ok (.aload_n 0, 1) := by decide +kernel
theorem dX0_empty_1 : decode cX0_empty 1 = .ok (.iconst 0, 1) := by decide +kernel
theorem dX0_empty_2 : decode cX0_empty 2 = .ok (.putfield 27, 3) := by decide +kernel
theorem dX0_empty_5 : decode cX0_empty 5 = .ok (.aload_n 0, 1) := by decide +kernel
theorem dX0_empty_6 : decode cX0_empty 6 = .ok (.iconst 1, 1) := by decide +kernel
theorem dX0_empty_7 : decode cX0_empty 7 = .ok (.putfield 31, 3) := by decide +kernel
theorem dX0_empty_10 : decode cX0_empty 10 = .ok (.aload_n 0, 1) := by decide +kernel
theorem dX0_empty_11 : decode cX0_empty 11 = .ok (.iconst 0, 1) := by decide +kernel
theorem dX0_empty_12 : decode cX0_empty 12 = .ok (.putfield 34, 3) := by decide +kernel
theorem dX0_empty_15 : decode cX0_empty 15 = .ok (.return_, 1) := by decide +kernel
set_option maxRecDepth 20000 in
theorem ggX0_read_X3_isLetter : GoodIn wsX0_read wsX3_isLetter := goodIn_r _ [4] (by decide +kernel) (by decide +kernel)
set_option maxRecDepth 20000 in
theorem gX0_read_X3_isLetter_n44 : GoodIn wsX0_read (wsX3_isLetter) := ggX0_read_X3_isLetter
set_option maxRecDepth 20000 in
theorem ggX0_read_X0_append : GoodIn wsX0_read wsX0_append := goodIn_r _ [9, 10, 11, 12, 13, 14, 1, 15, 3, 16, 25, 26, 27, 28, 29, 30, 31, 32, 33] (by decide +kernel) (by decide +kernel)
set_option maxRecDepth 20000 in
theorem gX0_read_X0_append : GoodIn wsX0_read (wsV RX0 48 RX0 yX0_append wsX0_append) := goodIn_app (goodIn_of _ (by decide +kernel)) ggX0_read_X0_append
set_option maxRecDepth 20000 in
theorem ggX0_read_X0_setCue : GoodIn wsX0_read wsX0_setCue := goodIn_r _ [20, 14, 10, 15, 3, 16, 25, 26, 27, 28, 29, 30, 31, 32, 33] (by decide +kernel) (by decide +kernel)
set_option maxRecDepth 20000 in
theorem gX0_read_X0_setCue : GoodIn wsX0_read (wsV RX0 52 RX0 yX0_setCue wsX0_setCue) := goodIn_app (goodIn_of _ (by decide +kernel)) ggX0_read_X0_setCue
set_option maxRecDepth 20000 in
theorem ggX0_read_X0_endPassage : GoodIn wsX0_read wsX0_endPassage := goodIn_r _ [24, 13, 1, 25, 26, 27, 28, 29, 30, 31, 32, 33] (by decide +kernel) (by decide +kernel)
set_option maxRecDepth 20000 in
theorem gX0_read_X0_endPassage : GoodIn wsX0_read (wsV RX0 56 RX0 yX0_endPassage wsX0_endPassage) := goodIn_app (goodIn_of _ (by decide +kernel)) ggX0_read_X0_endPassage
theorem dX0_read_0 : decode cX0_read 0 = .ok (.iload_n 1, 1) := by decide +kernel
theorem dX0_read_1 : decode cX0_read 1 = .ok (.invokestatic 44, 3) := by decide +kernel
theorem dX0_read_4 : decode cX0_read 4 = .ok (.ifCond .eq 9, 3) := by decide +kernel
theorem dX0_read_7 : decode cX0_read 7 = .ok (.aload_n 0, 1) := by decide +kernel
theorem dX0_read_8 : decode cX0_read 8 = .ok (.iload_n 1, 1) := by decide +kernel
theorem dX0_read_9 : decode cX0_read 9 = .ok (.invokevirtual 48, 3) := by decide +kernel
theorem dX0_read_12 : decode cX0_read 12 = .ok (.ireturn, 1) := by decide +kernel
theorem dX0_read_13 : decode cX0_read 13 = .ok (.iload_n 1, 1) := by decide +kernel
theorem dX0_read_14 : decode cX0_read 14 = .ok (.bipush 47, 2) := by decide +kernel
theorem dX0_read_16 : decode cX0_read 16 = .ok (.if_icmp .ne 19, 3) := by decide +kernel
theorem dX0_read_19 : decode cX0_read 19 = .ok (.iload_n 2, 1) := by decide +kernel
theorem dX0_read_20 : decode cX0_read 20 = .ok (.invokestatic 44, 3) := by decide +kernel
theorem dX0_read_23 : decode cX0_read 23 = .ok (.ifCond .eq 10, 3) := by decide +kernel
theorem dX0_read_26 : decode cX0_read 26 = .ok (.aload_n 0, 1) := by decide +kernel
theorem dX0_read_27 : decode cX0_read 27 = .ok (.invokevirtual 52, 3) := by decide +kernel
theorem dX0_read_30 : decode cX0_read 30 = .ok (.goto 4, 3) := by decide +kernel
theorem dX0_read_33 : decode cX0_read 33 = .ok (.iconst 2, 1) := by decide +kernel
theorem dX0_read_34 : decode cX0_read 34 = .ok (.ireturn, 1) := by decide +kernel
theorem dX0_read_35 : decode cX0_read 35 = .ok (.iload_n 1, 1) := by decide +kernel
theorem dX0_read_36 : decode cX0_read 36 = .ok (.bipush 124, 2) := by decide +kernel
theorem dX0_read_38 : decode cX0_read 38 = .ok (.if_icmp .ne 19, 3) := by decide +kernel
theorem dX0_read_41 : decode cX0_read 41 = .ok (.aload_n 0, 1) := by decide +kernel
theorem dX0_read_42 : decode cX0_read 42 = .ok (.getfield 34, 3) := by decide +kernel
theorem dX0_read_45 : decode cX0_read 45 = .ok (.ifCond .le 10, 3) := by decide +kernel
theorem dX0_read_48 : decode cX0_read 48 = .ok (.aload_n 0, 1) := by decide +kernel
theorem dX0_read_49 : decode cX0_read 49 = .ok (.invokevirtual 56, 3) := by decide +kernel
theorem dX0_read_52 : decode cX0_read 52 = .ok (.goto 4, 3) := by decide +kernel
theorem dX0_read_55 : decode cX0_read 55 = .ok (.iconst 3, 1) := by decide +kernel
theorem dX0_read_56 : decode cX0_read 56 = .ok (.ireturn, 1) := by decide +kernel
theorem dX0_read_57 : decode cX0_read 57 = .ok (.iload_n 1, 1) := by decide +kernel
theorem dX0_read_58 : decode cX0_read 58 = .ok (.bipush 32, 2) := by decide +kernel
theorem dX0_read_60 : decode cX0_read 60 = .ok (.if_icmp .ne 7, 3) := by decide +kernel
theorem dX0_read_63 : decode cX0_read 63 = .ok (.iconst 0, 1) := by decide +kernel
theorem dX0_read_64 : decode cX0_read 64 = .ok (.goto 4, 3) := by decide +kernel
theorem dX0_read_67 : decode cX0_read 67 = .ok (.iconst 1, 1) := by decide +kernel
theorem dX0_read_68 : decode cX0_read 68 = .ok (.ireturn, 1) := by decide +kernel
set_option maxRecDepth 20000 in
theorem ggX0_append_X3_put : GoodIn wsX0_append wsX3_put := goodIn_r _ [9] (by decide +kernel) (by decide +kernel)
set_option maxRecDepth 20000 in
theorem gX0_append_X3_put_n59 : GoodIn wsX0_append (wsX3_put) := ggX0_append_X3_put
theorem dX0_append_0 : decode cX0_append 0 = .ok (.aload_n 0, 1) := by decide +kernel
theorem dX0_append_1 : decode cX0_append 1 = .ok (.getfield 27, 3) := by decide +kernel
theorem dX0_append_4 : decode cX0_append 4 = .ok (.bipush 120, 2) := by decide +kernel
theorem dX0_append_6 : decode cX0_append 6 = .ok (.if_icmp .lt 5, 3) := by decide +kernel
theorem dX0_append_9 : decode cX0_append 9 = .ok (.iconst 4, 1) := by decide +kernel
theorem dX0_append_10 : decode cX0_append 10 = .ok (.ireturn, 1) := by decide +kernel
theorem dX0_append_11 : decode cX0_append 11 = .ok (.aload_n 0, 1) := by decide +kernel
theorem dX0_append_12 : decode cX0_append 12 = .ok (.getfield 9, 3) := by decide +kernel
theorem dX0_append_15 : decode cX0_append 15 = .ok (.aload_n 0, 1) := by decide +kernel
theorem dX0_append_16 : decode cX0_append 16 = .ok (.getfield 27, 3) := by decide +kernel
theorem dX0_append_19 : decode cX0_append 19 = .ok (.iload_n 1, 1) := by decide +kernel
theorem dX0_append_20 : decode cX0_append 20 = .ok (.invokestatic 59, 3) := by decide +kernel
theorem dX0_append_23 : decode cX0_append 23 = .ok (.aload_n 0, 1) := by decide +kernel
theorem dX0_append_24 : decode cX0_append 24 = .ok (.getfield 15, 3) := by decide +kernel
theorem dX0_append_27 : decode cX0_append 27 = .ok (.aload_n 0, 1) := by decide +kernel
theorem dX0_append_28 : decode cX0_append 28 = .ok (.getfield 27, 3) := by decide +kernel
theorem dX0_append_31 : decode cX0_append 31 = .ok (.aload_n 0, 1) := by decide +kernel
theorem dX0_append_32 : decode cX0_append 32 = .ok (.getfield 31, 3) := by decide +kernel
theorem dX0_append_35 : decode cX0_append 35 = .ok (.iconst 1, 1) := by decide +kernel
theorem dX0_append_36 : decode cX0_append 36 = .ok (.isub, 1) := by decide +kernel
theorem dX0_append_37 : decode cX0_append 37 = .ok (.invokestatic 59, 3) := by decide +kernel
theorem dX0_append_40 : decode cX0_append 40 = .ok (.aload_n 0, 1) := by decide +kernel
theorem dX0_append_41 : decode cX0_append 41 = .ok (.getfield 18, 3) := by decide +kernel
theorem dX0_append_44 : decode cX0_append 44 = .ok (.aload_n 0, 1) := by decide +kernel
theorem dX0_append_45 : decode cX0_append 45 = .ok (.getfield 27, 3) := by decide +kernel
theorem dX0_append_48 : decode cX0_append 48 = .ok (.iconst 0, 1) := by decide +kernel
theorem dX0_append_49 : decode cX0_append 49 = .ok (.invokestatic 59, 3) := by decide +kernel
theorem dX0_append_52 : decode cX0_append 52 = .ok (.aload_n 0, 1) := by decide +kernel
theorem dX0_append_53 : decode cX0_append 53 = .ok (.dup, 1) := by decide +kernel
theorem dX0_append_54 : decode cX0_append 54 = .ok (.getfield 27, 3) := by decide +kernel
theorem dX0_append_57 : decode cX0_append 57 = .ok (.iconst 1, 1) := by decide +kernel
theorem dX0_append_58 : decode cX0_append 58 = .ok (.iadd, 1) := by decide +kernel
theorem dX0_append_59 : decode cX0_append 59 = .ok (.putfield 27, 3) := by decide +kernel
theorem dX0_append_62 : decode cX0_append 62 = .ok (.aload_n 0, 1) := by decide +kernel
theorem dX0_append_63 : decode cX0_append 63 = .ok (.dup, 1) := by decide +kernel
theorem dX0_append_64 : decode cX0_append 64 = .ok (.getfield 34, 3) := by decide +kernel
theorem dX0_append_67 : decode cX0_append 67 = .ok (.iconst 1, 1) := by decide +kernel
theorem dX0_append_68 : decode cX0_append 68 = .ok (.iadd, 1) := by decide +kernel
theorem dX0_append_69 : decode cX0_append 69 = .ok (.putfield 34, 3) := by decide +kernel
theorem dX0_append_72 : decode cX0_append 72 = .ok (.iconst 0, 1) := by decide +kernel
theorem dX0_append_73 : decode cX0_append 73 = .ok (.ireturn, 1) := by decide +kernel
set_option maxRecDepth 20000 in
theorem ggX0_setCue_X3_put : GoodIn wsX0_setCue wsX3_put := goodIn_r _ [5] (by decide +kernel) (by decide +kernel)
set_option maxRecDepth 20000 in
theorem gX0_setCue_X3_put_n59 : GoodIn wsX0_setCue (wsX3_put) := ggX0_setCue_X3_put
theorem dX0_setCue_0 : decode cX0_setCue 0 = .ok (.aload_n 0, 1) := by decide +kernel
theorem dX0_setCue_1 : decode cX0_setCue 1 = .ok (.getfield 18, 3) := by decide +kernel
theorem dX0_setCue_4 : decode cX0_setCue 4 = .ok (.aload_n 0, 1) := by decide +kernel
theorem dX0_setCue_5 : decode cX0_setCue 5 = .ok (.getfield 27, 3) := by decide +kernel
theorem dX0_setCue_8 : decode cX0_setCue 8 = .ok (.iconst 1, 1) := by decide +kernel
theorem dX0_setCue_9 : decode cX0_setCue 9 = .ok (.isub, 1) := by decide +kernel
theorem dX0_setCue_10 : decode cX0_setCue 10 = .ok (.iconst 1, 1) := by decide +kernel
theorem dX0_setCue_11 : decode cX0_setCue 11 = .ok (.invokestatic 59, 3) := by decide +kernel
theorem dX0_setCue_14 : decode cX0_setCue 14 = .ok (.iconst 0, 1) := by decide +kernel
theorem dX0_setCue_15 : decode cX0_setCue 15 = .ok (.ireturn, 1) := by decide +kernel
theorem dX0_endPassage_0 : decode cX0_endPassage 0 = .ok (.aload_n 0, 1) := by decide +kernel
theorem dX0_endPassage_1 : decode cX0_endPassage 1 = .ok (.dup, 1) := by decide +kernel
theorem dX0_endPassage_2 : decode cX0_endPassage 2 = .ok (.getfield 31, 3) := by decide +kernel
theorem dX0_endPassage_5 : decode cX0_endPassage 5 = .ok (.iconst 1, 1) := by decide +kernel
theorem dX0_endPassage_6 : decode cX0_endPassage 6 = .ok (.iadd, 1) := by decide +kernel
theorem dX0_endPassage_7 : decode cX0_endPassage 7 = .ok (.putfield 31, 3) := by decide +kernel
theorem dX0_endPassage_10 : decode cX0_endPassage 10 = .ok (.aload_n 0, 1) := by decide +kernel
theorem dX0_endPassage_11 : decode cX0_endPassage 11 = .ok (.iconst 0, 1) := by decide +kernel
theorem dX0_endPassage_12 : decode cX0_endPassage 12 = .ok (.putfield 34, 3) := by decide +kernel
theorem dX0_endPassage_15 : decode cX0_endPassage 15 = .ok (.iconst 0, 1) := by decide +kernel
theorem dX0_endPassage_16 : decode cX0_endPassage 16 = .ok (.ireturn, 1) := by decide +kernel
set_option maxRecDepth 20000 in
theorem ggX0_lay_X3_at : GoodIn wsX0_lay wsX3_at := goodIn_r _ [8] (by decide +kernel) (by decide +kernel)
set_option maxRecDepth 20000 in
theorem gX0_lay_X3_at_n63 : GoodIn wsX0_lay (wsX3_at) := ggX0_lay_X3_at
set_option maxRecDepth 20000 in
theorem ggX0_lay_X3_put : GoodIn wsX0_lay wsX3_put := goodIn_r _ [10] (by decide +kernel) (by decide +kernel)
set_option maxRecDepth 20000 in
theorem gX0_lay_X3_put_n59 : GoodIn wsX0_lay (wsX3_put) := ggX0_lay_X3_put
theorem dX0_lay_0 : decode cX0_lay 0 = .ok (.iconst 0, 1) := by decide +kernel
theorem dX0_lay_1 : decode cX0_lay 1 = .ok (.istore_n 2, 1) := by decide +kernel
theorem dX0_lay_2 : decode cX0_lay 2 = .ok (.aload_n 0, 1) := by decide +kernel
theorem dX0_lay_3 : decode cX0_lay 3 = .ok (.iconst 0, 1) := by decide +kernel
theorem dX0_lay_4 : decode cX0_lay 4 = .ok (.putfield 37, 3) := by decide +kernel
theorem dX0_lay_7 : decode cX0_lay 7 = .ok (.iconst 0, 1) := by decide +kernel
theorem dX0_lay_8 : decode cX0_lay 8 = .ok (.istore_n 3, 1) := by decide +kernel
theorem dX0_lay_9 : decode cX0_lay 9 = .ok (.iload_n 3, 1) := by decide +kernel
theorem dX0_lay_10 : decode cX0_lay 10 = .ok (.aload_n 0, 1) := by decide +kernel
theorem dX0_lay_11 : decode cX0_lay 11 = .ok (.getfield 27, 3) := by decide +kernel
theorem dX0_lay_14 : decode cX0_lay 14 = .ok (.if_icmp .ge 80, 3) := by decide +kernel
theorem dX0_lay_17 : decode cX0_lay 17 = .ok (.iload_n 2, 1) := by decide +kernel
theorem dX0_lay_18 : decode cX0_lay 18 = .ok (.ifCond .eq 29, 3) := by decide +kernel
theorem dX0_lay_21 : decode cX0_lay 21 = .ok (.iload_n 2, 1) := by decide +kernel
theorem dX0_lay_22 : decode cX0_lay 22 = .ok (.iload_n 1, 1) := by decide +kernel
theorem dX0_lay_23 : decode cX0_lay 23 = .ok (.if_icmp .ge 24, 3) := by decide +kernel
theorem dX0_lay_26 : decode cX0_lay 26 = .ok (.aload_n 0, 1) := by decide +kernel
theorem dX0_lay_27 : decode cX0_lay 27 = .ok (.getfield 15, 3) := by decide +kernel
theorem dX0_lay_30 : decode cX0_lay 30 = .ok (.iload_n 3, 1) := by decide +kernel
theorem dX0_lay_31 : decode cX0_lay 31 = .ok (.invokestatic 63, 3) := by decide +kernel
theorem dX0_lay_34 : decode cX0_lay 34 = .ok (.aload_n 0, 1) := by decide +kernel
theorem dX0_lay_35 : decode cX0_lay 35 = .ok (.getfield 15, 3) := by decide +kernel
theorem dX0_lay_38 : decode cX0_lay 38 = .ok (.iload_n 3, 1) := by decide +kernel
theorem dX0_lay_39 : decode cX0_lay 39 = .ok (.iconst 1, 1) := by decide +kernel
theorem dX0_lay_40 : decode cX0_lay 40 = .ok (.isub, 1) := by decide +kernel
theorem dX0_lay_41 : decode cX0_lay 41 = .ok (.invokestatic 63, 3) := by decide +kernel
theorem dX0_lay_44 : decode cX0_lay 44 = .ok (.if_icmp .eq 27, 3) := by decide +kernel
theorem dX0_lay_47 : decode cX0_lay 47 = .ok (.aload_n 0, 1) := by decide +kernel
theorem dX0_lay_48 : decode cX0_lay 48 = .ok (.getfield 24, 3) := by decide +kernel
theorem dX0_lay_51 : decode cX0_lay 51 = .ok (.aload_n 0, 1) := by decide +kernel
theorem dX0_lay_52 : decode cX0_lay 52 = .ok (.getfield 37, 3) := by decide +kernel
theorem dX0_lay_55 : decode cX0_lay 55 = .ok (.iload_n 3, 1) := by decide +kernel
theorem dX0_lay_56 : decode cX0_lay 56 = .ok (.invokestatic 59, 3) := by decide +kernel
theorem dX0_lay_59 : decode cX0_lay 59 = .ok (.aload_n 0, 1) := by decide +kernel
theorem dX0_lay_60 : decode cX0_lay 60 = .ok (.dup, 1) := by decide +kernel
theorem dX0_lay_61 : decode cX0_lay 61 = .ok (.getfield 37, 3) := by decide +kernel
theorem dX0_lay_64 : decode cX0_lay 64 = .ok (.iconst 1, 1) := by decide +kernel
theorem dX0_lay_65 : decode cX0_lay 65 = .ok (.iadd, 1) := by decide +kernel
theorem dX0_lay_66 : decode cX0_lay 66 = .ok (.putfield 37, 3) := by decide +kernel
theorem dX0_lay_69 : decode cX0_lay 69 = .ok (.iconst 0, 1) := by decide +kernel
theorem dX0_lay_70 : decode cX0_lay 70 = .ok (.istore_n 2, 1) := by decide +kernel
theorem dX0_lay_71 : decode cX0_lay 71 = .ok (.aload_n 0, 1) := by decide +kernel
theorem dX0_lay_72 : decode cX0_lay 72 = .ok (.getfield 21, 3) := by decide +kernel
theorem dX0_lay_75 : decode cX0_lay 75 = .ok (.iload_n 3, 1) := by decide +kernel
theorem dX0_lay_76 : decode cX0_lay 76 = .ok (.aload_n 0, 1) := by decide +kernel
theorem dX0_lay_77 : decode cX0_lay 77 = .ok (.getfield 37, 3) := by decide +kernel
theorem dX0_lay_80 : decode cX0_lay 80 = .ok (.iconst 1, 1) := by decide +kernel
theorem dX0_lay_81 : decode cX0_lay 81 = .ok (.isub, 1) := by decide +kernel
theorem dX0_lay_82 : decode cX0_lay 82 = .ok (.invokestatic 59, 3) := by decide +kernel
theorem dX0_lay_85 : decode cX0_lay 85 = .ok (.iinc 2 1, 3) := by decide +kernel
theorem dX0_lay_88 : decode cX0_lay 88 = .ok (.iinc 3 1, 3) := by decide +kernel
theorem dX0_lay_91 : decode cX0_lay 91 = .ok (.goto (-82), 3) := by decide +kernel
theorem dX0_lay_94 : decode cX0_lay 94 = .ok (.return_, 1) := by decide +kernel
theorem dX0_has_0 : decode cX0_has 0 = .ok (.iload_n 1, 1) := by decide +kernel
theorem dX0_has_1 : decode cX0_has 1 = .ok (.ifCond .lt 15, 3) := by decide +kernel
theorem dX0_has_4 : decode cX0_has 4 = .ok (.iload_n 1, 1) := by decide +kernel
theorem dX0_has_5 : decode cX0_has 5 = .ok (.aload_n 0, 1) := by decide +kernel
theorem dX0_has_6 : decode cX0_has 6 = .ok (.getfield 27, 3) := by decide +kernel
theorem dX0_has_9 : decode cX0_has 9 = .ok (.if_icmp .ge 7, 3) := by decide +kernel
theorem dX0_has_12 : decode cX0_has 12 = .ok (.iconst 1, 1) := by decide +kernel
theorem dX0_has_13 : decode cX0_has 13 = .ok (.goto 4, 3) := by decide +kernel
theorem dX0_has_16 : decode cX0_has 16 = .ok (.iconst 0, 1) := by decide +kernel
theorem dX0_has_17 : decode cX0_has 17 = .ok (.ireturn, 1) := by decide +kernel
set_option maxRecDepth 20000 in
theorem ggX0_rowLength_X3_at : GoodIn wsX0_rowLength wsX3_at := goodIn_r _ [6] (by decide +kernel) (by decide +kernel)
set_option maxRecDepth 20000 in
theorem gX0_rowLength_X3_at_n63 : GoodIn wsX0_rowLength (wsX3_at) := ggX0_rowLength_X3_at
theorem dX0_rowLength_0 : decode cX0_rowLength 0 = .ok (.iload_n 1, 1) := by decide +kernel
theorem dX0_rowLength_1 : decode cX0_rowLength 1 = .ok (.iconst 1, 1) := by decide +kernel
theorem dX0_rowLength_2 : decode cX0_rowLength 2 = .ok (.iadd, 1) := by decide +kernel
theorem dX0_rowLength_3 : decode cX0_rowLength 3 = .ok (.aload_n 0, 1) := by decide +kernel
theorem dX0_rowLength_4 : decode cX0_rowLength 4 = .ok (.getfield 37, 3) := by decide +kernel
theorem dX0_rowLength_7 : decode cX0_rowLength 7 = .ok (.if_icmp .ge 16, 3) := by decide +kernel
theorem dX0_rowLength_10 : decode cX0_rowLength 10 = .ok (.aload_n 0, 1) := by decide +kernel
theorem dX0_rowLength_11 : decode cX0_rowLength 11 = .ok (.getfield 24, 3) := by decide +kernel
theorem dX0_rowLength_14 : decode cX0_rowLength 14 = .ok (.iload_n 1, 1) := by decide +kernel
theorem dX0_rowLength_15 : decode cX0_rowLength 15 = .ok (.iconst 1, 1) := by decide +kernel
theorem dX0_rowLength_16 : decode cX0_rowLength 16 = .ok (.iadd, 1) := by decide +kernel
theorem dX0_rowLength_17 : decode cX0_rowLength 17 = .ok (.invokestatic 63, 3) := by decide +kernel
theorem dX0_rowLength_20 : decode cX0_rowLength 20 = .ok (.goto 7, 3) := by decide +kernel
theorem dX0_rowLength_23 : decode cX0_rowLength 23 = .ok (.aload_n 0, 1) := by decide +kernel
theorem dX0_rowLength_24 : decode cX0_rowLength 24 = .ok (.getfield 27, 3) := by decide +kernel
theorem dX0_rowLength_27 : decode cX0_rowLength 27 = .ok (.istore_n 2, 1) := by decide +kernel
theorem dX0_rowLength_28 : decode cX0_rowLength 28 = .ok (.iload_n 2, 1) := by decide +kernel
theorem dX0_rowLength_29 : decode cX0_rowLength 29 = .ok (.aload_n 0, 1) := by decide +kernel
theorem dX0_rowLength_30 : decode cX0_rowLength 30 = .ok (.getfield 24, 3) := by decide +kernel
theorem dX0_rowLength_33 : decode cX0_rowLength 33 = .ok (.iload_n 1, 1) := by decide +kernel
theorem dX0_rowLength_34 : decode cX0_rowLength 34 = .ok (.invokestatic 63, 3) := by decide +kernel
theorem dX0_rowLength_37 : decode cX0_rowLength 37 = .ok (.isub, 1) := by decide +kernel
theorem dX0_rowLength_38 : decode cX0_rowLength 38 = .ok (.ireturn, 1) := by decide +kernel
set_option maxRecDepth 20000 in
theorem ggX0_cueCount_X3_at : GoodIn wsX0_cueCount wsX3_at := goodIn_r _ [5] (by decide +kernel) (by decide +kernel)
set_option maxRecDepth 20000 in
theorem gX0_cueCount_X3_at_n63 : GoodIn wsX0_cueCount (wsX3_at) := ggX0_cueCount_X3_at
theorem dX0_cueCount_0 : decode cX0_cueCount 0 = .ok (.iconst 0, 1) := by decide +kernel
theorem dX0_cueCount_1 : decode cX0_cueCount 1 = .ok (.istore_n 1, 1) := by decide +kernel
theorem dX0_cueCount_2 : decode cX0_cueCount 2 = .ok (.iconst 0, 1) := by decide +kernel
theorem dX0_cueCount_3 : decode cX0_cueCount 3 = .ok (.istore_n 2, 1) := by decide +kernel
theorem dX0_cueCount_4 : decode cX0_cueCount 4 = .ok (.iload_n 2, 1) := by decide +kernel
theorem dX0_cueCount_5 : decode cX0_cueCount 5 = .ok (.aload_n 0, 1) := by decide +kernel
theorem dX0_cueCount_6 : decode cX0_cueCount 6 = .ok (.getfield 27, 3) := by decide +kernel
theorem dX0_cueCount_9 : decode cX0_cueCount 9 = .ok (.if_icmp .ge 23, 3) := by decide +kernel
theorem dX0_cueCount_12 : decode cX0_cueCount 12 = .ok (.aload_n 0, 1) := by decide +kernel
theorem dX0_cueCount_13 : decode cX0_cueCount 13 = .ok (.getfield 18, 3) := by decide +kernel
theorem dX0_cueCount_16 : decode cX0_cueCount 16 = .ok (.iload_n 2, 1) := by decide +kernel
theorem dX0_cueCount_17 : decode cX0_cueCount 17 = .ok (.invokestatic 63, 3) := by decide +kernel
theorem dX0_cueCount_20 : decode cX0_cueCount 20 = .ok (.ifCond .eq 6, 3) := by decide +kernel
theorem dX0_cueCount_23 : decode cX0_cueCount 23 = .ok (.iinc 1 1, 3) := by decide +kernel
theorem dX0_cueCount_26 : decode cX0_cueCount 26 = .ok (.iinc 2 1, 3) := by decide +kernel
theorem dX0_cueCount_29 : decode cX0_cueCount 29 = .ok (.goto (-25), 3) := by decide +kernel
theorem dX0_cueCount_32 : decode cX0_cueCount 32 = .ok (.iload_n 1, 1) := by decide +kernel
theorem dX0_cueCount_33 : decode cX0_cueCount 33 = .ok (.ireturn, 1) := by decide +kernel
set_option maxRecDepth 20000 in
theorem ggX0_nextCue_X3_at : GoodIn wsX0_nextCue wsX3_at := goodIn_r _ [5] (by decide +kernel) (by decide +kernel)
set_option maxRecDepth 20000 in
theorem gX0_nextCue_X3_at_n63 : GoodIn wsX0_nextCue (wsX3_at) := ggX0_nextCue_X3_at
theorem dX0_nextCue_0 : decode cX0_nextCue 0 = .ok (.iconst 0, 1) := by decide +kernel
theorem dX0_nextCue_1 : decode cX0_nextCue 1 = .ok (.istore_n 1, 1) := by decide +kernel
theorem dX0_nextCue_2 : decode cX0_nextCue 2 = .ok (.iload_n 1, 1) := by decide +kernel
theorem dX0_nextCue_3 : decode cX0_nextCue 3 = .ok (.aload_n 0, 1) := by decide +kernel
theorem dX0_nextCue_4 : decode cX0_nextCue 4 = .ok (.getfield 27, 3) := by decide +kernel
theorem dX0_nextCue_7 : decode cX0_nextCue 7 = .ok (.if_icmp .ge 23, 3) := by decide +kernel
theorem dX0_nextCue_10 : decode cX0_nextCue 10 = .ok (.aload_n 0, 1) := by decide +kernel
theorem dX0_nextCue_11 : decode cX0_nextCue 11 = .ok (.getfield 18, 3) := by decide +kernel
theorem dX0_nextCue_14 : decode cX0_nextCue 14 = .ok (.iload_n 1, 1) := by decide +kernel
theorem dX0_nextCue_15 : decode cX0_nextCue 15 = .ok (.invokestatic 63, 3) := by decide +kernel
theorem dX0_nextCue_18 : decode cX0_nextCue 18 = .ok (.iconst 1, 1) := by decide +kernel
theorem dX0_nextCue_19 : decode cX0_nextCue 19 = .ok (.if_icmp .ne 5, 3) := by decide +kernel
theorem dX0_nextCue_22 : decode cX0_nextCue 22 = .ok (.iload_n 1, 1) := by decide +kernel
theorem dX0_nextCue_23 : decode cX0_nextCue 23 = .ok (.ireturn, 1) := by decide +kernel
theorem dX0_nextCue_24 : decode cX0_nextCue 24 = .ok (.iinc 1 1, 3) := by decide +kernel
theorem dX0_nextCue_27 : decode cX0_nextCue 27 = .ok (.goto (-25), 3) := by decide +kernel
theorem dX0_nextCue_30 : decode cX0_nextCue 30 = .ok (.bipush (-9), 2) := by decide +kernel
theorem dX0_nextCue_32 : decode cX0_nextCue 32 = .ok (.ireturn, 1) := by decide +kernel
set_option maxRecDepth 20000 in
theorem ggX0_freeCue_X3_put : GoodIn wsX0_freeCue wsX3_put := goodIn_r _ [4] (by decide +kernel) (by decide +kernel)
set_option maxRecDepth 20000 in
theorem gX0_freeCue_X3_put_n59 : GoodIn wsX0_freeCue (wsX3_put) := ggX0_freeCue_X3_put
theorem dX0_freeCue_0 : decode cX0_freeCue 0 = .ok (.aload_n 0, 1) := by decide +kernel
theorem dX0_freeCue_1 : decode cX0_freeCue 1 = .ok (.getfield 18, 3) := by decide +kernel
theorem dX0_freeCue_4 : decode cX0_freeCue 4 = .ok (.iload_n 1, 1) := by decide +kernel
theorem dX0_freeCue_5 : decode cX0_freeCue 5 = .ok (.iconst 2, 1) := by decide +kernel
theorem dX0_freeCue_6 : decode cX0_freeCue 6 = .ok (.invokestatic 59, 3) := by decide +kernel
theorem dX0_freeCue_9 : decode cX0_freeCue 9 = .ok (.return_, 1) := by decide +kernel
set_option maxRecDepth 20000 in
theorem ggX0_passWaitingBefore_X3_at : GoodIn wsX0_passWaitingBefore wsX3_at := goodIn_r _ [5] (by decide +kernel) (by decide +kernel)
set_option maxRecDepth 20000 in
theorem gX0_passWaitingBefore_X3_at_n63 : GoodIn wsX0_passWaitingBefore (wsX3_at) := ggX0_passWaitingBefore_X3_at
set_option maxRecDepth 20000 in
theorem ggX0_passWaitingBefore_X3_put : GoodIn wsX0_passWaitingBefore wsX3_put := goodIn_r _ [7] (by decide +kernel) (by decide +kernel)
set_option maxRecDepth 20000 in
theorem gX0_passWaitingBefore_X3_put_n59 : GoodIn wsX0_passWaitingBefore (wsX3_put) := ggX0_passWaitingBefore_X3_put
theorem dX0_passWaitingBefore_0 : decode cX0_passWaitingBefore 0 = .ok (.iconst 0, 1) := by decide +kernel
theorem dX0_passWaitingBefore_1 : decode cX0_passWaitingBefore 1 = .ok (.istore_n 2, 1) := by decide +kernel
theorem dX0_passWaitingBefore_2 : decode cX0_passWaitingBefore 2 = .ok (.iconst 0, 1) := by decide +kernel
theorem dX0_passWaitingBefore_3 : decode cX0_passWaitingBefore 3 = .ok (.istore_n 3, 1) := by decide +kernel
theorem dX0_passWaitingBefore_4 : decode cX0_passWaitingBefore 4 = .ok (.iload_n 3, 1) := by decide +kernel
theorem dX0_passWaitingBefore_5 : decode cX0_passWaitingBefore 5 = .ok (.aload_n 0, 1) := by decide +kernel
theorem dX0_passWaitingBefore_6 : decode cX0_passWaitingBefore 6 = .ok (.getfield 27, 3) := by decide +kernel
theorem dX0_passWaitingBefore_9 : decode cX0_passWaitingBefore 9 = .ok (.if_icmp .ge 38, 3) := by decide +kernel
theorem dX0_passWaitingBefore_12 : decode cX0_passWaitingBefore 12 = .ok (.iload_n 3, 1) := by decide +kernel
theorem dX0_passWaitingBefore_13 : decode cX0_passWaitingBefore 13 = .ok (.iload_n 1, 1) := by decide +kernel
theorem dX0_passWaitingBefore_14 : decode cX0_passWaitingBefore 14 = .ok (.if_icmp .ge 33, 3) := by decide +kernel
theorem dX0_passWaitingBefore_17 : decode cX0_passWaitingBefore 17 = .ok (.aload_n 0, 1) := by decide +kernel
theorem dX0_passWaitingBefore_18 : decode cX0_passWaitingBefore 18 = .ok (.getfield 18, 3) := by decide +kernel
theorem dX0_passWaitingBefore_21 : decode cX0_passWaitingBefore 21 = .ok (.iload_n 3, 1) := by decide +kernel
theorem dX0_passWaitingBefore_22 : decode cX0_passWaitingBefore 22 = .ok (.invokestatic 63, 3) := by decide +kernel
theorem dX0_passWaitingBefore_25 : decode cX0_passWaitingBefore 25 = .ok (.iconst 1, 1) := by decide +kernel
theorem dX0_passWaitingBefore_26 : decode cX0_passWaitingBefore 26 = .ok (.if_icmp .ne 15, 3) := by decide +kernel
theorem dX0_passWaitingBefore_29 : decode cX0_passWaitingBefore 29 = .ok (.aload_n 0, 1) := by decide +kernel
theorem dX0_passWaitingBefore_30 : decode cX0_passWaitingBefore 30 = .ok (.getfield 18, 3) := by decide +kernel
theorem dX0_passWaitingBefore_33 : decode cX0_passWaitingBefore 33 = .ok (.iload_n 3, 1) := by decide +kernel
theorem dX0_passWaitingBefore_34 : decode cX0_passWaitingBefore 34 = .ok (.iconst 3, 1) := by decide +kernel
theorem dX0_passWaitingBefore_35 : decode cX0_passWaitingBefore 35 = .ok (.invokestatic 59, 3) := by decide +kernel
theorem dX0_passWaitingBefore_38 : decode cX0_passWaitingBefore 38 = .ok (.iinc 2 1, 3) := by decide +kernel
theorem dX0_passWaitingBefore_41 : decode cX0_passWaitingBefore 41 = .ok (.iinc 3 1, 3) := by decide +kernel
theorem dX0_passWaitingBefore_44 : decode cX0_passWaitingBefore 44 = .ok (.goto (-40), 3) := by decide +kernel
theorem dX0_passWaitingBefore_47 : decode cX0_passWaitingBefore 47 = .ok (.iload_n 2, 1) := by decide +kernel
theorem dX0_passWaitingBefore_48 : decode cX0_passWaitingBefore 48 = .ok (.ireturn, 1) := by decide +kernel
set_option maxRecDepth 20000 in
theorem ggX0_setCuesAround_X3_at : GoodIn wsX0_setCuesAround wsX3_at := goodIn_r _ [5] (by decide +kernel) (by decide +kernel)
set_option maxRecDepth 20000 in
theorem gX0_setCuesAround_X3_at_n63 : GoodIn wsX0_setCuesAround (wsX3_at) := ggX0_setCuesAround_X3_at
set_option maxRecDepth 20000 in
theorem ggX0_setCuesAround_X3_put : GoodIn wsX0_setCuesAround wsX3_put := goodIn_r _ [7] (by decide +kernel) (by decide +kernel)
set_option maxRecDepth 20000 in
theorem gX0_setCuesAround_X3_put_n59 : GoodIn wsX0_setCuesAround (wsX3_put) := ggX0_setCuesAround_X3_put
theorem dX0_setCuesAround_0 : decode cX0_setCuesAround 0 = .ok (.iconst 0, 1) := by decide +kernel
theorem dX0_setCuesAround_1 : decode cX0_setCuesAround 1 = .ok (.istore_n 2, 1) := by decide +kernel
theorem dX0_setCuesAround_2 : decode cX0_setCuesAround 2 = .ok (.iload_n 2, 1) := by decide +kernel
theorem dX0_setCuesAround_3 : decode cX0_setCuesAround 3 = .ok (.aload_n 0, 1) := by decide +kernel
theorem dX0_setCuesAround_4 : decode cX0_setCuesAround 4 = .ok (.getfield 27, 3) := by decide +kernel
theorem dX0_setCuesAround_7 : decode cX0_setCuesAround 7 = .ok (.if_icmp .ge 38, 3) := by decide +kernel
theorem dX0_setCuesAround_10 : decode cX0_setCuesAround 10 = .ok (.aload_n 0, 1) := by decide +kernel
theorem dX0_setCuesAround_11 : decode cX0_setCuesAround 11 = .ok (.getfield 18, 3) := by decide +kernel
theorem dX0_setCuesAround_14 : decode cX0_setCuesAround 14 = .ok (.iload_n 2, 1) := by decide +kernel
theorem dX0_setCuesAround_15 : decode cX0_setCuesAround 15 = .ok (.invokestatic 63, 3) := by decide +kernel
theorem dX0_setCuesAround_18 : decode cX0_setCuesAround 18 = .ok (.ifCond .eq 21, 3) := by decide +kernel
theorem dX0_setCuesAround_21 : decode cX0_setCuesAround 21 = .ok (.aload_n 0, 1) := by decide +kernel
theorem dX0_setCuesAround_22 : decode cX0_setCuesAround 22 = .ok (.getfield 18, 3) := by decide +kernel
theorem dX0_setCuesAround_25 : decode cX0_setCuesAround 25 = .ok (.iload_n 2, 1) := by decide +kernel
theorem dX0_setCuesAround_26 : decode cX0_setCuesAround 26 = .ok (.iload_n 2, 1) := by decide +kernel
theorem dX0_setCuesAround_27 : decode cX0_setCuesAround 27 = .ok (.iload_n 1, 1) := by decide +kernel
theorem dX0_setCuesAround_28 : decode cX0_setCuesAround 28 = .ok (.if_icmp .ge 7, 3) := by decide +kernel
theorem dX0_setCuesAround_31 : decode cX0_setCuesAround 31 = .ok (.iconst 3, 1) := by decide +kernel
theorem dX0_setCuesAround_32 : decode cX0_setCuesAround 32 = .ok (.goto 4, 3) := by decide +kernel
theorem dX0_setCuesAround_35 : decode cX0_setCuesAround 35 = .ok (.iconst 1, 1) := by decide +kernel
theorem dX0_setCuesAround_36 : decode cX0_setCuesAround 36 = .ok (.invokestatic 59, 3) := by decide +kernel
theorem dX0_setCuesAround_39 : decode cX0_setCuesAround 39 = .ok (.iinc 2 1, 3) := by decide +kernel
theorem dX0_setCuesAround_42 : decode cX0_setCuesAround 42 = .ok (.goto (-40), 3) := by decide +kernel
theorem dX0_setCuesAround_45 : decode cX0_setCuesAround 45 = .ok (.return_, 1) := by decide +kernel
set_option maxRecDepth 20000 in
theorem ggX1_init_X0_init : GoodIn wsX1_init wsX0_init := goodIn_r _ [16, 17, 2, 3, 4, 18, 19, 20, 21, 22, 43, 44, 45, 46, 47, 48, 49, 50, 51] (by decide +kernel) (by decide +kernel)
set_option maxRecDepth 20000 in
theorem gX1_init_X0_init_n17 : GoodIn wsX1_init (wsX0_init) := ggX1_init_X0_init
set_option maxRecDepth 20000 in
theorem ggX1_init_X2_init : GoodIn wsX1_init wsX2_init := goodIn_r _ [24, 25, 2, 3, 4, 26, 27, 52, 53, 54] (by decide +kernel) (by decide +kernel)
set_option maxRecDepth 20000 in
theorem gX1_init_X2_init_n24 : GoodIn wsX1_init (wsX2_init) := ggX1_init_X2_init
theorem dX1_init_0 : decode cX1_init 0 = .ok (.aload_n 0, 1) := by decide +kernel
theorem dX1_init_1 : decode cX1_init 1 = .ok (.invokespecial 3, 3) := by decide +kernel
theorem dX1_init_4 : decode cX1_init 4 = .ok (.aload_n 0, 1) := by decide +kernel
theorem dX1_init_5 : decode cX1_init 5 = .ok (.bipush 9, 2) := by decide +kernel
theorem dX1_init_7 : decode cX1_init 7 = .ok (.newarray .int, 2) := by decide +kernel
theorem dX1_init_9 : decode cX1_init 9 = .ok (.putfield 9, 3) := by decide +kernel
theorem dX1_init_12 : decode cX1_init 12 = .ok (.aload_n 0, 1) := by decide +kernel
theorem dX1_init_13 : decode cX1_init 13 = .ok (.new 15, 3) := by decide +kernel
theorem dX1_init_16 : decode cX1_init 16 = .ok (.dup, 1) := by decide +kernel
theorem dX1_init_17 : decode cX1_init 17 = .ok (.invokespecial 17, 3) := by decide +kernel
theorem dX1_init_20 : decode cX1_init 20 = .ok (.putfield 18, 3) := by decide +kernel
theorem dX1_init_23 : decode cX1_init 23 = .ok (.aload_n 0, 1) := by decide +kernel
theorem dX1_init_24 : decode cX1_init 24 = .ok (.new 22, 3) := by decide +kernel
theorem dX1_init_27 : decode cX1_init 27 = .ok (.dup, 1) := by decide +kernel
theorem dX1_init_28 : decode cX1_init 28 = .ok (.invokespecial 24, 3) := by decide +kernel
theorem dX1_init_31 : decode cX1_init 31 = .ok (.putfield 25, 3) := by decide +kernel
theorem dX1_init_34 : decode cX1_init 34 = .ok (.aload_n 0, 1) := by decide +kernel
theorem dX1_init_35 : decode cX1_init 35 = .ok (.iconst 4, 1) := by decide +kernel
theorem dX1_init_36 : decode cX1_init 36 = .ok (.newarray .int, 2) := by decide +kernel
theorem dX1_init_38 : decode cX1_init 38 = .ok (.putfield 29, 3) := by decide +kernel
theorem dX1_init_41 : decode cX1_init 41 = .ok (.return_, 1) := by decide +kernel
set_option maxRecDepth 20000 in
theorem ggX1_become_X3_copyRow : GoodIn wsX1_become wsX3_copyRow := goodIn_r _ [18, 19, 20, 21, 22, 23, 24, 25, 26] (by decide +kernel) (by decide +kernel)
set_option maxRecDepth 20000 in
theorem gX1_become_X3_copyRow_n32 : GoodIn wsX1_become (wsX3_copyRow) := ggX1_become_X3_copyRow
set_option maxRecDepth 20000 in
theorem ggX1_become_X0_become : GoodIn wsX1_become wsX0_become := goodIn_r _ [31, 32, 33, 34, 35, 36, 37, 38, 39, 40, 16, 17, 18, 19, 20, 21, 22, 23, 24, 25, 26, 64, 65, 66, 67, 68, 69, 70, 71, 72] (by decide +kernel) (by decide +kernel)
set_option maxRecDepth 20000 in
theorem gX1_become_X0_become : GoodIn wsX1_become (wsV RX1 36 RX0 yX0_become wsX0_become) := goodIn_app (goodIn_of _ (by decide +kernel)) ggX1_become_X0_become
set_option maxRecDepth 20000 in
theorem ggX1_become_X2_become : GoodIn wsX1_become wsX2_become := goodIn_r _ [45, 46, 47, 48, 16, 17, 18, 19, 20, 21, 22, 23, 24, 25, 26, 73, 74, 75] (by decide +kernel) (by decide +kernel)
set_option maxRecDepth 20000 in
theorem gX1_become_X2_become : GoodIn wsX1_become (wsV RX1 40 RX2 yX2_become wsX2_become) := goodIn_app (goodIn_of _ (by decide +kernel)) ggX1_become_X2_become
theorem dX1_become_0 : decode cX1_become 0 = .ok (.aload_n 1, 1) := by decide +kernel
theorem dX1_become_1 : decode cX1_become 1 = .ok (.getfield 9, 3) := by decide +kernel
theorem dX1_become_4 : decode cX1_become 4 = .ok (.aload_n 0, 1) := by decide +kernel
theorem dX1_become_5 : decode cX1_become 5 = .ok (.getfield 9, 3) := by decide +kernel
theorem dX1_become_8 : decode cX1_become 8 = .ok (.invokestatic 32, 3) := by decide +kernel
theorem dX1_become_11 : decode cX1_become 11 = .ok (.aload_n 0, 1) := by decide +kernel
theorem dX1_become_12 : decode cX1_become 12 = .ok (.getfield 18, 3) := by decide +kernel
theorem dX1_become_15 : decode cX1_become 15 = .ok (.aload_n 1, 1) := by decide +kernel
theorem dX1_become_16 : decode cX1_become 16 = .ok (.getfield 18, 3) := by decide +kernel
theorem dX1_become_19 : decode cX1_become 19 = .ok (.invokevirtual 36, 3) := by decide +kernel
theorem dX1_become_22 : decode cX1_become 22 = .ok (.aload_n 0, 1) := by decide +kernel
theorem dX1_become_23 : decode cX1_become 23 = .ok (.getfield 25, 3) := by decide +kernel
theorem dX1_become_26 : decode cX1_become 26 = .ok (.aload_n 1, 1) := by decide +kernel
theorem dX1_become_27 : decode cX1_become 27 = .ok (.getfield 25, 3) := by decide +kernel
theorem dX1_become_30 : decode cX1_become 30 = .ok (.invokevirtual 40, 3) := by decide +kernel
theorem dX1_become_33 : decode cX1_become 33 = .ok (.aload_n 1, 1) := by decide +kernel
theorem dX1_become_34 : decode cX1_become 34 = .ok (.getfield 29, 3) := by decide +kernel
theorem dX1_become_37 : decode cX1_become 37 = .ok (.aload_n 0, 1) := by decide +kernel
theorem dX1_become_38 : decode cX1_become 38 = .ok (.getfield 29, 3) := by decide +kernel
theorem dX1_become_41 : decode cX1_become 41 = .ok (.invokestatic 32, 3) := by decide +kernel
theorem dX1_become_44 : decode cX1_become 44 = .ok (.aload_n 0, 1) := by decide +kernel
theorem dX1_become_45 : decode cX1_become 45 = .ok (.aload_n 1, 1) := by decide +kernel
theorem dX1_become_46 : decode cX1_become 46 = .ok (.getfield 43, 3) := by decide +kernel
theorem dX1_become_49 : decode cX1_become 49 = .ok (.putfield 43, 3) := by decide +kernel
theorem dX1_become_52 : decode cX1_become 52 = .ok (.aload_n 0, 1) := by decide +kernel
theorem dX1_become_53 : decode cX1_become 53 = .ok (.aload_n 1, 1) := by decide +kernel
theorem dX1_become_54 : decode cX1_become 54 = .ok (.getfield 47, 3) := by decide +kernel
theorem dX1_become_57 : decode cX1_become 57 = .ok (.putfield 47, 3) := by decide +kernel
theorem dX1_become_60 : decode cX1_become 60 = .ok (.aload_n 0, 1) := by decide +kernel
theorem dX1_become_61 : decode cX1_become 61 = .ok (.aload_n 1, 1) := by decide +kernel
theorem dX1_become_62 : decode cX1_become 62 = .ok (.getfield 50, 3) := by decide +kernel
theorem dX1_become_65 : decode cX1_become 65 = .ok (.putfield 50, 3) := by decide +kernel
theorem dX1_become_68 : decode cX1_become 68 = .ok (.aload_n 0, 1) := by decide +kernel
theorem dX1_become_69 : decode cX1_become 69 = .ok (.aload_n 1, 1) := by decide +kernel
theorem dX1_become_70 : decode cX1_become 70 = .ok (.getfield 53, 3) := by decide +kernel
theorem dX1_become_73 : decode cX1_become 73 = .ok (.putfield 53, 3) := by decide +kernel
theorem dX1_become_76 : decode cX1_become 76 = .ok (.aload_n 0, 1) := by decide +kernel
theorem dX1_become_77 : decode cX1_become 77 = .ok (.aload_n 1, 1) := by decide +kernel
theorem dX1_become_78 : decode cX1_become 78 = .ok (.getfield 56, 3) := by decide +kernel
theorem dX1_become_81 : decode cX1_become 81 = .ok (.putfield 56, 3) := by decide +kernel
theorem dX1_become_84 : decode cX1_become 84 = .ok (.aload_n 0, 1) := by decide +kernel
theorem dX1_become_85 : decode cX1_become 85 = .ok (.aload_n 1, 1) := by decide +kernel
theorem dX1_become_86 : decode cX1_become 86 = .ok (.getfield 59, 3) := by decide +kernel
theorem dX1_become_89 : decode cX1_become 89 = .ok (.putfield 59, 3) := by decide +kernel
theorem dX1_become_92 : decode cX1_become 92 = .ok (.aload_n 0, 1) := by decide +kernel
theorem dX1_become_93 : decode cX1_become 93 = .ok (.aload_n 1, 1) := by decide +kernel
theorem dX1_become_94 : decode cX1_become 94 = .ok (.getfield 62, 3) := by decide +kernel
theorem dX1_become_97 : decode cX1_become 97 = .ok (.putfield 62, 3) := by decide +kernel
theorem dX1_become_100 : decode cX1_become 100 = .ok (.aload_n 0, 1) := by decide +kernel
theorem dX1_become_101 : decode cX1_become 101 = .ok (.aload_n 1, 1) := by decide +kernel
theorem dX1_become_102 : decode cX1_become 102 = .ok (.getfield 65, 3) := by decide +kernel
theorem dX1_become_105 : decode cX1_become 105 = .ok (.putfield 65, 3) := by decide +kernel
theorem dX1_become_108 : decode cX1_become 108 = .ok (.aload_n 0, 1) := by decide +kernel
theorem dX1_become_109 : decode cX1_become 109 = .ok (.aload_n 1, 1) := by decide +kernel
theorem dX1_become_110 : decode cX1_become 110 = .ok (.getfield 68, 3) := by decide +kernel
theorem dX1_become_113 : decode cX1_become 113 = .ok (.putfield 68, 3) := by decide +kernel
theorem dX1_become_116 : decode cX1_become 116 = .ok (.aload_n 0, 1) := by decide +kernel
theorem dX1_become_117 : decode cX1_become 117 = .ok (.aload_n 1, 1) := by decide +kernel
theorem dX1_become_118 : decode cX1_become 118 = .ok (.getfield 71, 3) := by decide +kernel
theorem dX1_become_121 : decode cX1_become 121 = .ok (.putfield 71, 3) := by decide +kernel
theorem dX1_become_124 : decode cX1_become 124 = .ok (.aload_n 0, 1) := by decide +kernel
theorem dX1_become_125 : decode cX1_become 125 = .ok (.aload_n 1, 1) := by decide +kernel
theorem dX1_become_126 : decode cX1_become 126 = .ok (.getfield 74, 3) := by decide +kernel
theorem dX1_become_129 : decode cX1_become 129 = .ok (.putfield 74, 3) := by decide +kernel
theorem dX1_become_132 : decode cX1_become 132 = .ok (.return_, 1) := by decide +kernel
set_option maxRecDepth 20000 in
theorem ggX1_begin_X0_become : GoodIn wsX1_begin wsX0_become := goodIn_r _ [19, 20, 21, 22, 23, 24, 25, 26, 27, 28, 29, 30, 31, 32, 33, 34, 35, 36, 37, 38, 39, 69, 70, 71, 72, 73, 74, 75, 76, 77] (by decide +kernel) (by decide +kernel)
set_option maxRecDepth 20000 in
theorem gX1_begin_X0_become : GoodIn wsX1_begin (wsV RX1 36 RX0 yX0_become wsX0_become) := goodIn_app (goodIn_of _ (by decide +kernel)) ggX1_begin_X0_become
set_option maxRecDepth 20000 in
theorem ggX1_begin_X3_at : GoodIn wsX1_begin wsX3_at := goodIn_r _ [41] (by decide +kernel) (by decide +kernel)
set_option maxRecDepth 20000 in
theorem gX1_begin_X3_at_n77 : GoodIn wsX1_begin (wsX3_at) := ggX1_begin_X3_at
set_option maxRecDepth 20000 in
theorem ggX1_begin_X0_lay : GoodIn wsX1_begin wsX0_lay := goodIn_r _ [45, 23, 20, 25, 28, 27, 40, 30, 41, 46, 47, 69, 70, 71, 72, 73, 74, 75, 76, 77] (by decide +kernel) (by decide +kernel)
set_option maxRecDepth 20000 in
theorem gX1_begin_X0_lay : GoodIn wsX1_begin (wsV RX1 81 RX0 yX0_lay wsX0_lay) := goodIn_app (goodIn_of _ (by decide +kernel)) ggX1_begin_X0_lay
set_option maxRecDepth 20000 in
theorem ggX1_begin_X2_empty : GoodIn wsX1_begin wsX2_empty := goodIn_r _ [52, 53, 78, 79, 80] (by decide +kernel) (by decide +kernel)
set_option maxRecDepth 20000 in
theorem gX1_begin_X2_empty : GoodIn wsX1_begin (wsV RX1 85 RX2 yX2_empty wsX2_empty) := goodIn_app (goodIn_of _ (by decide +kernel)) ggX1_begin_X2_empty
theorem dX1_begin_0 : decode cX1_begin 0 = .ok (.aload_n 0, 1) := by decide +kernel
theorem dX1_begin_1 : decode cX1_begin 1 = .ok (.getfield 18, 3) := by decide +kernel
theorem dX1_begin_4 : decode cX1_begin 4 = .ok (.aload_n 1, 1) := by decide +kernel
theorem dX1_begin_5 : decode cX1_begin 5 = .ok (.invokevirtual 36, 3) := by decide +kernel
theorem dX1_begin_8 : decode cX1_begin 8 = .ok (.aload_n 0, 1) := by decide +kernel
theorem dX1_begin_9 : decode cX1_begin 9 = .ok (.getfield 18, 3) := by decide +kernel
theorem dX1_begin_12 : decode cX1_begin 12 = .ok (.aload_n 0, 1) := by decide +kernel
theorem dX1_begin_13 : decode cX1_begin 13 = .ok (.getfield 9, 3) := by decide +kernel
theorem dX1_begin_16 : decode cX1_begin 16 = .ok (.iconst 0, 1) := by decide +kernel
theorem dX1_begin_17 : decode cX1_begin 17 = .ok (.invokestatic 77, 3) := by decide +kernel
theorem dX1_begin_20 : decode cX1_begin 20 = .ok (.invokevirtual 81, 3) := by decide +kernel
theorem dX1_begin_23 : decode cX1_begin 23 = .ok (.aload_n 0, 1) := by decide +kernel
theorem dX1_begin_24 : decode cX1_begin 24 = .ok (.getfield 25, 3) := by decide +kernel
theorem dX1_begin_27 : decode cX1_begin 27 = .ok (.invokevirtual 85, 3) := by decide +kernel
theorem dX1_begin_30 : decode cX1_begin 30 = .ok (.aload_n 0, 1) := by decide +kernel
theorem dX1_begin_31 : decode cX1_begin 31 = .ok (.iconst 0, 1) := by decide +kernel
theorem dX1_begin_32 : decode cX1_begin 32 = .ok (.putfield 43, 3) := by decide +kernel
theorem dX1_begin_35 : decode cX1_begin 35 = .ok (.aload_n 0, 1) := by decide +kernel
theorem dX1_begin_36 : decode cX1_begin 36 = .ok (.iconst 0, 1) := by decide +kernel
theorem dX1_begin_37 : decode cX1_begin 37 = .ok (.putfield 47, 3) := by decide +kernel
theorem dX1_begin_40 : decode cX1_begin 40 = .ok (.aload_n 0, 1) := by decide +kernel
theorem dX1_begin_41 : decode cX1_begin 41 = .ok (.iconst 0, 1) := by decide +kernel
theorem dX1_begin_42 : decode cX1_begin 42 = .ok (.putfield 50, 3) := by decide +kernel
theorem dX1_begin_45 : decode cX1_begin 45 = .ok (.aload_n 0, 1) := by decide +kernel
theorem dX1_begin_46 : decode cX1_begin 46 = .ok (.iconst 0, 1) := by decide +kernel
theorem dX1_begin_47 : decode cX1_begin 47 = .ok (.putfield 53, 3) := by decide +kernel
theorem dX1_begin_50 : decode cX1_begin 50 = .ok (.aload_n 0, 1) := by decide +kernel
theorem dX1_begin_51 : decode cX1_begin 51 = .ok (.iconst 0, 1) := by decide +kernel
theorem dX1_begin_52 : decode cX1_begin 52 = .ok (.putfield 56, 3) := by decide +kernel
theorem dX1_begin_55 : decode cX1_begin 55 = .ok (.aload_n 0, 1) := by decide +kernel
theorem dX1_begin_56 : decode cX1_begin 56 = .ok (.iconst 0, 1) := by decide +kernel
theorem dX1_begin_57 : decode cX1_begin 57 = .ok (.putfield 59, 3) := by decide +kernel
theorem dX1_begin_60 : decode cX1_begin 60 = .ok (.aload_n 0, 1) := by decide +kernel
theorem dX1_begin_61 : decode cX1_begin 61 = .ok (.iconst 0, 1) := by decide +kernel
theorem dX1_begin_62 : decode cX1_begin 62 = .ok (.putfield 62, 3) := by decide +kernel
theorem dX1_begin_65 : decode cX1_begin 65 = .ok (.aload_n 0, 1) := by decide +kernel
theorem dX1_begin_66 : decode cX1_begin 66 = .ok (.iconst 0, 1) := by decide +kernel
theorem dX1_begin_67 : decode cX1_begin 67 = .ok (.putfield 65, 3) := by decide +kernel
theorem dX1_begin_70 : decode cX1_begin 70 = .ok (.aload_n 0, 1) := by decide +kernel
theorem dX1_begin_71 : decode cX1_begin 71 = .ok (.iconst 0, 1) := by decide +kernel
theorem dX1_begin_72 : decode cX1_begin 72 = .ok (.putfield 68, 3) := by decide +kernel
theorem dX1_begin_75 : decode cX1_begin 75 = .ok (.aload_n 0, 1) := by decide +kernel
theorem dX1_begin_76 : decode cX1_begin 76 = .ok (.iconst 0, 1) := by decide +kernel
theorem dX1_begin_77 : decode cX1_begin 77 = .ok (.putfield 71, 3) := by decide +kernel
theorem dX1_begin_80 : decode cX1_begin 80 = .ok (.aload_n 0, 1) := by decide +kernel
theorem dX1_begin_81 : decode cX1_begin 81 = .ok (.iconst 0, 1) := by decide +kernel
theorem dX1_begin_82 : decode cX1_begin 82 = .ok (.putfield 74, 3) := by decide +kernel
theorem dX1_begin_85 : decode cX1_begin 85 = .ok (.return_, 1) := by decide +kernel
set_option maxRecDepth 20000 in
theorem ggX1_change_X3_put : GoodIn wsX1_change wsX3_put := goodIn_r _ [6] (by decide +kernel) (by decide +kernel)
set_option maxRecDepth 20000 in
theorem gX1_change_X3_put_n88 : GoodIn wsX1_change (wsX3_put) := ggX1_change_X3_put
set_option maxRecDepth 20000 in
theorem ggX1_change_X3_at : GoodIn wsX1_change wsX3_at := goodIn_r _ [8] (by decide +kernel) (by decide +kernel)
set_option maxRecDepth 20000 in
theorem gX1_change_X3_at_n77 : GoodIn wsX1_change (wsX3_at) := ggX1_change_X3_at
set_option maxRecDepth 20000 in
theorem ggX1_change_X0_lay : GoodIn wsX1_change wsX0_lay := goodIn_r _ [13, 14, 15, 16, 17, 18, 7, 5, 8, 4, 6, 50, 51, 52, 53, 54, 55, 56, 57, 58] (by decide +kernel) (by decide +kernel)
set_option maxRecDepth 20000 in
theorem gX1_change_X0_lay : GoodIn wsX1_change (wsV RX1 81 RX0 yX0_lay wsX0_lay) := goodIn_app (goodIn_of _ (by decide +kernel)) ggX1_change_X0_lay
set_option maxRecDepth 20000 in
theorem ggX1_change_X1_highestTop : GoodIn wsX1_change wsX1_highestTop := goodIn_r _ [23, 2, 24, 1, 25, 26, 27, 28, 7, 5, 8, 35, 36, 37, 38, 39, 40, 41, 42, 43, 44, 45, 46, 47, 48, 49, 50, 51, 52, 53, 54, 55, 56, 57, 58] (by decide +kernel) (by decide +kernel)
set_option maxRecDepth 20000 in
theorem gX1_change_X1_highestTop : GoodIn wsX1_change (wsV RX1 92 RX1 yX1_highestTop wsX1_highestTop) := goodIn_app (goodIn_of _ (by decide +kernel)) ggX1_change_X1_highestTop
set_option maxRecDepth 20000 in
theorem ggX1_change_X3_limited : GoodIn wsX1_change wsX3_limited := goodIn_r _ [30, 31, 32, 27, 33, 34, 26, 28] (by decide +kernel) (by decide +kernel)
set_option maxRecDepth 20000 in
theorem gX1_change_X3_limited_n96 : GoodIn wsX1_change (wsX3_limited) := ggX1_change_X3_limited
theorem dX1_change_0 : decode cX1_change 0 = .ok (.aload_n 0, 1) := by decide +kernel
theorem dX1_change_1 : decode cX1_change 1 = .ok (.getfield 9, 3) := by decide +kernel
theorem dX1_change_4 : decode cX1_change 4 = .ok (.iload_n 1, 1) := by decide +kernel
theorem dX1_change_5 : decode cX1_change 5 = .ok (.iload_n 2, 1) := by decide +kernel
theorem dX1_change_6 : decode cX1_change 6 = .ok (.invokestatic 88, 3) := by decide +kernel
theorem dX1_change_9 : decode cX1_change 9 = .ok (.aload_n 0, 1) := by decide +kernel
theorem dX1_change_10 : decode cX1_change 10 = .ok (.getfield 18, 3) := by decide +kernel
theorem dX1_change_13 : decode cX1_change 13 = .ok (.aload_n 0, 1) := by decide +kernel
theorem dX1_change_14 : decode cX1_change 14 = .ok (.getfield 9, 3) := by decide +kernel
theorem dX1_change_17 : decode cX1_change 17 = .ok (.iconst 0, 1) := by decide +kernel
theorem dX1_change_18 : decode cX1_change 18 = .ok (.invokestatic 77, 3) := by decide +kernel
theorem dX1_change_21 : decode cX1_change 21 = .ok (.invokevirtual 81, 3) := by decide +kernel
theorem dX1_change_24 : decode cX1_change 24 = .ok (.aload_n 0, 1) := by decide +kernel
theorem dX1_change_25 : decode cX1_change 25 = .ok (.aload_n 0, 1) := by decide +kernel
theorem dX1_change_26 : decode cX1_change 26 = .ok (.getfield 59, 3) := by decide +kernel
theorem dX1_change_29 : decode cX1_change 29 = .ok (.iconst 0, 1) := by decide +kernel
theorem dX1_change_30 : decode cX1_change 30 = .ok (.aload_n 0, 1) := by decide +kernel
theorem dX1_change_31 : decode cX1_change 31 = .ok (.invokevirtual 92, 3) := by decide +kernel
theorem dX1_change_34 : decode cX1_change 34 = .ok (.invokestatic 96, 3) := by decide +kernel
theorem dX1_change_37 : decode cX1_change 37 = .ok (.putfield 59, 3) := by decide +kernel
theorem dX1_change_40 : decode cX1_change 40 = .ok (.return_, 1) := by decide +kernel
set_option maxRecDepth 20000 in
theorem ggX1_jump_X2_empty : GoodIn wsX1_jump wsX2_empty := goodIn_r _ [11, 12, 40, 41, 42] (by decide +kernel) (by decide +kernel)
set_option maxRecDepth 20000 in
theorem gX1_jump_X2_empty : GoodIn wsX1_jump (wsV RX1 85 RX2 yX2_empty wsX2_empty) := goodIn_app (goodIn_of _ (by decide +kernel)) ggX1_jump_X2_empty
set_option maxRecDepth 20000 in
theorem ggX1_jump_X0_setCuesAround : GoodIn wsX1_jump wsX0_setCuesAround := goodIn_r _ [17, 18, 19, 20, 21, 22, 23, 24, 43, 44, 45, 46, 47, 48, 49, 50, 51] (by decide +kernel) (by decide +kernel)
set_option maxRecDepth 20000 in
theorem gX1_jump_X0_setCuesAround : GoodIn wsX1_jump (wsV RX1 100 RX0 yX0_setCuesAround wsX0_setCuesAround) := goodIn_app (goodIn_of _ (by decide +kernel)) ggX1_jump_X0_setCuesAround
theorem dX1_jump_0 : decode cX1_jump 0 = .ok (.aload_n 0, 1) := by decide +kernel
theorem dX1_jump_1 : decode cX1_jump 1 = .ok (.iconst 0, 1) := by decide +kernel
theorem dX1_jump_2 : decode cX1_jump 2 = .ok (.putfield 43, 3) := by decide +kernel
theorem dX1_jump_5 : decode cX1_jump 5 = .ok (.aload_n 0, 1) := by decide +kernel
theorem dX1_jump_6 : decode cX1_jump 6 = .ok (.getfield 25, 3) := by decide +kernel
theorem dX1_jump_9 : decode cX1_jump 9 = .ok (.invokevirtual 85, 3) := by decide +kernel
theorem dX1_jump_12 : decode cX1_jump 12 = .ok (.aload_n 0, 1) := by decide +kernel
theorem dX1_jump_13 : decode cX1_jump 13 = .ok (.aload_n 0, 1) := by decide +kernel
theorem dX1_jump_14 : decode cX1_jump 14 = .ok (.getfield 53, 3) := by decide +kernel
theorem dX1_jump_17 : decode cX1_jump 17 = .ok (.putfield 56, 3) := by decide +kernel
theorem dX1_jump_20 : decode cX1_jump 20 = .ok (.aload_n 0, 1) := by decide +kernel
theorem dX1_jump_21 : decode cX1_jump 21 = .ok (.iload_n 1, 1) := by decide +kernel
theorem dX1_jump_22 : decode cX1_jump 22 = .ok (.putfield 47, 3) := by decide +kernel
theorem dX1_jump_25 : decode cX1_jump 25 = .ok (.aload_n 0, 1) := by decide +kernel
theorem dX1_jump_26 : decode cX1_jump 26 = .ok (.getfield 18, 3) := by decide +kernel
theorem dX1_jump_29 : decode cX1_jump 29 = .ok (.iload_n 1, 1) := by decide +kernel
theorem dX1_jump_30 : decode cX1_jump 30 = .ok (.invokevirtual 100, 3) := by decide +kernel
theorem dX1_jump_33 : decode cX1_jump 33 = .ok (.return_, 1) := by decide +kernel
set_option maxRecDepth 20000 in
theorem ggX1_listen_X1_bestCandidate : GoodIn wsX1_listen wsX1_bestCandidate := goodIn_r _ [6, 7, 8, 9, 10, 11, 12, 13, 14, 15, 16, 17, 18, 19, 20, 21, 22, 23, 24, 5, 25, 26, 27, 28, 29, 30, 31, 32, 33, 34, 79, 80, 81, 82, 83, 84, 85, 86, 87, 88, 89, 90, 91, 92, 93, 94, 95, 96, 97, 98, 99, 100, 101, 102] (by decide +kernel) (by decide +kernel)
set_option maxRecDepth 20000 in
theorem gX1_listen_X1_bestCandidate : GoodIn wsX1_listen (wsV RX1 103 RX1 yX1_bestCandidate wsX1_bestCandidate) := goodIn_app (goodIn_of _ (by decide +kernel)) ggX1_listen_X1_bestCandidate
set_option maxRecDepth 20000 in
theorem ggX1_listen_X1_accepts : GoodIn wsX1_listen wsX1_accepts := goodIn_r _ [38, 7, 8, 29, 30, 31, 5, 32, 33, 34, 13, 18, 19, 20, 21, 79, 80, 81, 82, 83, 84, 85, 86, 87, 88, 89, 90, 91, 92, 93, 94, 95, 96, 97, 98, 99, 100, 101, 102] (by decide +kernel) (by decide +kernel)
set_option maxRecDepth 20000 in
theorem gX1_listen_X1_accepts : GoodIn wsX1_listen (wsV RX1 107 RX1 yX1_accepts wsX1_accepts) := goodIn_app (goodIn_of _ (by decide +kernel)) ggX1_listen_X1_accepts
set_option maxRecDepth 20000 in
theorem ggX1_listen_X1_follow : GoodIn wsX1_listen wsX1_follow := goodIn_r _ [42, 7, 43, 44, 45, 46, 47, 8, 48, 49, 13, 50, 51, 52, 53, 54, 55, 19, 20, 21, 56, 57, 58, 59, 60, 61, 62, 63, 64, 65, 66, 67, 68, 69, 70, 71, 72, 73, 74, 79, 80, 81, 82, 83, 84, 85, 86, 87, 88, 89, 90, 91, 92, 93, 103, 104, 105, 94, 95, 96, 97, 98, 99, 100, 101, 102] (by decide +kernel) (by decide +kernel)
set_option maxRecDepth 20000 in
theorem gX1_listen_X1_follow : GoodIn wsX1_listen (wsV RX1 111 RX1 yX1_follow wsX1_follow) := goodIn_app (goodIn_of _ (by decide +kernel)) ggX1_listen_X1_follow
set_option maxRecDepth 20000 in
theorem ggX1_listen_X1_keepHeard : GoodIn wsX1_listen wsX1_keepHeard := goodIn_r _ [78, 34, 33, 15, 16, 11, 17, 19, 20, 21, 62, 63, 79, 80, 81, 82, 83, 84, 85, 86, 87, 88, 89, 90, 91, 92, 93] (by decide +kernel) (by decide +kernel)
set_option maxRecDepth 20000 in
theorem gX1_listen_X1_keepHeard : GoodIn wsX1_listen (wsV RX1 114 RX1 yX1_keepHeard wsX1_keepHeard) := goodIn_app (goodIn_of _ (by decide +kernel)) ggX1_listen_X1_keepHeard
theorem dX1_listen_0 : decode cX1_listen 0 = .ok (.aload_n 0, 1) := by decide +kernel
theorem dX1_listen_1 : decode cX1_listen 1 = .ok (.iload_n 1, 1) := by decide +kernel
theorem dX1_listen_2 : decode cX1_listen 2 = .ok (.invokevirtual 103, 3) := by decide +kernel
theorem dX1_listen_5 : decode cX1_listen 5 = .ok (.istore_n 2, 1) := by decide +kernel
theorem dX1_listen_6 : decode cX1_listen 6 = .ok (.iload_n 2, 1) := by decide +kernel
theorem dX1_listen_7 : decode cX1_listen 7 = .ok (.bipush (-9), 2) := by decide +kernel
theorem dX1_listen_9 : decode cX1_listen 9 = .ok (.if_icmp .eq 15, 3) := by decide +kernel
theorem dX1_listen_12 : decode cX1_listen 12 = .ok (.aload_n 0, 1) := by decide +kernel
theorem dX1_listen_13 : decode cX1_listen 13 = .ok (.iload_n 2, 1) := by decide +kernel
theorem dX1_listen_14 : decode cX1_listen 14 = .ok (.invokevirtual 107, 3) := by decide +kernel
theorem dX1_listen_17 : decode cX1_listen 17 = .ok (.ifCond .eq 7, 3) := by decide +kernel
theorem dX1_listen_20 : decode cX1_listen 20 = .ok (.iconst 1, 1) := by decide +kernel
theorem dX1_listen_21 : decode cX1_listen 21 = .ok (.goto 4, 3) := by decide +kernel
theorem dX1_listen_24 : decode cX1_listen 24 = .ok (.iconst 0, 1) := by decide +kernel
theorem dX1_listen_25 : decode cX1_listen 25 = .ok (.istore_n 3, 1) := by decide +kernel
theorem dX1_listen_26 : decode cX1_listen 26 = .ok (.iload_n 3, 1) := by decide +kernel
theorem dX1_listen_27 : decode cX1_listen 27 = .ok (.ifCond .eq 11, 3) := by decide +kernel
theorem dX1_listen_30 : decode cX1_listen 30 = .ok (.aload_n 0, 1) := by decide +kernel
theorem dX1_listen_31 : decode cX1_listen 31 = .ok (.iload_n 2, 1) := by decide +kernel
theorem dX1_listen_32 : decode cX1_listen 32 = .ok (.invokevirtual 111, 3) := by decide +kernel
theorem dX1_listen_35 : decode cX1_listen 35 = .ok (.goto 13, 3) := by decide +kernel
theorem dX1_listen_38 : decode cX1_listen 38 = .ok (.aload_n 0, 1) := by decide +kernel
theorem dX1_listen_39 : decode cX1_listen 39 = .ok (.dup, 1) := by decide +kernel
theorem dX1_listen_40 : decode cX1_listen 40 = .ok (.getfield 68, 3) := by decide +kernel
theorem dX1_listen_43 : decode cX1_listen 43 = .ok (.iconst 1, 1) := by decide +kernel
theorem dX1_listen_44 : decode cX1_listen 44 = .ok (.iadd, 1) := by decide +kernel
theorem dX1_listen_45 : decode cX1_listen 45 = .ok (.putfield 68, 3) := by decide +kernel
theorem dX1_listen_48 : decode cX1_listen 48 = .ok (.aload_n 0, 1) := by decide +kernel
theorem dX1_listen_49 : decode cX1_listen 49 = .ok (.iload_n 1, 1) := by decide +kernel
theorem dX1_listen_50 : decode cX1_listen 50 = .ok (.invokevirtual 114, 3) := by decide +kernel
theorem dX1_listen_53 : decode cX1_listen 53 = .ok (.iload_n 3, 1) := by decide +kernel
theorem dX1_listen_54 : decode cX1_listen 54 = .ok (.ireturn, 1) := by decide +kernel
set_option maxRecDepth 20000 in
theorem ggX1_bestCandidate_X3_at : GoodIn wsX1_bestCandidate wsX3_at := goodIn_r _ [15] (by decide +kernel) (by decide +kernel)
set_option maxRecDepth 20000 in
theorem gX1_bestCandidate_X3_at_n77 : GoodIn wsX1_bestCandidate (wsX3_at) := ggX1_bestCandidate_X3_at
set_option maxRecDepth 20000 in
theorem ggX1_bestCandidate_X1_isBetter : GoodIn wsX1_bestCandidate wsX1_isBetter := goodIn_r _ [20, 1, 21, 22, 5, 23, 24, 25, 26, 19, 27, 28, 29, 7, 12, 13, 14, 15, 30, 31, 32, 33, 34, 35, 36, 37, 38, 39, 40, 41, 42, 43, 44, 45, 46, 47, 48, 49, 50, 51, 52, 53] (by decide +kernel) (by decide +kernel)
set_option maxRecDepth 20000 in
theorem gX1_bestCandidate_X1_isBetter : GoodIn wsX1_bestCandidate (wsV RX1 132 RX1 yX1_isBetter wsX1_isBetter) := goodIn_app (goodIn_of _ (by decide +kernel)) ggX1_bestCandidate_X1_isBetter
theorem dX1_bestCandidate_0 : decode cX1_bestCandidate 0 = .ok (.bipush (-9), 2) := by decide +kernel
theorem dX1_bestCandidate_2 : decode cX1_bestCandidate 2 = .ok (.istore_n 2, 1) := by decide +kernel
theorem dX1_bestCandidate_3 : decode cX1_bestCandidate 3 = .ok (.iconst 0, 1) := by decide +kernel
theorem dX1_bestCandidate_4 : decode cX1_bestCandidate 4 = .ok (.aload_n 0, 1) := by decide +kernel
theorem dX1_bestCandidate_5 : decode cX1_bestCandidate 5 = .ok (.getfield 47, 3) := by decide +kernel
theorem dX1_bestCandidate_8 : decode cX1_bestCandidate 8 = .ok (.aload_n 0, 1) := by decide +kernel
theorem dX1_bestCandidate_9 : decode cX1_bestCandidate 9 = .ok (.getfield 9, 3) := by decide +kernel
theorem dX1_bestCandidate_12 : decode cX1_bestCandidate 12 = .ok (.iconst 3, 1) := by decide +kernel
theorem dX1_bestCandidate_13 : decode cX1_bestCandidate 13 = .ok (.invokestatic 77, 3) := by decide +kernel
theorem dX1_bestCandidate_16 : decode cX1_bestCandidate 16 = .ok (.isub, 1) := by decide +kernel
theorem dX1_bestCandidate_17 : decode cX1_bestCandidate 17 = .ok (.invokestatic 117, 3) := by decide +kernel
theorem dX1_bestCandidate_20 : decode cX1_bestCandidate 20 = .ok (.istore_n 3, 1) := by decide +kernel
theorem dX1_bestCandidate_21 : decode cX1_bestCandidate 21 = .ok (.aload_n 0, 1) := by decide +kernel
theorem dX1_bestCandidate_22 : decode cX1_bestCandidate 22 = .ok (.getfield 18, 3) := by decide +kernel
theorem dX1_bestCandidate_25 : decode cX1_bestCandidate 25 = .ok (.getfield 123, 3) := by decide +kernel
theorem dX1_bestCandidate_28 : decode cX1_bestCandidate 28 = .ok (.iconst 1, 1) := by decide +kernel
theorem dX1_bestCandidate_29 : decode cX1_bestCandidate 29 = .ok (.isub, 1) := by decide +kernel
theorem dX1_bestCandidate_30 : decode cX1_bestCandidate 30 = .ok (.aload_n 0, 1) := by decide +kernel
theorem dX1_bestCandidate_31 : decode cX1_bestCandidate 31 = .ok (.getfield 47, 3) := by decide +kernel
theorem dX1_bestCandidate_34 : decode cX1_bestCandidate 34 = .ok (.aload_n 0, 1) := by decide +kernel
theorem dX1_bestCandidate_35 : decode cX1_bestCandidate 35 = .ok (.getfield 9, 3) := by decide +kernel
theorem dX1_bestCandidate_38 : decode cX1_bestCandidate 38 = .ok (.iconst 4, 1) := by decide +kernel
theorem dX1_bestCandidate_39 : decode cX1_bestCandidate 39 = .ok (.invokestatic 77, 3) := by decide +kernel
theorem dX1_bestCandidate_42 : decode cX1_bestCandidate 42 = .ok (.iadd, 1) := by decide +kernel
theorem dX1_bestCandidate_43 : decode cX1_bestCandidate 43 = .ok (.invokestatic 126, 3) := by decide +kernel
theorem dX1_bestCandidate_46 : decode cX1_bestCandidate 46 = .ok (.istore 4, 2) := by decide +kernel
theorem dX1_bestCandidate_48 : decode cX1_bestCandidate 48 = .ok (.iload_n 3, 1) := by decide +kernel
theorem dX1_bestCandidate_49 : decode cX1_bestCandidate 49 = .ok (.istore 5, 2) := by decide +kernel
theorem dX1_bestCandidate_51 : decode cX1_bestCandidate 51 = .ok (.iload 5, 2) := by decide +kernel
theorem dX1_bestCandidate_53 : decode cX1_bestCandidate 53 = .ok (.iload 4, 2) := by decide +kernel
theorem dX1_bestCandidate_55 : decode cX1_bestCandidate 55 = .ok (.if_icmp .gt 44, 3) := by decide +kernel
theorem dX1_bestCandidate_58 : decode cX1_bestCandidate 58 = .ok (.aload_n 0, 1) := by decide +kernel
theorem dX1_bestCandidate_59 : decode cX1_bestCandidate 59 = .ok (.getfield 18, 3) := by decide +kernel
theorem dX1_bestCandidate_62 : decode cX1_bestCandidate 62 = .ok (.getfield 129, 3) := by decide +kernel
theorem dX1_bestCandidate_65 : decode cX1_bestCandidate 65 = .ok (.iload 5, 2) := by decide +kernel
theorem dX1_bestCandidate_67 : decode cX1_bestCandidate 67 = .ok (.invokestatic 77, 3) := by decide +kernel
theorem dX1_bestCandidate_70 : decode cX1_bestCandidate 70 = .ok (.iload_n 1, 1) := by decide +kernel
theorem dX1_bestCandidate_71 : decode cX1_bestCandidate 71 = .ok (.if_icmp .ne 22, 3) := by decide +kernel
theorem dX1_bestCandidate_74 : decode cX1_bestCandidate 74 = .ok (.iload_n 2, 1) := by decide +kernel
theorem dX1_bestCandidate_75 : decode cX1_bestCandidate 75 = .ok (.bipush (-9), 2) := by decide +kernel
theorem dX1_bestCandidate_77 : decode cX1_bestCandidate 77 = .ok (.if_icmp .eq 13, 3) := by decide +kernel
theorem dX1_bestCandidate_80 : decode cX1_bestCandidate 80 = .ok (.aload_n 0, 1) := by decide +kernel
theorem dX1_bestCandidate_81 : decode cX1_bestCandidate 81 = .ok (.iload 5, 2) := by decide +kernel
theorem dX1_bestCandidate_83 : decode cX1_bestCandidate 83 = .ok (.iload_n 2, 1) := by decide +kernel
theorem dX1_bestCandidate_84 : decode cX1_bestCandidate 84 = .ok (.invokevirtual 132, 3) := by decide +kernel
theorem dX1_bestCandidate_87 : decode cX1_bestCandidate 87 = .ok (.ifCond .eq 6, 3) := by decide +kernel
theorem dX1_bestCandidate_90 : decode cX1_bestCandidate 90 = .ok (.iload 5, 2) := by decide +kernel
theorem dX1_bestCandidate_92 : decode cX1_bestCandidate 92 = .ok (.istore_n 2, 1) := by decide +kernel
theorem dX1_bestCandidate_93 : decode cX1_bestCandidate 93 = .ok (.iinc 5 1, 3) := by decide +kernel
theorem dX1_bestCandidate_96 : decode cX1_bestCandidate 96 = .ok (.goto (-45), 3) := by decide +kernel
theorem dX1_bestCandidate_99 : decode cX1_bestCandidate 99 = .ok (.iload_n 2, 1) := by decide +kernel
theorem dX1_bestCandidate_100 : decode cX1_bestCandidate 100 = .ok (.ireturn, 1) := by decide +kernel
set_option maxRecDepth 20000 in
theorem ggX1_isBetter_X1_points : GoodIn wsX1_isBetter wsX1_points := goodIn_r _ [10, 11, 12, 13, 14, 15, 16, 17, 18, 19, 20, 21, 22, 23, 24, 25, 26, 27, 28, 29, 30, 31, 32, 33, 34, 35, 36, 37, 38, 39, 40, 41] (by decide +kernel) (by decide +kernel)
set_option maxRecDepth 20000 in
theorem gX1_isBetter_X1_points : GoodIn wsX1_isBetter (wsV RX1 136 RX1 yX1_points wsX1_points) := goodIn_app (goodIn_of _ (by decide +kernel)) ggX1_isBetter_X1_points
theorem dX1_isBetter_0 : decode cX1_isBetter 0 = .ok (.aload_n 0, 1) := by decide +kernel
theorem dX1_isBetter_1 : decode cX1_isBetter 1 = .ok (.iload_n 1, 1) := by decide +kernel
theorem dX1_isBetter_2 : decode cX1_isBetter 2 = .ok (.invokevirtual 136, 3) := by decide +kernel
theorem dX1_isBetter_5 : decode cX1_isBetter 5 = .ok (.istore_n 3, 1) := by decide +kernel
theorem dX1_isBetter_6 : decode cX1_isBetter 6 = .ok (.aload_n 0, 1) := by decide +kernel
theorem dX1_isBetter_7 : decode cX1_isBetter 7 = .ok (.iload_n 2, 1) := by decide +kernel
theorem dX1_isBetter_8 : decode cX1_isBetter 8 = .ok (.invokevirtual 136, 3) := by decide +kernel
theorem dX1_isBetter_11 : decode cX1_isBetter 11 = .ok (.istore 4, 2) := by decide +kernel
theorem dX1_isBetter_13 : decode cX1_isBetter 13 = .ok (.iload_n 3, 1) := by decide +kernel
theorem dX1_isBetter_14 : decode cX1_isBetter 14 = .ok (.iload 4, 2) := by decide +kernel
theorem dX1_isBetter_16 : decode cX1_isBetter 16 = .ok (.if_icmp .eq 15, 3) := by decide +kernel
theorem dX1_isBetter_19 : decode cX1_isBetter 19 = .ok (.iload_n 3, 1) := by decide +kernel
theorem dX1_isBetter_20 : decode cX1_isBetter 20 = .ok (.iload 4, 2) := by decide +kernel
theorem dX1_isBetter_22 : decode cX1_isBetter 22 = .ok (.if_icmp .le 7, 3) := by decide +kernel
theorem dX1_isBetter_25 : decode cX1_isBetter 25 = .ok (.iconst 1, 1) := by decide +kernel
theorem dX1_isBetter_26 : decode cX1_isBetter 26 = .ok (.goto 4, 3) := by decide +kernel
theorem dX1_isBetter_29 : decode cX1_isBetter 29 = .ok (.iconst 0, 1) := by decide +kernel
theorem dX1_isBetter_30 : decode cX1_isBetter 30 = .ok (.ireturn, 1) := by decide +kernel
theorem dX1_isBetter_31 : decode cX1_isBetter 31 = .ok (.iload_n 1, 1) := by decide +kernel
theorem dX1_isBetter_32 : decode cX1_isBetter 32 = .ok (.aload_n 0, 1) := by decide +kernel
theorem dX1_isBetter_33 : decode cX1_isBetter 33 = .ok (.getfield 47, 3) := by decide +kernel
theorem dX1_isBetter_36 : decode cX1_isBetter 36 = .ok (.isub, 1) := by decide +kernel
theorem dX1_isBetter_37 : decode cX1_isBetter 37 = .ok (.invokestatic 139, 3) := by decide +kernel
theorem dX1_isBetter_40 : decode cX1_isBetter 40 = .ok (.iload_n 2, 1) := by decide +kernel
theorem dX1_isBetter_41 : decode cX1_isBetter 41 = .ok (.aload_n 0, 1) := by decide +kernel
theorem dX1_isBetter_42 : decode cX1_isBetter 42 = .ok (.getfield 47, 3) := by decide +kernel
theorem dX1_isBetter_45 : decode cX1_isBetter 45 = .ok (.isub, 1) := by decide +kernel
theorem dX1_isBetter_46 : decode cX1_isBetter 46 = .ok (.invokestatic 139, 3) := by decide +kernel
theorem dX1_isBetter_49 : decode cX1_isBetter 49 = .ok (.if_icmp .ge 7, 3) := by decide +kernel
theorem dX1_isBetter_52 : decode cX1_isBetter 52 = .ok (.iconst 1, 1) := by decide +kernel
theorem dX1_isBetter_53 : decode cX1_isBetter 53 = .ok (.goto 4, 3) := by decide +kernel
theorem dX1_isBetter_56 : decode cX1_isBetter 56 = .ok (.iconst 0, 1) := by decide +kernel
theorem dX1_isBetter_57 : decode cX1_isBetter 57 = .ok (.ireturn, 1) := by decide +kernel
set_option maxRecDepth 20000 in
theorem ggX1_points_X3_at : GoodIn wsX1_points wsX3_at := goodIn_r _ [7] (by decide +kernel) (by decide +kernel)
set_option maxRecDepth 20000 in
theorem gX1_points_X3_at_n77 : GoodIn wsX1_points (wsX3_at) := ggX1_points_X3_at
theorem dX1_points_0 : decode cX1_points 0 = .ok (.iconst 1, 1) := by decide +kernel
theorem dX1_points_1 : decode cX1_points 1 = .ok (.istore_n 2, 1) := by decide +kernel
theorem dX1_points_2 : decode cX1_points 2 = .ok (.iload_n 2, 1) := by decide +kernel
theorem dX1_points_3 : decode cX1_points 3 = .ok (.iconst 4, 1) := by decide +kernel
theorem dX1_points_4 : decode cX1_points 4 = .ok (.if_icmp .ge 48, 3) := by decide +kernel
theorem dX1_points_7 : decode cX1_points 7 = .ok (.iload_n 2, 1) := by decide +kernel
theorem dX1_points_8 : decode cX1_points 8 = .ok (.aload_n 0, 1) := by decide +kernel
theorem dX1_points_9 : decode cX1_points 9 = .ok (.getfield 43, 3) := by decide +kernel
theorem dX1_points_12 : decode cX1_points 12 = .ok (.if_icmp .gt 40, 3) := by decide +kernel
theorem dX1_points_15 : decode cX1_points 15 = .ok (.iload_n 2, 1) := by decide +kernel
theorem dX1_points_16 : decode cX1_points 16 = .ok (.iload_n 1, 1) := by decide +kernel
theorem dX1_points_17 : decode cX1_points 17 = .ok (.if_icmp .gt 35, 3) := by decide +kernel
theorem dX1_points_20 : decode cX1_points 20 = .ok (.aload_n 0, 1) := by decide +kernel
theorem dX1_points_21 : decode cX1_points 21 = .ok (.getfield 29, 3) := by decide +kernel
theorem dX1_points_24 : decode cX1_points 24 = .ok (.iload_n 2, 1) := by decide +kernel
theorem dX1_points_25 : decode cX1_points 25 = .ok (.iconst 1, 1) := by decide +kernel
theorem dX1_points_26 : decode cX1_points 26 = .ok (.isub, 1) := by decide +kernel
theorem dX1_points_27 : decode cX1_points 27 = .ok (.invokestatic 77, 3) := by decide +kernel
theorem dX1_points_30 : decode cX1_points 30 = .ok (.aload_n 0, 1) := by decide +kernel
theorem dX1_points_31 : decode cX1_points 31 = .ok (.getfield 18, 3) := by decide +kernel
theorem dX1_points_34 : decode cX1_points 34 = .ok (.getfield 129, 3) := by decide +kernel
theorem dX1_points_37 : decode cX1_points 37 = .ok (.iload_n 1, 1) := by decide +kernel
theorem dX1_points_38 : decode cX1_points 38 = .ok (.iload_n 2, 1) := by decide +kernel
theorem dX1_points_39 : decode cX1_points 39 = .ok (.isub, 1) := by decide +kernel
theorem dX1_points_40 : decode cX1_points 40 = .ok (.invokestatic 77, 3) := by decide +kernel
theorem dX1_points_43 : decode cX1_points 43 = .ok (.if_icmp .ne 9, 3) := by decide +kernel
theorem dX1_points_46 : decode cX1_points 46 = .ok (.iinc 2 1, 3) := by decide +kernel
theorem dX1_points_49 : decode cX1_points 49 = .ok (.goto (-47), 3) := by decide +kernel
theorem dX1_points_52 : decode cX1_points 52 = .ok (.iload_n 2, 1) := by decide +kernel
theorem dX1_points_53 : decode cX1_points 53 = .ok (.ireturn, 1) := by decide +kernel
set_option maxRecDepth 20000 in
theorem ggX1_accepts_X1_points : GoodIn wsX1_accepts wsX1_points := goodIn_r _ [7, 8, 9, 10, 11, 12, 13, 14, 15, 16, 17, 18, 19, 20, 21, 22, 23, 24, 25, 26, 27, 28, 29, 30, 31, 32, 33, 34, 35, 36, 37, 38] (by decide +kernel) (by decide +kernel)
set_option maxRecDepth 20000 in
theorem gX1_accepts_X1_points : GoodIn wsX1_accepts (wsV RX1 136 RX1 yX1_points wsX1_points) := goodIn_app (goodIn_of _ (by decide +kernel)) ggX1_accepts_X1_points
set_option maxRecDepth 20000 in
theorem ggX1_accepts_X3_at : GoodIn wsX1_accepts wsX3_at := goodIn_r _ [14] (by decide +kernel) (by decide +kernel)
set_option maxRecDepth 20000 in
theorem gX1_accepts_X3_at_n77 : GoodIn wsX1_accepts (wsX3_at) := ggX1_accepts_X3_at
theorem dX1_accepts_0 : decode cX1_accepts 0 = .ok (.iload_n 1, 1) := by decide +kernel
theorem dX1_accepts_1 : decode cX1_accepts 1 = .ok (.aload_n 0, 1) := by decide +kernel
theorem dX1_accepts_2 : decode cX1_accepts 2 = .ok (.getfield 47, 3) := by decide +kernel
theorem dX1_accepts_5 : decode cX1_accepts 5 = .ok (.if_icmp .eq 19, 3) := by decide +kernel
theorem dX1_accepts_8 : decode cX1_accepts 8 = .ok (.aload_n 0, 1) := by decide +kernel
theorem dX1_accepts_9 : decode cX1_accepts 9 = .ok (.iload_n 1, 1) := by decide +kernel
theorem dX1_accepts_10 : decode cX1_accepts 10 = .ok (.invokevirtual 136, 3) := by decide +kernel
theorem dX1_accepts_13 : decode cX1_accepts 13 = .ok (.aload_n 0, 1) := by decide +kernel
theorem dX1_accepts_14 : decode cX1_accepts 14 = .ok (.getfield 9, 3) := by decide +kernel
theorem dX1_accepts_17 : decode cX1_accepts 17 = .ok (.iconst 5, 1) := by decide +kernel
theorem dX1_accepts_18 : decode cX1_accepts 18 = .ok (.invokestatic 77, 3) := by decide +kernel
theorem dX1_accepts_21 : decode cX1_accepts 21 = .ok (.if_icmp .lt 7, 3) := by decide +kernel
theorem dX1_accepts_24 : decode cX1_accepts 24 = .ok (.iconst 1, 1) := by decide +kernel
theorem dX1_accepts_25 : decode cX1_accepts 25 = .ok (.goto 4, 3) := by decide +kernel
theorem dX1_accepts_28 : decode cX1_accepts 28 = .ok (.iconst 0, 1) := by decide +kernel
theorem dX1_accepts_29 : decode cX1_accepts 29 = .ok (.ireturn, 1) := by decide +kernel
set_option maxRecDepth 20000 in
theorem ggX1_follow_X2_empty : GoodIn wsX1_follow wsX2_empty := goodIn_r _ [15, 16, 54, 55, 56] (by decide +kernel) (by decide +kernel)
set_option maxRecDepth 20000 in
theorem gX1_follow_X2_empty : GoodIn wsX1_follow (wsV RX1 85 RX2 yX2_empty wsX2_empty) := goodIn_app (goodIn_of _ (by decide +kernel)) ggX1_follow_X2_empty
set_option maxRecDepth 20000 in
theorem ggX1_follow_X3_at : GoodIn wsX1_follow wsX3_at := goodIn_r _ [19] (by decide +kernel) (by decide +kernel)
set_option maxRecDepth 20000 in
theorem gX1_follow_X3_at_n77 : GoodIn wsX1_follow (wsX3_at) := ggX1_follow_X3_at
set_option maxRecDepth 20000 in
theorem ggX1_follow_X2_add : GoodIn wsX1_follow wsX2_add := goodIn_r _ [23, 16, 24, 25, 17, 18, 19, 26, 27, 54, 55, 56] (by decide +kernel) (by decide +kernel)
set_option maxRecDepth 20000 in
theorem gX1_follow_X2_add : GoodIn wsX1_follow (wsV RX1 142 RX2 yX2_add wsX2_add) := goodIn_app (goodIn_of _ (by decide +kernel)) ggX1_follow_X2_add
set_option maxRecDepth 20000 in
theorem ggX1_follow_X2_speedOr : GoodIn wsX1_follow wsX2_speedOr := goodIn_r _ [31, 24, 16, 25, 17, 18, 19, 54, 55, 56] (by decide +kernel) (by decide +kernel)
set_option maxRecDepth 20000 in
theorem gX1_follow_X2_speedOr : GoodIn wsX1_follow (wsV RX1 146 RX2 yX2_speedOr wsX2_speedOr) := goodIn_app (goodIn_of _ (by decide +kernel)) ggX1_follow_X2_speedOr
set_option maxRecDepth 20000 in
theorem ggX1_follow_X0_passWaitingBefore : GoodIn wsX1_follow wsX0_passWaitingBefore := goodIn_r _ [36, 37, 38, 17, 18, 19, 26, 27, 57, 58, 59, 60, 61, 62, 63, 64, 65] (by decide +kernel) (by decide +kernel)
set_option maxRecDepth 20000 in
theorem gX1_follow_X0_passWaitingBefore : GoodIn wsX1_follow (wsV RX1 149 RX0 yX0_passWaitingBefore wsX0_passWaitingBefore) := goodIn_app (goodIn_of _ (by decide +kernel)) ggX1_follow_X0_passWaitingBefore
theorem dX1_follow_0 : decode cX1_follow 0 = .ok (.iload_n 1, 1) := by decide +kernel
theorem dX1_follow_1 : decode cX1_follow 1 = .ok (.aload_n 0, 1) := by decide +kernel
theorem dX1_follow_2 : decode cX1_follow 2 = .ok (.getfield 47, 3) := by decide +kernel
theorem dX1_follow_5 : decode cX1_follow 5 = .ok (.if_icmp .le 23, 3) := by decide +kernel
theorem dX1_follow_8 : decode cX1_follow 8 = .ok (.aload_n 0, 1) := by decide +kernel
theorem dX1_follow_9 : decode cX1_follow 9 = .ok (.dup, 1) := by decide +kernel
theorem dX1_follow_10 : decode cX1_follow 10 = .ok (.getfield 62, 3) := by decide +kernel
theorem dX1_follow_13 : decode cX1_follow 13 = .ok (.iconst 1, 1) := by decide +kernel
theorem dX1_follow_14 : decode cX1_follow 14 = .ok (.iadd, 1) := by decide +kernel
theorem dX1_follow_15 : decode cX1_follow 15 = .ok (.putfield 62, 3) := by decide +kernel
theorem dX1_follow_18 : decode cX1_follow 18 = .ok (.aload_n 0, 1) := by decide +kernel
theorem dX1_follow_19 : decode cX1_follow 19 = .ok (.getfield 25, 3) := by decide +kernel
theorem dX1_follow_22 : decode cX1_follow 22 = .ok (.invokevirtual 85, 3) := by decide +kernel
theorem dX1_follow_25 : decode cX1_follow 25 = .ok (.goto 28, 3) := by decide +kernel
theorem dX1_follow_28 : decode cX1_follow 28 = .ok (.iload_n 1, 1) := by decide +kernel
theorem dX1_follow_29 : decode cX1_follow 29 = .ok (.aload_n 0, 1) := by decide +kernel
theorem dX1_follow_30 : decode cX1_follow 30 = .ok (.getfield 47, 3) := by decide +kernel
theorem dX1_follow_33 : decode cX1_follow 33 = .ok (.if_icmp .ge 20, 3) := by decide +kernel
theorem dX1_follow_36 : decode cX1_follow 36 = .ok (.aload_n 0, 1) := by decide +kernel
theorem dX1_follow_37 : decode cX1_follow 37 = .ok (.dup, 1) := by decide +kernel
theorem dX1_follow_38 : decode cX1_follow 38 = .ok (.getfield 65, 3) := by decide +kernel
theorem dX1_follow_41 : decode cX1_follow 41 = .ok (.iconst 1, 1) := by decide +kernel
theorem dX1_follow_42 : decode cX1_follow 42 = .ok (.iadd, 1) := by decide +kernel
theorem dX1_follow_43 : decode cX1_follow 43 = .ok (.putfield 65, 3) := by decide +kernel
theorem dX1_follow_46 : decode cX1_follow 46 = .ok (.aload_n 0, 1) := by decide +kernel
theorem dX1_follow_47 : decode cX1_follow 47 = .ok (.getfield 25, 3) := by decide +kernel
theorem dX1_follow_50 : decode cX1_follow 50 = .ok (.invokevirtual 85, 3) := by decide +kernel
theorem dX1_follow_53 : decode cX1_follow 53 = .ok (.aload_n 0, 1) := by decide +kernel
theorem dX1_follow_54 : decode cX1_follow 54 = .ok (.iload_n 1, 1) := by decide +kernel
theorem dX1_follow_55 : decode cX1_follow 55 = .ok (.iconst 1, 1) := by decide +kernel
theorem dX1_follow_56 : decode cX1_follow 56 = .ok (.iadd, 1) := by decide +kernel
theorem dX1_follow_57 : decode cX1_follow 57 = .ok (.putfield 47, 3) := by decide +kernel
theorem dX1_follow_60 : decode cX1_follow 60 = .ok (.aload_n 0, 1) := by decide +kernel
theorem dX1_follow_61 : decode cX1_follow 61 = .ok (.aload_n 0, 1) := by decide +kernel
theorem dX1_follow_62 : decode cX1_follow 62 = .ok (.getfield 53, 3) := by decide +kernel
theorem dX1_follow_65 : decode cX1_follow 65 = .ok (.putfield 56, 3) := by decide +kernel
theorem dX1_follow_68 : decode cX1_follow 68 = .ok (.aload_n 0, 1) := by decide +kernel
theorem dX1_follow_69 : decode cX1_follow 69 = .ok (.getfield 25, 3) := by decide +kernel
theorem dX1_follow_72 : decode cX1_follow 72 = .ok (.aload_n 0, 1) := by decide +kernel
theorem dX1_follow_73 : decode cX1_follow 73 = .ok (.getfield 53, 3) := by decide +kernel
theorem dX1_follow_76 : decode cX1_follow 76 = .ok (.aload_n 0, 1) := by decide +kernel
theorem dX1_follow_77 : decode cX1_follow 77 = .ok (.getfield 47, 3) := by decide +kernel
theorem dX1_follow_80 : decode cX1_follow 80 = .ok (.aload_n 0, 1) := by decide +kernel
theorem dX1_follow_81 : decode cX1_follow 81 = .ok (.getfield 9, 3) := by decide +kernel
theorem dX1_follow_84 : decode cX1_follow 84 = .ok (.bipush 6, 2) := by decide +kernel
theorem dX1_follow_86 : decode cX1_follow 86 = .ok (.invokestatic 77, 3) := by decide +kernel
theorem dX1_follow_89 : decode cX1_follow 89 = .ok (.invokevirtual 142, 3) := by decide +kernel
theorem dX1_follow_92 : decode cX1_follow 92 = .ok (.aload_n 0, 1) := by decide +kernel
theorem dX1_follow_93 : decode cX1_follow 93 = .ok (.aload_n 0, 1) := by decide +kernel
theorem dX1_follow_94 : decode cX1_follow 94 = .ok (.getfield 25, 3) := by decide +kernel
theorem dX1_follow_97 : decode cX1_follow 97 = .ok (.aload_n 0, 1) := by decide +kernel
theorem dX1_follow_98 : decode cX1_follow 98 = .ok (.getfield 50, 3) := by decide +kernel
theorem dX1_follow_101 : decode cX1_follow 101 = .ok (.invokevirtual 146, 3) := by decide +kernel
theorem dX1_follow_104 : decode cX1_follow 104 = .ok (.putfield 50, 3) := by decide +kernel
theorem dX1_follow_107 : decode cX1_follow 107 = .ok (.aload_n 0, 1) := by decide +kernel
theorem dX1_follow_108 : decode cX1_follow 108 = .ok (.dup, 1) := by decide +kernel
theorem dX1_follow_109 : decode cX1_follow 109 = .ok (.getfield 74, 3) := by decide +kernel
theorem dX1_follow_112 : decode cX1_follow 112 = .ok (.aload_n 0, 1) := by decide +kernel
theorem dX1_follow_113 : decode cX1_follow 113 = .ok (.getfield 18, 3) := by decide +kernel
theorem dX1_follow_116 : decode cX1_follow 116 = .ok (.iload_n 1, 1) := by decide +kernel
theorem dX1_follow_117 : decode cX1_follow 117 = .ok (.invokevirtual 149, 3) := by decide +kernel
theorem dX1_follow_120 : decode cX1_follow 120 = .ok (.iadd, 1) := by decide +kernel
theorem dX1_follow_121 : decode cX1_follow 121 = .ok (.putfield 74, 3) := by decide +kernel
theorem dX1_follow_124 : decode cX1_follow 124 = .ok (.return_, 1) := by decide +kernel
set_option maxRecDepth 20000 in
theorem ggX1_keepHeard_X3_at : GoodIn wsX1_keepHeard wsX3_at := goodIn_r _ [9] (by decide +kernel) (by decide +kernel)
set_option maxRecDepth 20000 in
theorem gX1_keepHeard_X3_at_n77 : GoodIn wsX1_keepHeard (wsX3_at) := ggX1_keepHeard_X3_at
set_option maxRecDepth 20000 in
theorem ggX1_keepHeard_X3_put : GoodIn wsX1_keepHeard wsX3_put := goodIn_r _ [11] (by decide +kernel) (by decide +kernel)
set_option maxRecDepth 20000 in
theorem gX1_keepHeard_X3_put_n88 : GoodIn wsX1_keepHeard (wsX3_put) := ggX1_keepHeard_X3_put
theorem dX1_keepHeard_0 : decode cX1_keepHeard 0 = .ok (.iconst 3, 1) := by decide +kernel
theorem dX1_keepHeard_1 : decode cX1_keepHeard 1 = .ok (.istore_n 2, 1) := by decide +kernel
theorem dX1_keepHeard_2 : decode cX1_keepHeard 2 = .ok (.iload_n 2, 1) := by decide +kernel
theorem dX1_keepHeard_3 : decode cX1_keepHeard 3 = .ok (.ifCond .le 27, 3) := by decide +kernel
theorem dX1_keepHeard_6 : decode cX1_keepHeard 6 = .ok (.aload_n 0, 1) := by decide +kernel
theorem dX1_keepHeard_7 : decode cX1_keepHeard 7 = .ok (.getfield 29, 3) := by decide +kernel
theorem dX1_keepHeard_10 : decode cX1_keepHeard 10 = .ok (.iload_n 2, 1) := by decide +kernel
theorem dX1_keepHeard_11 : decode cX1_keepHeard 11 = .ok (.aload_n 0, 1) := by decide +kernel
theorem dX1_keepHeard_12 : decode cX1_keepHeard 12 = .ok (.getfield 29, 3) := by decide +kernel
theorem dX1_keepHeard_15 : decode cX1_keepHeard 15 = .ok (.iload_n 2, 1) := by decide +kernel
theorem dX1_keepHeard_16 : decode cX1_keepHeard 16 = .ok (.iconst 1, 1) := by decide +kernel
theorem dX1_keepHeard_17 : decode cX1_keepHeard 17 = .ok (.isub, 1) := by decide +kernel
theorem dX1_keepHeard_18 : decode cX1_keepHeard 18 = .ok (.invokestatic 77, 3) := by decide +kernel
theorem dX1_keepHeard_21 : decode cX1_keepHeard 21 = .ok (.invokestatic 88, 3) := by decide +kernel
theorem dX1_keepHeard_24 : decode cX1_keepHeard 24 = .ok (.iinc 2 (-1), 3) := by decide +kernel
theorem dX1_keepHeard_27 : decode cX1_keepHeard 27 = .ok (.goto (-25), 3) := by decide +kernel
theorem dX1_keepHeard_30 : decode cX1_keepHeard 30 = .ok (.aload_n 0, 1) := by decide +kernel
theorem dX1_keepHeard_31 : decode cX1_keepHeard 31 = .ok (.getfield 29, 3) := by decide +kernel
theorem dX1_keepHeard_34 : decode cX1_keepHeard 34 = .ok (.iconst 0, 1) := by decide +kernel
theorem dX1_keepHeard_35 : decode cX1_keepHeard 35 = .ok (.iload_n 1, 1) := by decide +kernel
theorem dX1_keepHeard_36 : decode cX1_keepHeard 36 = .ok (.invokestatic 88, 3) := by decide +kernel
theorem dX1_keepHeard_39 : decode cX1_keepHeard 39 = .ok (.aload_n 0, 1) := by decide +kernel
theorem dX1_keepHeard_40 : decode cX1_keepHeard 40 = .ok (.aload_n 0, 1) := by decide +kernel
theorem dX1_keepHeard_41 : decode cX1_keepHeard 41 = .ok (.getfield 43, 3) := by decide +kernel
theorem dX1_keepHeard_44 : decode cX1_keepHeard 44 = .ok (.iconst 1, 1) := by decide +kernel
theorem dX1_keepHeard_45 : decode cX1_keepHeard 45 = .ok (.iadd, 1) := by decide +kernel
theorem dX1_keepHeard_46 : decode cX1_keepHeard 46 = .ok (.iconst 4, 1) := by decide +kernel
theorem dX1_keepHeard_47 : decode cX1_keepHeard 47 = .ok (.invokestatic 126, 3) := by decide +kernel
theorem dX1_keepHeard_50 : decode cX1_keepHeard 50 = .ok (.putfield 43, 3) := by decide +kernel
theorem dX1_keepHeard_53 : decode cX1_keepHeard 53 = .ok (.return_, 1) := by decide +kernel
set_option maxRecDepth 20000 in
theorem ggX1_readToEnd_X1_passTime : GoodIn wsX1_readToEnd wsX1_passTime := goodIn_r _ [9, 10, 11, 12, 13, 14, 8, 15, 2, 3, 16, 17, 18, 19, 20, 21, 22, 23, 24, 25, 26, 27, 28, 29, 30, 31, 32, 1, 33, 34, 35, 36, 37, 38, 39, 40, 41, 42, 43, 44, 45, 46, 47, 48, 49, 50, 51, 52, 53, 54, 55, 56, 57, 58, 59, 60, 61, 62, 63, 64, 65, 66, 67, 68, 69, 70, 71, 72, 73, 138, 139, 140, 141, 142, 143, 144, 145, 146, 147, 148, 149, 150, 151, 152, 153, 154, 155, 156, 157, 158, 159, 160, 161] (by decide +kernel) (by decide +kernel)
set_option maxRecDepth 20000 in
theorem gX1_readToEnd_X1_passTime : GoodIn wsX1_readToEnd (wsV RX1 152 RX1 yX1_passTime wsX1_passTime) := goodIn_app (goodIn_of _ (by decide +kernel)) ggX1_readToEnd_X1_passTime
set_option maxRecDepth 20000 in
theorem ggX1_readToEnd_X3_at : GoodIn wsX1_readToEnd wsX3_at := goodIn_r _ [25] (by decide +kernel) (by decide +kernel)
set_option maxRecDepth 20000 in
theorem gX1_readToEnd_X3_at_n77 : GoodIn wsX1_readToEnd (wsX3_at) := ggX1_readToEnd_X3_at
set_option maxRecDepth 20000 in
theorem ggX1_readToEnd_X1_listen : GoodIn wsX1_readToEnd wsX1_listen := goodIn_r _ [77, 78, 79, 80, 81, 8, 82, 1, 31, 59, 60, 36, 61, 2, 3, 51, 52, 53, 4, 23, 24, 25, 83, 84, 85, 86, 87, 88, 89, 90, 91, 92, 93, 94, 95, 96, 97, 98, 99, 100, 101, 102, 103, 104, 105, 106, 11, 30, 33, 107, 108, 109, 110, 111, 112, 113, 114, 115, 116, 117, 118, 119, 120, 121, 122, 123, 124, 125, 126, 127, 128, 19, 129, 21, 22, 130, 131, 132, 133, 138, 139, 140, 141, 142, 143, 144, 145, 146, 147, 148, 149, 150, 151, 152, 153, 154, 155, 156, 157, 158, 159, 160, 161, 162, 163, 164] (by decide +kernel) (by decide +kernel)
set_option maxRecDepth 20000 in
theorem gX1_readToEnd_X1_listen : GoodIn wsX1_readToEnd (wsV RX1 155 RX1 yX1_listen wsX1_listen) := goodIn_app (goodIn_of _ (by decide +kernel)) ggX1_readToEnd_X1_listen
set_option maxRecDepth 20000 in
theorem ggX1_readToEnd_X0_nextCue : GoodIn wsX1_readToEnd wsX0_nextCue := goodIn_r _ [20, 21, 22, 23, 24, 25, 153, 154, 155, 156, 157, 158, 159, 160, 161] (by decide +kernel) (by decide +kernel)
set_option maxRecDepth 20000 in
theorem gX1_readToEnd_X0_nextCue : GoodIn wsX1_readToEnd (wsV RX1 158 RX0 yX0_nextCue wsX0_nextCue) := goodIn_app (goodIn_of _ (by decide +kernel)) ggX1_readToEnd_X0_nextCue
set_option maxRecDepth 20000 in
theorem ggX1_readToEnd_X0_freeCue : GoodIn wsX1_readToEnd wsX0_freeCue := goodIn_r _ [137, 22, 120, 24, 121, 153, 154, 155, 156, 157, 158, 159, 160, 161] (by decide +kernel) (by decide +kernel)
set_option maxRecDepth 20000 in
theorem gX1_readToEnd_X0_freeCue : GoodIn wsX1_readToEnd (wsV RX1 161 RX0 yX0_freeCue wsX0_freeCue) := goodIn_app (goodIn_of _ (by decide +kernel)) ggX1_readToEnd_X0_freeCue
theorem dX1_readToEnd_0 : decode cX1_readToEnd 0 = .ok (.aload_n 0, 1) := by decide +kernel
theorem dX1_readToEnd_1 : decode cX1_readToEnd 1 = .ok (.getfield 47, 3) := by decide +kernel
theorem dX1_readToEnd_4 : decode cX1_readToEnd 4 = .ok (.istore_n 2, 1) := by decide +kernel
theorem dX1_readToEnd_5 : decode cX1_readToEnd 5 = .ok (.iload_n 2, 1) := by decide +kernel
theorem dX1_readToEnd_6 : decode cX1_readToEnd 6 = .ok (.istore_n 3, 1) := by decide +kernel
theorem dX1_readToEnd_7 : decode cX1_readToEnd 7 = .ok (.iload_n 3, 1) := by decide +kernel
theorem dX1_readToEnd_8 : decode cX1_readToEnd 8 = .ok (.aload_n 0, 1) := by decide +kernel
theorem dX1_readToEnd_9 : decode cX1_readToEnd 9 = .ok (.getfield 18, 3) := by decide +kernel
theorem dX1_readToEnd_12 : decode cX1_readToEnd 12 = .ok (.getfield 123, 3) := by decide +kernel
theorem dX1_readToEnd_15 : decode cX1_readToEnd 15 = .ok (.if_icmp .ge 50, 3) := by decide +kernel
theorem dX1_readToEnd_18 : decode cX1_readToEnd 18 = .ok (.aload_n 0, 1) := by decide +kernel
theorem dX1_readToEnd_19 : decode cX1_readToEnd 19 = .ok (.iload_n 1, 1) := by decide +kernel
theorem dX1_readToEnd_20 : decode cX1_readToEnd 20 = .ok (.invokevirtual 152, 3) := by decide +kernel
theorem dX1_readToEnd_23 : decode cX1_readToEnd 23 = .ok (.pop, 1) := by decide +kernel
theorem dX1_readToEnd_24 : decode cX1_readToEnd 24 = .ok (.aload_n 0, 1) := by decide +kernel
theorem dX1_readToEnd_25 : decode cX1_readToEnd 25 = .ok (.aload_n 0, 1) := by decide +kernel
theorem dX1_readToEnd_26 : decode cX1_readToEnd 26 = .ok (.getfield 18, 3) := by decide +kernel
theorem dX1_readToEnd_29 : decode cX1_readToEnd 29 = .ok (.getfield 129, 3) := by decide +kernel
theorem dX1_readToEnd_32 : decode cX1_readToEnd 32 = .ok (.iload_n 3, 1) := by decide +kernel
theorem dX1_readToEnd_33 : decode cX1_readToEnd 33 = .ok (.invokestatic 77, 3) := by decide +kernel
theorem dX1_readToEnd_36 : decode cX1_readToEnd 36 = .ok (.invokevirtual 155, 3) := by decide +kernel
theorem dX1_readToEnd_39 : decode cX1_readToEnd 39 = .ok (.pop, 1) := by decide +kernel
theorem dX1_readToEnd_40 : decode cX1_readToEnd 40 = .ok (.aload_n 0, 1) := by decide +kernel
theorem dX1_readToEnd_41 : decode cX1_readToEnd 41 = .ok (.getfield 18, 3) := by decide +kernel
theorem dX1_readToEnd_44 : decode cX1_readToEnd 44 = .ok (.invokevirtual 158, 3) := by decide +kernel
theorem dX1_readToEnd_47 : decode cX1_readToEnd 47 = .ok (.iload_n 3, 1) := by decide +kernel
theorem dX1_readToEnd_48 : decode cX1_readToEnd 48 = .ok (.if_icmp .ne 11, 3) := by decide +kernel
theorem dX1_readToEnd_51 : decode cX1_readToEnd 51 = .ok (.aload_n 0, 1) := by decide +kernel
theorem dX1_readToEnd_52 : decode cX1_readToEnd 52 = .ok (.getfield 18, 3) := by decide +kernel
theorem dX1_readToEnd_55 : decode cX1_readToEnd 55 = .ok (.iload_n 3, 1) := by decide +kernel
theorem dX1_readToEnd_56 : decode cX1_readToEnd 56 = .ok (.invokevirtual 161, 3) := by decide +kernel
theorem dX1_readToEnd_59 : decode cX1_readToEnd 59 = .ok (.iinc 3 1, 3) := by decide +kernel
theorem dX1_readToEnd_62 : decode cX1_readToEnd 62 = .ok (.goto (-55), 3) := by decide +kernel
theorem dX1_readToEnd_65 : decode cX1_readToEnd 65 = .ok (.return_, 1) := by decide +kernel
set_option maxRecDepth 20000 in
theorem ggX1_estimatedWord_X1_holdingWord : GoodIn wsX1_estimatedWord wsX1_holdingWord := goodIn_r _ [5, 6, 7, 8, 9, 10, 11, 12, 13, 14, 15, 16, 17, 35, 36, 37, 38, 39, 40, 41, 42, 43, 44, 45, 46, 47, 48, 49, 50, 51, 52, 53, 54, 55, 56, 57, 58] (by decide +kernel) (by decide +kernel)
set_option maxRecDepth 20000 in
theorem gX1_estimatedWord_X1_holdingWord : GoodIn wsX1_estimatedWord (wsV RX1 164 RX1 yX1_holdingWord wsX1_holdingWord) := goodIn_app (goodIn_of _ (by decide +kernel)) ggX1_estimatedWord_X1_holdingWord
set_option maxRecDepth 20000 in
theorem ggX1_estimatedWord_X1_estimate : GoodIn wsX1_estimatedWord wsX1_estimate := goodIn_r _ [21, 22, 23, 24, 25, 26, 27, 28, 29, 30, 31, 32, 33, 34, 15, 16, 17, 35, 36, 37, 38, 39, 40, 41, 42, 43, 44, 45, 46, 47, 48, 49] (by decide +kernel) (by decide +kernel)
set_option maxRecDepth 20000 in
theorem gX1_estimatedWord_X1_estimate : GoodIn wsX1_estimatedWord (wsV RX1 167 RX1 yX1_estimate wsX1_estimate) := goodIn_app (goodIn_of _ (by decide +kernel)) ggX1_estimatedWord_X1_estimate
theorem dX1_estimatedWord_0 : decode cX1_estimatedWord 0 = .ok (.aload_n 0, 1) := by decide +kernel
theorem dX1_estimatedWord_1 : decode cX1_estimatedWord 1 = .ok (.iconst 0, 1) := by decide +kernel
theorem dX1_estimatedWord_2 : decode cX1_estimatedWord 2 = .ok (.aload_n 0, 1) := by decide +kernel
theorem dX1_estimatedWord_3 : decode cX1_estimatedWord 3 = .ok (.invokevirtual 164, 3) := by decide +kernel
theorem dX1_estimatedWord_6 : decode cX1_estimatedWord 6 = .ok (.invokevirtual 167, 3) := by decide +kernel
theorem dX1_estimatedWord_9 : decode cX1_estimatedWord 9 = .ok (.ireturn, 1) := by decide +kernel
set_option maxRecDepth 20000 in
theorem ggX1_holdingWord_X0_nextCue : GoodIn wsX1_holdingWord wsX0_nextCue := goodIn_r _ [7, 8, 9, 10, 11, 12, 28, 29, 30, 31, 32, 33, 34, 35, 36] (by decide +kernel) (by decide +kernel)
set_option maxRecDepth 20000 in
theorem gX1_holdingWord_X0_nextCue : GoodIn wsX1_holdingWord (wsV RX1 158 RX0 yX0_nextCue wsX0_nextCue) := goodIn_app (goodIn_of _ (by decide +kernel)) ggX1_holdingWord_X0_nextCue
theorem dX1_holdingWord_0 : decode cX1_holdingWord 0 = .ok (.aload_n 0, 1) := by decide +kernel
theorem dX1_holdingWord_1 : decode cX1_holdingWord 1 = .ok (.getfield 18, 3) := by decide +kernel
theorem dX1_holdingWord_4 : decode cX1_holdingWord 4 = .ok (.invokevirtual 158, 3) := by decide +kernel
theorem dX1_holdingWord_7 : decode cX1_holdingWord 7 = .ok (.istore_n 1, 1) := by decide +kernel
theorem dX1_holdingWord_8 : decode cX1_holdingWord 8 = .ok (.iload_n 1, 1) := by decide +kernel
theorem dX1_holdingWord_9 : decode cX1_holdingWord 9 = .ok (.bipush (-9), 2) := by decide +kernel
theorem dX1_holdingWord_11 : decode cX1_holdingWord 11 = .ok (.if_icmp .ne 15, 3) := by decide +kernel
theorem dX1_holdingWord_14 : decode cX1_holdingWord 14 = .ok (.aload_n 0, 1) := by decide +kernel
theorem dX1_holdingWord_15 : decode cX1_holdingWord 15 = .ok (.getfield 18, 3) := by decide +kernel
theorem dX1_holdingWord_18 : decode cX1_holdingWord 18 = .ok (.getfield 123, 3) := by decide +kernel
theorem dX1_holdingWord_21 : decode cX1_holdingWord 21 = .ok (.iconst 1, 1) := by decide +kernel
theorem dX1_holdingWord_22 : decode cX1_holdingWord 22 = .ok (.isub, 1) := by decide +kernel
theorem dX1_holdingWord_23 : decode cX1_holdingWord 23 = .ok (.goto 4, 3) := by decide +kernel
theorem dX1_holdingWord_26 : decode cX1_holdingWord 26 = .ok (.iload_n 1, 1) := by decide +kernel
theorem dX1_holdingWord_27 : decode cX1_holdingWord 27 = .ok (.ireturn, 1) := by decide +kernel
set_option maxRecDepth 20000 in
theorem ggX1_estimate_X3_at : GoodIn wsX1_estimate wsX3_at := goodIn_r _ [16] (by decide +kernel) (by decide +kernel)
set_option maxRecDepth 20000 in
theorem gX1_estimate_X3_at_n77 : GoodIn wsX1_estimate (wsX3_at) := ggX1_estimate_X3_at
theorem dX1_estimate_0 : decode cX1_estimate 0 = .ok (.aload_n 0, 1) := by decide +kernel
theorem dX1_estimate_1 : decode cX1_estimate 1 = .ok (.getfield 53, 3) := by decide +kernel
theorem dX1_estimate_4 : decode cX1_estimate 4 = .ok (.i2l, 1) := by decide +kernel
theorem dX1_estimate_5 : decode cX1_estimate 5 = .ok (.aload_n 0, 1) := by decide +kernel
theorem dX1_estimate_6 : decode cX1_estimate 6 = .ok (.getfield 56, 3) := by decide +kernel
theorem dX1_estimate_9 : decode cX1_estimate 9 = .ok (.i2l, 1) := by decide +kernel
theorem dX1_estimate_10 : decode cX1_estimate 10 = .ok (.lsub, 1) := by decide +kernel
theorem dX1_estimate_11 : decode cX1_estimate 11 = .ok (.iload_n 1, 1) := by decide +kernel
theorem dX1_estimate_12 : decode cX1_estimate 12 = .ok (.i2l, 1) := by decide +kernel
theorem dX1_estimate_13 : decode cX1_estimate 13 = .ok (.ladd, 1) := by decide +kernel
theorem dX1_estimate_14 : decode cX1_estimate 14 = .ok (.aload_n 0, 1) := by decide +kernel
theorem dX1_estimate_15 : decode cX1_estimate 15 = .ok (.getfield 9, 3) := by decide +kernel
theorem dX1_estimate_18 : decode cX1_estimate 18 = .ok (.bipush 8, 2) := by decide +kernel
theorem dX1_estimate_20 : decode cX1_estimate 20 = .ok (.invokestatic 77, 3) := by decide +kernel
theorem dX1_estimate_23 : decode cX1_estimate 23 = .ok (.i2l, 1) := by decide +kernel
theorem dX1_estimate_24 : decode cX1_estimate 24 = .ok (.ladd, 1) := by decide +kernel
theorem dX1_estimate_25 : decode cX1_estimate 25 = .ok (.lstore_n 3, 1) := by decide +kernel
theorem dX1_estimate_26 : decode cX1_estimate 26 = .ok (.ldc2_w 170, 3) := by decide +kernel
theorem dX1_estimate_29 : decode cX1_estimate 29 = .ok (.aload_n 0, 1) := by decide +kernel
theorem dX1_estimate_30 : decode cX1_estimate 30 = .ok (.getfield 47, 3) := by decide +kernel
theorem dX1_estimate_33 : decode cX1_estimate 33 = .ok (.i2l, 1) := by decide +kernel
theorem dX1_estimate_34 : decode cX1_estimate 34 = .ok (.lmul, 1) := by decide +kernel
theorem dX1_estimate_35 : decode cX1_estimate 35 = .ok (.aload_n 0, 1) := by decide +kernel
theorem dX1_estimate_36 : decode cX1_estimate 36 = .ok (.getfield 50, 3) := by decide +kernel
theorem dX1_estimate_39 : decode cX1_estimate 39 = .ok (.i2l, 1) := by decide +kernel
theorem dX1_estimate_40 : decode cX1_estimate 40 = .ok (.lload_n 3, 1) := by decide +kernel
theorem dX1_estimate_41 : decode cX1_estimate 41 = .ok (.lmul, 1) := by decide +kernel
theorem dX1_estimate_42 : decode cX1_estimate 42 = .ok (.ladd, 1) := by decide +kernel
theorem dX1_estimate_43 : decode cX1_estimate 43 = .ok (.ldc2_w 170, 3) := by decide +kernel
theorem dX1_estimate_46 : decode cX1_estimate 46 = .ok (.ldiv, 1) := by decide +kernel
theorem dX1_estimate_47 : decode cX1_estimate 47 = .ok (.lstore 5, 2) := by decide +kernel
theorem dX1_estimate_49 : decode cX1_estimate 49 = .ok (.lconst 0, 1) := by decide +kernel
theorem dX1_estimate_50 : decode cX1_estimate 50 = .ok (.lload 5, 2) := by decide +kernel
theorem dX1_estimate_52 : decode cX1_estimate 52 = .ok (.iload_n 2, 1) := by decide +kernel
theorem dX1_estimate_53 : decode cX1_estimate 53 = .ok (.i2l, 1) := by decide +kernel
theorem dX1_estimate_54 : decode cX1_estimate 54 = .ok (.invokestatic 172, 3) := by decide +kernel
theorem dX1_estimate_57 : decode cX1_estimate 57 = .ok (.invokestatic 175, 3) := by decide +kernel
theorem dX1_estimate_60 : decode cX1_estimate 60 = .ok (.l2i, 1) := by decide +kernel
theorem dX1_estimate_61 : decode cX1_estimate 61 = .ok (.ireturn, 1) := by decide +kernel
set_option maxRecDepth 20000 in
theorem ggX1_highestTop_X3_at : GoodIn wsX1_highestTop wsX3_at := goodIn_r _ [10] (by decide +kernel) (by decide +kernel)
set_option maxRecDepth 20000 in
theorem gX1_highestTop_X3_at_n77 : GoodIn wsX1_highestTop (wsX3_at) := ggX1_highestTop_X3_at
theorem dX1_highestTop_0 : decode cX1_highestTop 0 = .ok (.iconst 0, 1) := by decide +kernel
theorem dX1_highestTop_1 : decode cX1_highestTop 1 = .ok (.bipush 100, 2) := by decide +kernel
theorem dX1_highestTop_3 : decode cX1_highestTop 3 = .ok (.aload_n 0, 1) := by decide +kernel
theorem dX1_highestTop_4 : decode cX1_highestTop 4 = .ok (.getfield 18, 3) := by decide +kernel
theorem dX1_highestTop_7 : decode cX1_highestTop 7 = .ok (.getfield 177, 3) := by decide +kernel
theorem dX1_highestTop_10 : decode cX1_highestTop 10 = .ok (.aload_n 0, 1) := by decide +kernel
theorem dX1_highestTop_11 : decode cX1_highestTop 11 = .ok (.getfield 9, 3) := by decide +kernel
theorem dX1_highestTop_14 : decode cX1_highestTop 14 = .ok (.iconst 1, 1) := by decide +kernel
theorem dX1_highestTop_15 : decode cX1_highestTop 15 = .ok (.invokestatic 77, 3) := by decide +kernel
theorem dX1_highestTop_18 : decode cX1_highestTop 18 = .ok (.isub, 1) := by decide +kernel
theorem dX1_highestTop_19 : decode cX1_highestTop 19 = .ok (.imul, 1) := by decide +kernel
theorem dX1_highestTop_20 : decode cX1_highestTop 20 = .ok (.invokestatic 117, 3) := by decide +kernel
theorem dX1_highestTop_23 : decode cX1_highestTop 23 = .ok (.ireturn, 1) := by decide +kernel
set_option maxRecDepth 20000 in
theorem ggX1_desiredTop_X3_at : GoodIn wsX1_desiredTop wsX3_at := goodIn_r _ [10] (by decide +kernel) (by decide +kernel)
set_option maxRecDepth 20000 in
theorem gX1_desiredTop_X3_at_n77 : GoodIn wsX1_desiredTop (wsX3_at) := ggX1_desiredTop_X3_at
set_option maxRecDepth 20000 in
theorem ggX1_desiredTop_X1_highestTop : GoodIn wsX1_desiredTop wsX1_highestTop := goodIn_r _ [15, 6, 16, 1, 17, 18, 4, 19, 8, 9, 10, 24, 25, 26, 27, 28, 29, 30, 31, 32, 33, 34, 35, 36, 37, 38, 39, 40, 41, 42, 43, 44, 45, 46, 47] (by decide +kernel) (by decide +kernel)
set_option maxRecDepth 20000 in
theorem gX1_desiredTop_X1_highestTop : GoodIn wsX1_desiredTop (wsV RX1 92 RX1 yX1_highestTop wsX1_highestTop) := goodIn_app (goodIn_of _ (by decide +kernel)) ggX1_desiredTop_X1_highestTop
set_option maxRecDepth 20000 in
theorem ggX1_desiredTop_X3_limited : GoodIn wsX1_desiredTop wsX3_limited := goodIn_r _ [21, 22, 3, 4, 5, 23, 18, 19] (by decide +kernel) (by decide +kernel)
set_option maxRecDepth 20000 in
theorem gX1_desiredTop_X3_limited_n96 : GoodIn wsX1_desiredTop (wsX3_limited) := ggX1_desiredTop_X3_limited
theorem dX1_desiredTop_0 : decode cX1_desiredTop 0 = .ok (.aload_n 0, 1) := by decide +kernel
theorem dX1_desiredTop_1 : decode cX1_desiredTop 1 = .ok (.getfield 9, 3) := by decide +kernel
theorem dX1_desiredTop_4 : decode cX1_desiredTop 4 = .ok (.iconst 2, 1) := by decide +kernel
theorem dX1_desiredTop_5 : decode cX1_desiredTop 5 = .ok (.invokestatic 77, 3) := by decide +kernel
theorem dX1_desiredTop_8 : decode cX1_desiredTop 8 = .ok (.aload_n 0, 1) := by decide +kernel
theorem dX1_desiredTop_9 : decode cX1_desiredTop 9 = .ok (.getfield 9, 3) := by decide +kernel
theorem dX1_desiredTop_12 : decode cX1_desiredTop 12 = .ok (.iconst 1, 1) := by decide +kernel
theorem dX1_desiredTop_13 : decode cX1_desiredTop 13 = .ok (.invokestatic 77, 3) := by decide +kernel
theorem dX1_desiredTop_16 : decode cX1_desiredTop 16 = .ok (.iconst 1, 1) := by decide +kernel
theorem dX1_desiredTop_17 : decode cX1_desiredTop 17 = .ok (.isub, 1) := by decide +kernel
theorem dX1_desiredTop_18 : decode cX1_desiredTop 18 = .ok (.invokestatic 126, 3) := by decide +kernel
theorem dX1_desiredTop_21 : decode cX1_desiredTop 21 = .ok (.istore_n 2, 1) := by decide +kernel
theorem dX1_desiredTop_22 : decode cX1_desiredTop 22 = .ok (.bipush 100, 2) := by decide +kernel
theorem dX1_desiredTop_24 : decode cX1_desiredTop 24 = .ok (.aload_n 0, 1) := by decide +kernel
theorem dX1_desiredTop_25 : decode cX1_desiredTop 25 = .ok (.getfield 18, 3) := by decide +kernel
theorem dX1_desiredTop_28 : decode cX1_desiredTop 28 = .ok (.getfield 180, 3) := by decide +kernel
theorem dX1_desiredTop_31 : decode cX1_desiredTop 31 = .ok (.iload_n 1, 1) := by decide +kernel
theorem dX1_desiredTop_32 : decode cX1_desiredTop 32 = .ok (.invokestatic 77, 3) := by decide +kernel
theorem dX1_desiredTop_35 : decode cX1_desiredTop 35 = .ok (.iload_n 2, 1) := by decide +kernel
theorem dX1_desiredTop_36 : decode cX1_desiredTop 36 = .ok (.isub, 1) := by decide +kernel
theorem dX1_desiredTop_37 : decode cX1_desiredTop 37 = .ok (.imul, 1) := by decide +kernel
theorem dX1_desiredTop_38 : decode cX1_desiredTop 38 = .ok (.iconst 0, 1) := by decide +kernel
theorem dX1_desiredTop_39 : decode cX1_desiredTop 39 = .ok (.aload_n 0, 1) := by decide +kernel
theorem dX1_desiredTop_40 : decode cX1_desiredTop 40 = .ok (.invokevirtual 92, 3) := by decide +kernel
theorem dX1_desiredTop_43 : decode cX1_desiredTop 43 = .ok (.invokestatic 96, 3) := by decide +kernel
theorem dX1_desiredTop_46 : decode cX1_desiredTop 46 = .ok (.ireturn, 1) := by decide +kernel
set_option maxRecDepth 20000 in
theorem ggX1_shows_X1_lowestShown : GoodIn wsX1_shows wsX1_lowestShown := goodIn_r _ [6, 7, 8, 9, 10, 11, 12, 13, 14, 15, 16, 17, 18, 19, 20, 21, 22, 23, 24, 25] (by decide +kernel) (by decide +kernel)
set_option maxRecDepth 20000 in
theorem gX1_shows_X1_lowestShown : GoodIn wsX1_shows (wsV RX1 183 RX1 yX1_lowestShown wsX1_lowestShown) := goodIn_app (goodIn_of _ (by decide +kernel)) ggX1_shows_X1_lowestShown
theorem dX1_shows_0 : decode cX1_shows 0 = .ok (.bipush 100, 2) := by decide +kernel
theorem dX1_shows_2 : decode cX1_shows 2 = .ok (.iload_n 1, 1) := by decide +kernel
theorem dX1_shows_3 : decode cX1_shows 3 = .ok (.imul, 1) := by decide +kernel
theorem dX1_shows_4 : decode cX1_shows 4 = .ok (.aload_n 0, 1) := by decide +kernel
theorem dX1_shows_5 : decode cX1_shows 5 = .ok (.getfield 59, 3) := by decide +kernel
theorem dX1_shows_8 : decode cX1_shows 8 = .ok (.if_icmp .lt 23, 3) := by decide +kernel
theorem dX1_shows_11 : decode cX1_shows 11 = .ok (.bipush 100, 2) := by decide +kernel
theorem dX1_shows_13 : decode cX1_shows 13 = .ok (.iload_n 1, 1) := by decide +kernel
theorem dX1_shows_14 : decode cX1_shows 14 = .ok (.imul, 1) := by decide +kernel
theorem dX1_shows_15 : decode cX1_shows 15 = .ok (.aload_n 0, 1) := by decide +kernel
theorem dX1_shows_16 : decode cX1_shows 16 = .ok (.getfield 59, 3) := by decide +kernel
theorem dX1_shows_19 : decode cX1_shows 19 = .ok (.aload_n 0, 1) := by decide +kernel
theorem dX1_shows_20 : decode cX1_shows 20 = .ok (.invokevirtual 183, 3) := by decide +kernel
theorem dX1_shows_23 : decode cX1_shows 23 = .ok (.iadd, 1) := by decide +kernel
theorem dX1_shows_24 : decode cX1_shows 24 = .ok (.if_icmp .gt 7, 3) := by decide +kernel
theorem dX1_shows_27 : decode cX1_shows 27 = .ok (.iconst 1, 1) := by decide +kernel
theorem dX1_shows_28 : decode cX1_shows 28 = .ok (.goto 4, 3) := by decide +kernel
theorem dX1_shows_31 : decode cX1_shows 31 = .ok (.iconst 0, 1) := by decide +kernel
theorem dX1_shows_32 : decode cX1_shows 32 = .ok (.ireturn, 1) := by decide +kernel
set_option maxRecDepth 20000 in
theorem ggX1_lowestShown_X3_at : GoodIn wsX1_lowestShown wsX3_at := goodIn_r _ [4] (by decide +kernel) (by decide +kernel)
set_option maxRecDepth 20000 in
theorem gX1_lowestShown_X3_at_n77 : GoodIn wsX1_lowestShown (wsX3_at) := ggX1_lowestShown_X3_at
theorem dX1_lowestShown_0 : decode cX1_lowestShown 0 = .ok (.bipush 100, 2) := by decide +kernel
theorem dX1_lowestShown_2 : decode cX1_lowestShown 2 = .ok (.aload_n 0, 1) := by decide +kernel
theorem dX1_lowestShown_3 : decode cX1_lowestShown 3 = .ok (.getfield 9, 3) := by decide +kernel
theorem dX1_lowestShown_6 : decode cX1_lowestShown 6 = .ok (.iconst 1, 1) := by decide +kernel
theorem dX1_lowestShown_7 : decode cX1_lowestShown 7 = .ok (.invokestatic 77, 3) := by decide +kernel
theorem dX1_lowestShown_10 : decode cX1_lowestShown 10 = .ok (.iconst 1, 1) := by decide +kernel
theorem dX1_lowestShown_11 : decode cX1_lowestShown 11 = .ok (.isub, 1) := by decide +kernel
theorem dX1_lowestShown_12 : decode cX1_lowestShown 12 = .ok (.imul, 1) := by decide +kernel
theorem dX1_lowestShown_13 : decode cX1_lowestShown 13 = .ok (.ireturn, 1) := by decide +kernel
set_option maxRecDepth 20000 in
theorem ggX1_passTime_X1_holdingWord : GoodIn wsX1_passTime wsX1_holdingWord := goodIn_r _ [7, 8, 9, 10, 11, 12, 13, 14, 15, 16, 17, 18, 19, 69, 70, 71, 72, 73, 74, 75, 76, 77, 78, 79, 80, 81, 82, 83, 84, 85, 86, 87, 88, 89, 90, 91, 92] (by decide +kernel) (by decide +kernel)
set_option maxRecDepth 20000 in
theorem gX1_passTime_X1_holdingWord : GoodIn wsX1_passTime (wsV RX1 164 RX1 yX1_holdingWord wsX1_holdingWord) := goodIn_app (goodIn_of _ (by decide +kernel)) ggX1_passTime_X1_holdingWord
set_option maxRecDepth 20000 in
theorem ggX1_passTime_X1_estimate : GoodIn wsX1_passTime wsX1_estimate := goodIn_r _ [23, 2, 24, 25, 26, 27, 28, 29, 30, 31, 32, 33, 34, 35, 17, 18, 19, 69, 70, 71, 72, 73, 74, 75, 76, 77, 78, 79, 80, 81, 82, 83] (by decide +kernel) (by decide +kernel)
set_option maxRecDepth 20000 in
theorem gX1_passTime_X1_estimate : GoodIn wsX1_passTime (wsV RX1 167 RX1 yX1_estimate wsX1_estimate) := goodIn_app (goodIn_of _ (by decide +kernel)) ggX1_passTime_X1_estimate
set_option maxRecDepth 20000 in
theorem ggX1_passTime_X1_scrollTo : GoodIn wsX1_passTime wsX1_scrollTo := goodIn_r _ [39, 25, 40, 8, 41, 1, 17, 18, 19, 42, 43, 44, 6, 45, 46, 47, 31, 48, 49, 50, 51, 52, 53, 54, 55, 56, 57, 58, 59, 60, 61, 62, 63, 64, 65, 66, 67, 68, 69, 70, 71, 72, 73, 74, 75, 76, 77, 78, 79, 80, 81, 82, 83, 84, 85, 86, 87, 88, 89, 90, 91, 92] (by decide +kernel) (by decide +kernel)
set_option maxRecDepth 20000 in
theorem gX1_passTime_X1_scrollTo : GoodIn wsX1_passTime (wsV RX1 186 RX1 yX1_scrollTo wsX1_scrollTo) := goodIn_app (goodIn_of _ (by decide +kernel)) ggX1_passTime_X1_scrollTo
theorem dX1_passTime_0 : decode cX1_passTime 0 = .ok (.aload_n 0, 1) := by decide +kernel
theorem dX1_passTime_1 : decode cX1_passTime 1 = .ok (.getfield 71, 3) := by decide +kernel
theorem dX1_passTime_4 : decode cX1_passTime 4 = .ok (.istore_n 2, 1) := by decide +kernel
theorem dX1_passTime_5 : decode cX1_passTime 5 = .ok (.aload_n 0, 1) := by decide +kernel
theorem dX1_passTime_6 : decode cX1_passTime 6 = .ok (.invokevirtual 164, 3) := by decide +kernel
theorem dX1_passTime_9 : decode cX1_passTime 9 = .ok (.istore_n 3, 1) := by decide +kernel
theorem dX1_passTime_10 : decode cX1_passTime 10 = .ok (.iconst 0, 1) := by decide +kernel
theorem dX1_passTime_11 : decode cX1_passTime 11 = .ok (.istore 4, 2) := by decide +kernel
theorem dX1_passTime_13 : decode cX1_passTime 13 = .ok (.iload 4, 2) := by decide +kernel
theorem dX1_passTime_15 : decode cX1_passTime 15 = .ok (.iload_n 1, 1) := by decide +kernel
theorem dX1_passTime_16 : decode cX1_passTime 16 = .ok (.if_icmp .ge 29, 3) := by decide +kernel
theorem dX1_passTime_19 : decode cX1_passTime 19 = .ok (.aload_n 0, 1) := by decide +kernel
theorem dX1_passTime_20 : decode cX1_passTime 20 = .ok (.dup, 1) := by decide +kernel
theorem dX1_passTime_21 : decode cX1_passTime 21 = .ok (.getfield 53, 3) := by decide +kernel
theorem dX1_passTime_24 : decode cX1_passTime 24 = .ok (.iconst 1, 1) := by decide +kernel
theorem dX1_passTime_25 : decode cX1_passTime 25 = .ok (.iadd, 1) := by decide +kernel
theorem dX1_passTime_26 : decode cX1_passTime 26 = .ok (.putfield 53, 3) := by decide +kernel
theorem dX1_passTime_29 : decode cX1_passTime 29 = .ok (.aload_n 0, 1) := by decide +kernel
theorem dX1_passTime_30 : decode cX1_passTime 30 = .ok (.aload_n 0, 1) := by decide +kernel
theorem dX1_passTime_31 : decode cX1_passTime 31 = .ok (.iconst 0, 1) := by decide +kernel
theorem dX1_passTime_32 : decode cX1_passTime 32 = .ok (.iload_n 3, 1) := by decide +kernel
theorem dX1_passTime_33 : decode cX1_passTime 33 = .ok (.invokevirtual 167, 3) := by decide +kernel
theorem dX1_passTime_36 : decode cX1_passTime 36 = .ok (.invokevirtual 186, 3) := by decide +kernel
theorem dX1_passTime_39 : decode cX1_passTime 39 = .ok (.iinc 4 1, 3) := by decide +kernel
theorem dX1_passTime_42 : decode cX1_passTime 42 = .ok (.goto (-29), 3) := by decide +kernel
theorem dX1_passTime_45 : decode cX1_passTime 45 = .ok (.aload_n 0, 1) := by decide +kernel
theorem dX1_passTime_46 : decode cX1_passTime 46 = .ok (.getfield 71, 3) := by decide +kernel
theorem dX1_passTime_49 : decode cX1_passTime 49 = .ok (.iload_n 2, 1) := by decide +kernel
theorem dX1_passTime_50 : decode cX1_passTime 50 = .ok (.isub, 1) := by decide +kernel
theorem dX1_passTime_51 : decode cX1_passTime 51 = .ok (.ireturn, 1) := by decide +kernel
set_option maxRecDepth 20000 in
theorem ggX1_scrollTo_X3_at : GoodIn wsX1_scrollTo wsX3_at := goodIn_r _ [8] (by decide +kernel) (by decide +kernel)
set_option maxRecDepth 20000 in
theorem gX1_scrollTo_X3_at_n77 : GoodIn wsX1_scrollTo (wsX3_at) := ggX1_scrollTo_X3_at
set_option maxRecDepth 20000 in
theorem ggX1_scrollTo_X1_desiredTop : GoodIn wsX1_scrollTo wsX1_desiredTop := goodIn_r _ [13, 1, 14, 15, 16, 17, 3, 4, 6, 7, 8, 18, 19, 20, 12, 21, 22, 23, 24, 25, 26, 27, 28, 29, 38, 39, 40, 41, 42, 43, 44, 45, 46, 47, 48, 49, 50, 51, 52, 53, 54, 55, 56, 57, 58, 59, 60, 61] (by decide +kernel) (by decide +kernel)
set_option maxRecDepth 20000 in
theorem gX1_scrollTo_X1_desiredTop : GoodIn wsX1_scrollTo (wsV RX1 189 RX1 yX1_desiredTop wsX1_desiredTop) := goodIn_app (goodIn_of _ (by decide +kernel)) ggX1_scrollTo_X1_desiredTop
set_option maxRecDepth 20000 in
theorem ggX1_scrollTo_X3_limited : GoodIn wsX1_scrollTo wsX3_limited := goodIn_r _ [27, 28, 15, 16, 17, 29, 24, 25] (by decide +kernel) (by decide +kernel)
set_option maxRecDepth 20000 in
theorem gX1_scrollTo_X3_limited_n96 : GoodIn wsX1_scrollTo (wsX3_limited) := ggX1_scrollTo_X3_limited
set_option maxRecDepth 20000 in
theorem ggX1_scrollTo_X1_shows : GoodIn wsX1_scrollTo wsX1_shows := goodIn_r _ [33, 2, 34, 35, 36, 12, 37, 1, 6, 7, 8, 38, 39, 40, 41, 42, 43, 44, 45, 46, 47, 48, 49, 50, 51, 52] (by decide +kernel) (by decide +kernel)
set_option maxRecDepth 20000 in
theorem gX1_scrollTo_X1_shows : GoodIn wsX1_scrollTo (wsV RX1 192 RX1 yX1_shows wsX1_shows) := goodIn_app (goodIn_of _ (by decide +kernel)) ggX1_scrollTo_X1_shows
set_option maxRecDepth 20000 in
theorem ggX1_scrollTo_X1_lowestShown : GoodIn wsX1_scrollTo wsX1_lowestShown := goodIn_r _ [37, 1, 6, 7, 8, 38, 39, 40, 41, 42, 43, 44, 45, 46, 47, 48, 49, 50, 51, 52] (by decide +kernel) (by decide +kernel)
set_option maxRecDepth 20000 in
theorem gX1_scrollTo_X1_lowestShown : GoodIn wsX1_scrollTo (wsV RX1 183 RX1 yX1_lowestShown wsX1_lowestShown) := goodIn_app (goodIn_of _ (by decide +kernel)) ggX1_scrollTo_X1_lowestShown
theorem dX1_scrollTo_0 : decode cX1_scrollTo 0 = .ok (.aload_n 0, 1) := by decide +kernel
theorem dX1_scrollTo_1 : decode cX1_scrollTo 1 = .ok (.getfield 9, 3) := by decide +kernel
theorem dX1_scrollTo_4 : decode cX1_scrollTo 4 = .ok (.bipush 7, 2) := by decide +kernel
theorem dX1_scrollTo_6 : decode cX1_scrollTo 6 = .ok (.invokestatic 77, 3) := by decide +kernel
theorem dX1_scrollTo_9 : decode cX1_scrollTo 9 = .ok (.istore_n 2, 1) := by decide +kernel
theorem dX1_scrollTo_10 : decode cX1_scrollTo 10 = .ok (.aload_n 0, 1) := by decide +kernel
theorem dX1_scrollTo_11 : decode cX1_scrollTo 11 = .ok (.dup, 1) := by decide +kernel
theorem dX1_scrollTo_12 : decode cX1_scrollTo 12 = .ok (.getfield 59, 3) := by decide +kernel
theorem dX1_scrollTo_15 : decode cX1_scrollTo 15 = .ok (.aload_n 0, 1) := by decide +kernel
theorem dX1_scrollTo_16 : decode cX1_scrollTo 16 = .ok (.iload_n 1, 1) := by decide +kernel
theorem dX1_scrollTo_17 : decode cX1_scrollTo 17 = .ok (.invokevirtual 189, 3) := by decide +kernel
theorem dX1_scrollTo_20 : decode cX1_scrollTo 20 = .ok (.aload_n 0, 1) := by decide +kernel
theorem dX1_scrollTo_21 : decode cX1_scrollTo 21 = .ok (.getfield 59, 3) := by decide +kernel
theorem dX1_scrollTo_24 : decode cX1_scrollTo 24 = .ok (.isub, 1) := by decide +kernel
theorem dX1_scrollTo_25 : decode cX1_scrollTo 25 = .ok (.iload_n 2, 1) := by decide +kernel
theorem dX1_scrollTo_26 : decode cX1_scrollTo 26 = .ok (.ineg, 1) := by decide +kernel
theorem dX1_scrollTo_27 : decode cX1_scrollTo 27 = .ok (.iload_n 2, 1) := by decide +kernel
theorem dX1_scrollTo_28 : decode cX1_scrollTo 28 = .ok (.invokestatic 96, 3) := by decide +kernel
theorem dX1_scrollTo_31 : decode cX1_scrollTo 31 = .ok (.iadd, 1) := by decide +kernel
theorem dX1_scrollTo_32 : decode cX1_scrollTo 32 = .ok (.putfield 59, 3) := by decide +kernel
theorem dX1_scrollTo_35 : decode cX1_scrollTo 35 = .ok (.aload_n 0, 1) := by decide +kernel
theorem dX1_scrollTo_36 : decode cX1_scrollTo 36 = .ok (.getfield 18, 3) := by decide +kernel
theorem dX1_scrollTo_39 : decode cX1_scrollTo 39 = .ok (.getfield 180, 3) := by decide +kernel
theorem dX1_scrollTo_42 : decode cX1_scrollTo 42 = .ok (.iload_n 1, 1) := by decide +kernel
theorem dX1_scrollTo_43 : decode cX1_scrollTo 43 = .ok (.invokestatic 77, 3) := by decide +kernel
theorem dX1_scrollTo_46 : decode cX1_scrollTo 46 = .ok (.istore_n 3, 1) := by decide +kernel
theorem dX1_scrollTo_47 : decode cX1_scrollTo 47 = .ok (.aload_n 0, 1) := by decide +kernel
theorem dX1_scrollTo_48 : decode cX1_scrollTo 48 = .ok (.iload_n 3, 1) := by decide +kernel
theorem dX1_scrollTo_49 : decode cX1_scrollTo 49 = .ok (.invokevirtual 192, 3) := by decide +kernel
theorem dX1_scrollTo_52 : decode cX1_scrollTo 52 = .ok (.ifCond .ne 37, 3) := by decide +kernel
theorem dX1_scrollTo_55 : decode cX1_scrollTo 55 = .ok (.aload_n 0, 1) := by decide +kernel
theorem dX1_scrollTo_56 : decode cX1_scrollTo 56 = .ok (.aload_n 0, 1) := by decide +kernel
theorem dX1_scrollTo_57 : decode cX1_scrollTo 57 = .ok (.getfield 59, 3) := by decide +kernel
theorem dX1_scrollTo_60 : decode cX1_scrollTo 60 = .ok (.bipush 100, 2) := by decide +kernel
theorem dX1_scrollTo_62 : decode cX1_scrollTo 62 = .ok (.iload_n 3, 1) := by decide +kernel
theorem dX1_scrollTo_63 : decode cX1_scrollTo 63 = .ok (.imul, 1) := by decide +kernel
theorem dX1_scrollTo_64 : decode cX1_scrollTo 64 = .ok (.aload_n 0, 1) := by decide +kernel
theorem dX1_scrollTo_65 : decode cX1_scrollTo 65 = .ok (.invokevirtual 183, 3) := by decide +kernel
theorem dX1_scrollTo_68 : decode cX1_scrollTo 68 = .ok (.isub, 1) := by decide +kernel
theorem dX1_scrollTo_69 : decode cX1_scrollTo 69 = .ok (.bipush 100, 2) := by decide +kernel
theorem dX1_scrollTo_71 : decode cX1_scrollTo 71 = .ok (.iload_n 3, 1) := by decide +kernel
theorem dX1_scrollTo_72 : decode cX1_scrollTo 72 = .ok (.imul, 1) := by decide +kernel
theorem dX1_scrollTo_73 : decode cX1_scrollTo 73 = .ok (.invokestatic 96, 3) := by decide +kernel
theorem dX1_scrollTo_76 : decode cX1_scrollTo 76 = .ok (.putfield 59, 3) := by decide +kernel
theorem dX1_scrollTo_79 : decode cX1_scrollTo 79 = .ok (.aload_n 0, 1) := by decide +kernel
