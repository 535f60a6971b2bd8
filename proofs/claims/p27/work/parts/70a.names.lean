theorem dL_cell_0 : decode cL_cell 0 = .ok (.iload_n 1, 1) := by decide +kernel
theorem dL_cell_1 : decode cL_cell 1 = .ok (.aload_n 0, 1) := by decide +kernel
theorem dL_cell_2 : decode cL_cell 2 = .ok (.arraylength, 1) := by decide +kernel
theorem dL_cell_3 : decode cL_cell 3 = .ok (.if_icmp .ge 9, 3) := by decide +kernel
theorem dL_cell_6 : decode cL_cell 6 = .ok (.aload_n 0, 1) := by decide +kernel
theorem dL_cell_7 : decode cL_cell 7 = .ok (.iload_n 1, 1) := by decide +kernel
theorem dL_cell_8 : decode cL_cell 8 = .ok (.iaload, 1) := by decide +kernel
theorem dL_cell_9 : decode cL_cell 9 = .ok (.goto 9, 3) := by decide +kernel
theorem dL_cell_12 : decode cL_cell 12 = .ok (.ldc 7, 2) := by decide +kernel
theorem dL_cell_14 : decode cL_cell 14 = .ok (.iload_n 1, 1) := by decide +kernel
theorem dL_cell_15 : decode cL_cell 15 = .ok (.iconst 1, 1) := by decide +kernel
theorem dL_cell_16 : decode cL_cell 16 = .ok (.iadd, 1) := by decide +kernel
theorem dL_cell_17 : decode cL_cell 17 = .ok (.imul, 1) := by decide +kernel
theorem dL_cell_18 : decode cL_cell 18 = .ok (.ireturn, 1) := by decide +kernel
theorem dL_low_0 : decode cL_low 0 = .ok (.iload_n 0, 1) := by decide +kernel
theorem dL_low_1 : decode cL_low 1 = .ok (.ldc 8, 2) := by decide +kernel
theorem dL_low_3 : decode cL_low 3 = .ok (.iand, 1) := by decide +kernel
theorem dL_low_4 : decode cL_low 4 = .ok (.iload_n 1, 1) := by decide +kernel
theorem dL_low_5 : decode cL_low 5 = .ok (.irem, 1) := by decide +kernel
theorem dL_low_6 : decode cL_low 6 = .ok (.ireturn, 1) := by decide +kernel
set_option maxRecDepth 20000 in
theorem ggL_load_X3_wipe : GoodIn wsL_load wsX3_wipe := goodIn_r _ [5, 6, 139, 140, 141, 142, 143, 144, 145, 146, 147, 148, 149] (by decide +kernel) (by decide +kernel)
set_option maxRecDepth 20000 in
theorem gL_load_X3_wipe : GoodIn wsL_load (wsV RL 9 RX3 yX3_wipe wsX3_wipe) := goodIn_app (goodIn_of _ (by decide +kernel)) ggL_load_X3_wipe
set_option maxRecDepth 20000 in
theorem ggL_load_L_low : GoodIn wsL_load wsL_low := goodIn_r _ [10, 11] (by decide +kernel) (by decide +kernel)
set_option maxRecDepth 20000 in
theorem gL_load_L_low : GoodIn wsL_load (va_wsS RL 15 yL_low wsL_low) := goodIn_app (goodIn_of _ (by decide +kernel)) ggL_load_L_low
set_option maxRecDepth 20000 in
theorem ggL_load_X3_write : GoodIn wsL_load wsX3_write := goodIn_r _ [15, 6, 16, 17, 18, 4, 19, 139, 140, 141, 142, 143, 144, 145, 146, 147, 148, 149] (by decide +kernel) (by decide +kernel)
set_option maxRecDepth 20000 in
theorem gL_load_X3_write : GoodIn wsL_load (wsV RL 21 RX3 yX3_write wsX3_write) := goodIn_app (goodIn_of _ (by decide +kernel)) ggL_load_X3_write
set_option maxRecDepth 20000 in
theorem ggL_load_X3_load : GoodIn wsL_load wsX3_load := goodIn_r _ [23, 24, 25, 26, 27, 28, 29, 30, 4, 31, 6, 16, 32, 33, 34, 35, 36, 37, 38, 39, 40, 41, 42, 43, 44, 45, 46, 47, 48, 49, 50, 51, 52, 53, 54, 55, 56, 57, 58, 18, 19, 59, 60, 61, 62, 63, 64, 65, 66, 67, 68, 69, 70, 71, 72, 73, 74, 75, 76, 77, 78, 79, 80, 81, 82, 83, 84, 85, 86, 87, 88, 89, 90, 91, 92, 93, 94, 95, 96, 97, 98, 99, 100, 101, 102, 103, 104, 105, 106, 107, 108, 109, 110, 111, 112, 113, 114, 115, 116, 117, 118, 119, 120, 121, 122, 123, 124, 125, 126, 127, 128, 129, 130, 131, 132, 133, 134, 135, 136, 137, 138, 139, 140, 141, 142, 143, 144, 145, 146, 147, 148, 149, 150, 151, 152, 153, 154, 155, 156, 157, 158, 159, 160, 161, 162, 163, 164, 165, 166, 167, 168, 169, 170, 171, 172, 173, 174, 175, 176] (by decide +kernel) (by decide +kernel)
set_option maxRecDepth 20000 in
theorem gL_load_X3_load : GoodIn wsL_load (wsV RL 25 RX3 yX3_load wsX3_load) := goodIn_app (goodIn_of _ (by decide +kernel)) ggL_load_X3_load
theorem dL_load_0 : decode cL_load 0 = .ok (.aload_n 0, 1) := by decide +kernel
theorem dL_load_1 : decode cL_load 1 = .ok (.invokevirtual 9, 3) := by decide +kernel
theorem dL_load_4 : decode cL_load 4 = .ok (.istore_n 3, 1) := by decide +kernel
theorem dL_load_5 : decode cL_load 5 = .ok (.iconst 1, 1) := by decide +kernel
theorem dL_load_6 : decode cL_load 6 = .ok (.iload_n 1, 1) := by decide +kernel
theorem dL_load_7 : decode cL_load 7 = .ok (.bipush 90, 2) := by decide +kernel
theorem dL_load_9 : decode cL_load 9 = .ok (.invokestatic 15, 3) := by decide +kernel
theorem dL_load_12 : decode cL_load 12 = .ok (.iadd, 1) := by decide +kernel
theorem dL_load_13 : decode cL_load 13 = .ok (.istore 4, 2) := by decide +kernel
theorem dL_load_15 : decode cL_load 15 = .ok (.iconst 0, 1) := by decide +kernel
theorem dL_load_16 : decode cL_load 16 = .ok (.istore 5, 2) := by decide +kernel
theorem dL_load_18 : decode cL_load 18 = .ok (.iload 5, 2) := by decide +kernel
theorem dL_load_20 : decode cL_load 20 = .ok (.iload 4, 2) := by decide +kernel
theorem dL_load_22 : decode cL_load 22 = .ok (.if_icmp .ge 98, 3) := by decide +kernel
theorem dL_load_25 : decode cL_load 25 = .ok (.aload_n 0, 1) := by decide +kernel
theorem dL_load_26 : decode cL_load 26 = .ok (.bipush 97, 2) := by decide +kernel
theorem dL_load_28 : decode cL_load 28 = .ok (.iload_n 2, 1) := by decide +kernel
theorem dL_load_29 : decode cL_load 29 = .ok (.iload 5, 2) := by decide +kernel
theorem dL_load_31 : decode cL_load 31 = .ok (.bipush 23, 2) := by decide +kernel
theorem dL_load_33 : decode cL_load 33 = .ok (.irem, 1) := by decide +kernel
theorem dL_load_34 : decode cL_load 34 = .ok (.ishr, 1) := by decide +kernel
theorem dL_load_35 : decode cL_load 35 = .ok (.iconst 2, 1) := by decide +kernel
theorem dL_load_36 : decode cL_load 36 = .ok (.iload_n 1, 1) := by decide +kernel
theorem dL_load_37 : decode cL_load 37 = .ok (.bipush 8, 2) := by decide +kernel
theorem dL_load_39 : decode cL_load 39 = .ok (.ishr, 1) := by decide +kernel
theorem dL_load_40 : decode cL_load 40 = .ok (.iconst 4, 1) := by decide +kernel
theorem dL_load_41 : decode cL_load 41 = .ok (.invokestatic 15, 3) := by decide +kernel
theorem dL_load_44 : decode cL_load 44 = .ok (.iadd, 1) := by decide +kernel
theorem dL_load_45 : decode cL_load 45 = .ok (.invokestatic 15, 3) := by decide +kernel
theorem dL_load_48 : decode cL_load 48 = .ok (.iadd, 1) := by decide +kernel
theorem dL_load_49 : decode cL_load 49 = .ok (.invokevirtual 21, 3) := by decide +kernel
theorem dL_load_52 : decode cL_load 52 = .ok (.istore_n 3, 1) := by decide +kernel
theorem dL_load_53 : decode cL_load 53 = .ok (.iload_n 1, 1) := by decide +kernel
theorem dL_load_54 : decode cL_load 54 = .ok (.iload 5, 2) := by decide +kernel
theorem dL_load_56 : decode cL_load 56 = .ok (.bipush 19, 2) := by decide +kernel
theorem dL_load_58 : decode cL_load 58 = .ok (.irem, 1) := by decide +kernel
theorem dL_load_59 : decode cL_load 59 = .ok (.ishr, 1) := by decide +kernel
theorem dL_load_60 : decode cL_load 60 = .ok (.bipush 11, 2) := by decide +kernel
theorem dL_load_62 : decode cL_load 62 = .ok (.invokestatic 15, 3) := by decide +kernel
theorem dL_load_65 : decode cL_load 65 = .ok (.ifCond .ne 12, 3) := by decide +kernel
theorem dL_load_68 : decode cL_load 68 = .ok (.aload_n 0, 1) := by decide +kernel
theorem dL_load_69 : decode cL_load 69 = .ok (.bipush 47, 2) := by decide +kernel
theorem dL_load_71 : decode cL_load 71 = .ok (.invokevirtual 21, 3) := by decide +kernel
theorem dL_load_74 : decode cL_load 74 = .ok (.goto 4, 3) := by decide +kernel
theorem dL_load_77 : decode cL_load 77 = .ok (.iload_n 3, 1) := by decide +kernel
theorem dL_load_78 : decode cL_load 78 = .ok (.istore_n 3, 1) := by decide +kernel
theorem dL_load_79 : decode cL_load 79 = .ok (.iload 5, 2) := by decide +kernel
theorem dL_load_81 : decode cL_load 81 = .ok (.iconst 1, 1) := by decide +kernel
theorem dL_load_82 : decode cL_load 82 = .ok (.iadd, 1) := by decide +kernel
theorem dL_load_83 : decode cL_load 83 = .ok (.iload 4, 2) := by decide +kernel
theorem dL_load_85 : decode cL_load 85 = .ok (.if_icmp .ge 27, 3) := by decide +kernel
theorem dL_load_88 : decode cL_load 88 = .ok (.iload_n 2, 1) := by decide +kernel
theorem dL_load_89 : decode cL_load 89 = .ok (.iload 5, 2) := by decide +kernel
theorem dL_load_91 : decode cL_load 91 = .ok (.bipush 17, 2) := by decide +kernel
theorem dL_load_93 : decode cL_load 93 = .ok (.irem, 1) := by decide +kernel
theorem dL_load_94 : decode cL_load 94 = .ok (.ishr, 1) := by decide +kernel
theorem dL_load_95 : decode cL_load 95 = .ok (.bipush 13, 2) := by decide +kernel
theorem dL_load_97 : decode cL_load 97 = .ok (.invokestatic 15, 3) := by decide +kernel
theorem dL_load_100 : decode cL_load 100 = .ok (.ifCond .ne 12, 3) := by decide +kernel
theorem dL_load_103 : decode cL_load 103 = .ok (.aload_n 0, 1) := by decide +kernel
theorem dL_load_104 : decode cL_load 104 = .ok (.bipush 124, 2) := by decide +kernel
theorem dL_load_106 : decode cL_load 106 = .ok (.invokevirtual 21, 3) := by decide +kernel
theorem dL_load_109 : decode cL_load 109 = .ok (.goto 4, 3) := by decide +kernel
theorem dL_load_112 : decode cL_load 112 = .ok (.iload_n 3, 1) := by decide +kernel
theorem dL_load_113 : decode cL_load 113 = .ok (.istore_n 3, 1) := by decide +kernel
theorem dL_load_114 : decode cL_load 114 = .ok (.iinc 5 1, 3) := by decide +kernel
theorem dL_load_117 : decode cL_load 117 = .ok (.goto (-99), 3) := by decide +kernel
theorem dL_load_120 : decode cL_load 120 = .ok (.aload_n 0, 1) := by decide +kernel
theorem dL_load_121 : decode cL_load 121 = .ok (.invokevirtual 25, 3) := by decide +kernel
theorem dL_load_124 : decode cL_load 124 = .ok (.ireturn, 1) := by decide +kernel
set_option maxRecDepth 20000 in
theorem ggL_change_X3_told : GoodIn wsL_change wsX3_told := goodIn_r _ [5, 6, 7, 8, 9, 10, 11, 12, 13, 14, 15, 16, 17, 18, 19, 20, 21, 22, 23, 24, 25, 26, 27, 28, 29, 30, 31, 4, 32, 33, 34, 35, 36, 37, 38, 39, 40, 41, 42, 43, 44, 45, 46, 47, 48, 49, 50, 51, 52, 53, 54, 55, 56, 57, 58, 59, 60, 61, 62, 63, 64, 65, 66, 67, 68, 69, 70, 71, 72, 73, 74, 75, 76, 77, 78, 79, 80, 81, 82, 83, 84, 85, 337, 338, 339, 340, 341, 342, 343, 344, 345, 346, 347, 348, 349, 350, 351, 352, 353, 354, 355, 356, 357, 358, 359, 360, 361, 362, 363, 364, 365, 366, 367, 368, 369, 370, 371, 372, 373, 374] (by decide +kernel) (by decide +kernel)
set_option maxRecDepth 20000 in
theorem gL_change_X3_told : GoodIn wsL_change (wsV RL 28 RX3 yX3_told wsX3_told) := goodIn_app (goodIn_of _ (by decide +kernel)) ggL_change_X3_told
set_option maxRecDepth 20000 in
theorem ggL_change_L_low : GoodIn wsL_change wsL_low := goodIn_r _ [89, 90] (by decide +kernel) (by decide +kernel)
set_option maxRecDepth 20000 in
theorem gL_change_L_low : GoodIn wsL_change (va_wsS RL 15 yL_low wsL_low) := goodIn_app (goodIn_of _ (by decide +kernel)) ggL_change_L_low
set_option maxRecDepth 20000 in
theorem ggL_change_L_load : GoodIn wsL_change wsL_load := goodIn_r _ [93, 94, 95, 96, 4, 97, 98, 86, 87, 88, 89, 90, 99, 100, 101, 102, 103, 104, 105, 106, 107, 108, 109, 110, 6, 111, 7, 8, 112, 113, 114, 115, 116, 117, 118, 119, 120, 121, 27, 122, 29, 123, 124, 125, 31, 32, 126, 127, 128, 129, 130, 131, 132, 133, 134, 135, 136, 137, 30, 138, 139, 140, 141, 142, 143, 144, 145, 146, 147, 148, 149, 23, 150, 151, 152, 153, 154, 155, 156, 157, 158, 159, 160, 161, 162, 36, 163, 54, 42, 164, 165, 166, 56, 57, 52, 53, 167, 168, 169, 170, 171, 172, 173, 174, 83, 70, 60, 71, 175, 176, 177, 178, 179, 180, 181, 182, 183, 184, 185, 186, 187, 188, 189, 190, 191, 192, 193, 194, 195, 196, 197, 198, 199, 200, 201, 202, 203, 204, 205, 337, 338, 339, 340, 341, 342, 343, 344, 345, 346, 347, 348, 349, 350, 351, 352, 353, 354, 355, 356, 357, 358, 359, 360, 361, 362, 363, 364, 365, 366, 367, 368, 369, 370, 371, 372, 373, 374] (by decide +kernel) (by decide +kernel)
set_option maxRecDepth 20000 in
theorem gL_change_L_load : GoodIn wsL_change (va_wsS RL 31 yL_load wsL_load) := goodIn_app (goodIn_of _ (by decide +kernel)) ggL_change_L_load
set_option maxRecDepth 20000 in
theorem ggL_change_X3_set : GoodIn wsL_change wsX3_set := goodIn_r _ [209, 210, 211, 6, 212, 213, 214, 4, 215, 125, 31, 32, 146, 147, 148, 149, 23, 150, 151, 152, 153, 154, 155, 156, 157, 158, 159, 160, 161, 162, 36, 163, 54, 42, 164, 165, 166, 56, 57, 52, 53, 167, 168, 169, 170, 171, 172, 173, 174, 83, 70, 60, 71, 175, 176, 177, 178, 179, 180, 181, 27, 182, 29, 123, 124, 183, 136, 137, 30, 184, 185, 186, 187, 188, 189, 190, 191, 192, 193, 216, 217, 218, 219, 105, 106, 198, 199, 200, 201, 73, 74, 75, 76, 77, 78, 79, 80, 81, 82, 84, 337, 338, 339, 340, 341, 342, 343, 344, 345, 346, 347, 348, 349, 350, 351, 352, 353, 354, 355, 356, 357, 358, 359, 360, 361, 362, 363, 364, 365, 366, 367, 368, 369, 370, 371, 372, 373, 374] (by decide +kernel) (by decide +kernel)
set_option maxRecDepth 20000 in
theorem gL_change_X3_set : GoodIn wsL_change (wsV RL 34 RX3 yX3_set wsX3_set) := goodIn_app (goodIn_of _ (by decide +kernel)) ggL_change_X3_set
set_option maxRecDepth 20000 in
theorem ggL_change_X3_place : GoodIn wsL_change wsX3_place := goodIn_r _ [223, 6, 7, 12, 224, 225, 226, 27, 227, 29, 146, 147, 148, 4, 149, 23, 150, 151, 152, 153, 154, 155, 156, 157, 158, 159, 160, 161, 162, 36, 163, 54, 42, 164, 165, 166, 56, 57, 52, 53, 167, 168, 169, 170, 171, 172, 173, 174, 83, 70, 60, 71, 175, 176, 177, 178, 179, 180, 181, 182, 123, 124, 183, 136, 137, 30, 184, 185, 186, 187, 188, 189, 190, 191, 192, 193, 228, 229, 230, 231, 202, 203, 204, 205, 232, 233, 234, 235, 31, 32, 105, 106, 337, 338, 339, 340, 341, 342, 343, 344, 345, 346, 347, 348, 349, 350, 351, 352, 353, 354, 355, 356, 357, 358, 359, 360, 361, 362, 363, 364, 365, 366, 367, 368, 369, 370, 371, 372, 373, 374] (by decide +kernel) (by decide +kernel)
set_option maxRecDepth 20000 in
theorem gL_change_X3_place : GoodIn wsL_change (wsV RL 37 RX3 yX3_place wsX3_place) := goodIn_app (goodIn_of _ (by decide +kernel)) ggL_change_X3_place
set_option maxRecDepth 20000 in
theorem ggL_change_X3_release : GoodIn wsL_change wsX3_release := goodIn_r _ [239, 6, 7, 85, 45, 46, 27, 47, 29, 30, 31, 4, 32, 146, 147, 148, 149, 23, 150, 151, 152, 153, 154, 155, 156, 157, 158, 159, 160, 161, 162, 36, 163, 54, 42, 164, 165, 166, 56, 57, 52, 53, 167, 168, 169, 170, 171, 172, 173, 174, 83, 70, 60, 71, 175, 176, 177, 178, 179, 180, 181, 182, 123, 124, 183, 136, 137, 184, 185, 186, 187, 188, 189, 190, 191, 192, 193, 240, 241, 242, 243, 105, 106, 337, 338, 339, 340, 341, 342, 343, 344, 345, 346, 347, 348, 349, 350, 351, 352, 353, 354, 355, 356, 357, 358, 359, 360, 361, 362, 363, 364, 365, 366, 367, 368, 369, 370, 371, 372, 373, 374] (by decide +kernel) (by decide +kernel)
set_option maxRecDepth 20000 in
theorem gL_change_X3_release : GoodIn wsL_change (wsV RL 40 RX3 yX3_release wsX3_release) := goodIn_app (goodIn_of _ (by decide +kernel)) ggL_change_X3_release
set_option maxRecDepth 20000 in
theorem ggL_change_X3_undo : GoodIn wsL_change wsX3_undo := goodIn_r _ [247, 23, 6, 150, 155, 156, 157, 4, 158, 159, 160, 161, 162, 36, 163, 54, 42, 164, 165, 166, 56, 57, 52, 53, 167, 168, 169, 170, 171, 172, 173, 174, 83, 70, 60, 71, 175, 176, 177, 178, 179, 180, 181, 27, 182, 29, 123, 124, 183, 136, 137, 30, 184, 185, 186, 187, 188, 189, 190, 191, 192, 193, 337, 338, 339, 340, 341, 342, 343, 344, 345, 346, 347, 348, 349, 350, 351, 352, 353, 354, 355, 356, 357, 358, 359, 360, 361, 362, 363, 364, 365, 366, 367, 368, 369, 370, 371, 372, 373, 374] (by decide +kernel) (by decide +kernel)
set_option maxRecDepth 20000 in
theorem gL_change_X3_undo : GoodIn wsL_change (wsV RL 43 RX3 yX3_undo wsX3_undo) := goodIn_app (goodIn_of _ (by decide +kernel)) ggL_change_X3_undo
set_option maxRecDepth 20000 in
theorem ggL_change_X3_keep : GoodIn wsL_change wsX3_keep := goodIn_r _ [251, 252, 253, 6, 12, 155, 156, 157, 4, 158, 159, 160, 161, 162, 36, 163, 54, 42, 164, 165, 166, 56, 57, 52, 53, 167, 168, 169, 170, 171, 172, 173, 174, 83, 70, 60, 71, 175, 176, 177, 178, 179, 180, 181, 27, 182, 29, 123, 124, 183, 136, 137, 30, 184, 185, 186, 187, 188, 189, 190, 191, 192, 193, 337, 338, 339, 340, 341, 342, 343, 344, 345, 346, 347, 348, 349, 350, 351, 352, 353, 354, 355, 356, 357, 358, 359, 360, 361, 362, 363, 364, 365, 366, 367, 368, 369, 370, 371, 372, 373, 374] (by decide +kernel) (by decide +kernel)
set_option maxRecDepth 20000 in
theorem gL_change_X3_keep : GoodIn wsL_change (wsV RL 46 RX3 yX3_keep wsX3_keep) := goodIn_app (goodIn_of _ (by decide +kernel)) ggL_change_X3_keep
set_option maxRecDepth 20000 in
theorem ggL_change_X3_back : GoodIn wsL_change wsX3_back := goodIn_r _ [257, 252, 6, 253, 12, 146, 147, 148, 4, 149, 23, 150, 151, 152, 153, 154, 155, 156, 157, 158, 159, 160, 161, 162, 36, 163, 54, 42, 164, 165, 166, 56, 57, 52, 53, 167, 168, 169, 170, 171, 172, 173, 174, 83, 70, 60, 71, 175, 176, 177, 178, 179, 180, 181, 27, 182, 29, 123, 124, 183, 136, 137, 30, 184, 185, 186, 187, 188, 189, 190, 191, 192, 193, 337, 338, 339, 340, 341, 342, 343, 344, 345, 346, 347, 348, 349, 350, 351, 352, 353, 354, 355, 356, 357, 358, 359, 360, 361, 362, 363, 364, 365, 366, 367, 368, 369, 370, 371, 372, 373, 374] (by decide +kernel) (by decide +kernel)
set_option maxRecDepth 20000 in
theorem gL_change_X3_back : GoodIn wsL_change (wsV RL 49 RX3 yX3_back wsX3_back) := goodIn_app (goodIn_of _ (by decide +kernel)) ggL_change_X3_back
set_option maxRecDepth 20000 in
theorem ggL_change_X3_hear : GoodIn wsL_change wsX3_hear := goodIn_r _ [261, 6, 12, 262, 130, 4, 131, 146, 147, 148, 149, 23, 150, 151, 152, 153, 154, 155, 156, 157, 158, 159, 160, 161, 162, 36, 163, 54, 42, 164, 165, 166, 56, 57, 52, 53, 167, 168, 169, 170, 171, 172, 173, 174, 83, 70, 60, 71, 175, 176, 177, 178, 179, 180, 181, 27, 182, 29, 123, 124, 183, 136, 137, 30, 184, 185, 186, 187, 188, 189, 190, 191, 192, 193, 263, 264, 265, 266, 267, 268, 269, 270, 78, 79, 80, 43, 69, 271, 31, 32, 272, 273, 274, 275, 276, 277, 278, 279, 280, 281, 282, 283, 284, 285, 286, 287, 288, 289, 290, 202, 203, 204, 205, 291, 292, 293, 294, 105, 106, 295, 296, 297, 298, 299, 300, 301, 302, 303, 304, 305, 306, 337, 338, 339, 340, 341, 342, 343, 344, 345, 346, 347, 348, 349, 350, 351, 352, 353, 354, 355, 356, 357, 358, 359, 360, 361, 362, 363, 364, 365, 366, 367, 368, 369, 370, 371, 372, 373, 374] (by decide +kernel) (by decide +kernel)
set_option maxRecDepth 20000 in
theorem gL_change_X3_hear : GoodIn wsL_change (wsV RL 52 RX3 yX3_hear wsX3_hear) := goodIn_app (goodIn_of _ (by decide +kernel)) ggL_change_X3_hear
set_option maxRecDepth 20000 in
theorem ggL_change_X3_tick : GoodIn wsL_change wsX3_tick := goodIn_r _ [310, 6, 146, 147, 148, 4, 149, 23, 150, 151, 152, 153, 154, 155, 156, 157, 158, 159, 160, 161, 162, 36, 163, 54, 42, 164, 165, 166, 56, 57, 52, 53, 167, 168, 169, 170, 171, 172, 173, 174, 83, 70, 60, 71, 175, 176, 177, 178, 179, 180, 181, 27, 182, 29, 123, 124, 183, 136, 137, 30, 184, 185, 186, 187, 188, 189, 190, 191, 192, 193, 311, 312, 313, 314, 38, 39, 40, 41, 43, 44, 45, 46, 47, 31, 32, 48, 49, 50, 51, 55, 58, 59, 61, 62, 63, 64, 315, 316, 317, 318, 72, 319, 66, 67, 68, 69, 73, 74, 75, 76, 77, 78, 79, 80, 81, 82, 84, 320, 321, 322, 323, 324, 325, 326, 327, 337, 338, 339, 340, 341, 342, 343, 344, 345, 346, 347, 348, 349, 350, 351, 352, 353, 354, 355, 356, 357, 358, 359, 360, 361, 362, 363, 364, 365, 366, 367, 368, 369, 370, 371, 372, 373, 374] (by decide +kernel) (by decide +kernel)
set_option maxRecDepth 20000 in
theorem gL_change_X3_tick : GoodIn wsL_change (wsV RL 55 RX3 yX3_tick wsX3_tick) := goodIn_app (goodIn_of _ (by decide +kernel)) ggL_change_X3_tick
set_option maxRecDepth 20000 in
theorem ggL_change_X3_word : GoodIn wsL_change wsX3_word := goodIn_r _ [331, 6, 7, 332, 333, 334, 335, 224, 225, 226, 27, 227, 29, 125, 31, 4, 32, 336, 321, 322, 36, 323, 167, 324, 325, 326, 327, 54, 337, 338, 339, 340, 341, 342, 343, 344, 345, 346, 347, 348, 349, 350, 351, 352, 353, 354, 355, 356, 357, 358, 359, 360, 361, 362, 363, 364, 365, 366, 367, 368, 369, 370, 371] (by decide +kernel) (by decide +kernel)
set_option maxRecDepth 20000 in
theorem gL_change_X3_word : GoodIn wsL_change (wsV RL 58 RX3 yX3_word wsX3_word) := goodIn_app (goodIn_of _ (by decide +kernel)) ggL_change_X3_word
theorem dL_change_0 : decode cL_change 0 = .ok (.aload_n 0, 1) := by decide +kernel
theorem dL_change_1 : decode cL_change 1 = .ok (.iconst 0, 1) := by decide +kernel
theorem dL_change_2 : decode cL_change 2 = .ok (.invokevirtual 28, 3) := by decide +kernel
theorem dL_change_5 : decode cL_change 5 = .ok (.istore_n 3, 1) := by decide +kernel
theorem dL_change_6 : decode cL_change 6 = .ok (.aload_n 0, 1) := by decide +kernel
theorem dL_change_7 : decode cL_change 7 = .ok (.iconst 5, 1) := by decide +kernel
theorem dL_change_8 : decode cL_change 8 = .ok (.invokevirtual 28, 3) := by decide +kernel
theorem dL_change_11 : decode cL_change 11 = .ok (.istore 4, 2) := by decide +kernel
theorem dL_change_13 : decode cL_change 13 = .ok (.iload_n 1, 1) := by decide +kernel
theorem dL_change_14 : decode cL_change 14 = .ok (.bipush 24, 2) := by decide +kernel
theorem dL_change_16 : decode cL_change 16 = .ok (.invokestatic 15, 3) := by decide +kernel
theorem dL_change_19 : decode cL_change 19 = .ok (.tableswitch 354 0 14 #[73, 80, 94, 134, 174, 216, 258, 268, 273, 278, 312, 326, 326, 326, 326], 73) := by decide +kernel
theorem dL_change_92 : decode cL_change 92 = .ok (.aload_n 0, 1) := by decide +kernel
theorem dL_change_93 : decode cL_change 93 = .ok (.iload_n 2, 1) := by decide +kernel
theorem dL_change_94 : decode cL_change 94 = .ok (.iload_n 1, 1) := by decide +kernel
theorem dL_change_95 : decode cL_change 95 = .ok (.invokestatic 31, 3) := by decide +kernel
theorem dL_change_98 : decode cL_change 98 = .ok (.ireturn, 1) := by decide +kernel
theorem dL_change_99 : decode cL_change 99 = .ok (.aload_n 0, 1) := by decide +kernel
theorem dL_change_100 : decode cL_change 100 = .ok (.iconst 0, 1) := by decide +kernel
theorem dL_change_101 : decode cL_change 101 = .ok (.iconst 1, 1) := by decide +kernel
theorem dL_change_102 : decode cL_change 102 = .ok (.iload_n 2, 1) := by decide +kernel
theorem dL_change_103 : decode cL_change 103 = .ok (.bipush 12, 2) := by decide +kernel
theorem dL_change_105 : decode cL_change 105 = .ok (.invokestatic 15, 3) := by decide +kernel
theorem dL_change_108 : decode cL_change 108 = .ok (.iadd, 1) := by decide +kernel
theorem dL_change_109 : decode cL_change 109 = .ok (.invokevirtual 34, 3) := by decide +kernel
theorem dL_change_112 : decode cL_change 112 = .ok (.ireturn, 1) := by decide +kernel
theorem dL_change_113 : decode cL_change 113 = .ok (.iload_n 2, 1) := by decide +kernel
theorem dL_change_114 : decode cL_change 114 = .ok (.iconst 2, 1) := by decide +kernel
theorem dL_change_115 : decode cL_change 115 = .ok (.invokestatic 15, 3) := by decide +kernel
theorem dL_change_118 : decode cL_change 118 = .ok (.ifCond .ne 21, 3) := by decide +kernel
theorem dL_change_121 : decode cL_change 121 = .ok (.aload_n 0, 1) := by decide +kernel
theorem dL_change_122 : decode cL_change 122 = .ok (.iconst 1, 1) := by decide +kernel
theorem dL_change_123 : decode cL_change 123 = .ok (.iconst 1, 1) := by decide +kernel
theorem dL_change_124 : decode cL_change 124 = .ok (.iload_n 2, 1) := by decide +kernel
theorem dL_change_125 : decode cL_change 125 = .ok (.iconst 1, 1) := by decide +kernel
theorem dL_change_126 : decode cL_change 126 = .ok (.ishr, 1) := by decide +kernel
theorem dL_change_127 : decode cL_change 127 = .ok (.bipush 8, 2) := by decide +kernel
theorem dL_change_129 : decode cL_change 129 = .ok (.invokestatic 15, 3) := by decide +kernel
theorem dL_change_132 : decode cL_change 132 = .ok (.iadd, 1) := by decide +kernel
theorem dL_change_133 : decode cL_change 133 = .ok (.invokevirtual 34, 3) := by decide +kernel
theorem dL_change_136 : decode cL_change 136 = .ok (.goto 16, 3) := by decide +kernel
theorem dL_change_139 : decode cL_change 139 = .ok (.aload_n 0, 1) := by decide +kernel
theorem dL_change_140 : decode cL_change 140 = .ok (.iconst 2, 1) := by decide +kernel
theorem dL_change_141 : decode cL_change 141 = .ok (.iload_n 2, 1) := by decide +kernel
theorem dL_change_142 : decode cL_change 142 = .ok (.iconst 1, 1) := by decide +kernel
theorem dL_change_143 : decode cL_change 143 = .ok (.ishr, 1) := by decide +kernel
theorem dL_change_144 : decode cL_change 144 = .ok (.bipush 8, 2) := by decide +kernel
theorem dL_change_146 : decode cL_change 146 = .ok (.invokestatic 15, 3) := by decide +kernel
theorem dL_change_149 : decode cL_change 149 = .ok (.invokevirtual 34, 3) := by decide +kernel
theorem dL_change_152 : decode cL_change 152 = .ok (.ireturn, 1) := by decide +kernel
theorem dL_change_153 : decode cL_change 153 = .ok (.iload_n 2, 1) := by decide +kernel
theorem dL_change_154 : decode cL_change 154 = .ok (.iconst 2, 1) := by decide +kernel
theorem dL_change_155 : decode cL_change 155 = .ok (.invokestatic 15, 3) := by decide +kernel
theorem dL_change_158 : decode cL_change 158 = .ok (.ifCond .ne 19, 3) := by decide +kernel
theorem dL_change_161 : decode cL_change 161 = .ok (.aload_n 0, 1) := by decide +kernel
theorem dL_change_162 : decode cL_change 162 = .ok (.iconst 3, 1) := by decide +kernel
theorem dL_change_163 : decode cL_change 163 = .ok (.iload_n 2, 1) := by decide +kernel
theorem dL_change_164 : decode cL_change 164 = .ok (.iconst 1, 1) := by decide +kernel
theorem dL_change_165 : decode cL_change 165 = .ok (.ishr, 1) := by decide +kernel
theorem dL_change_166 : decode cL_change 166 = .ok (.bipush 31, 2) := by decide +kernel
theorem dL_change_168 : decode cL_change 168 = .ok (.invokestatic 15, 3) := by decide +kernel
theorem dL_change_171 : decode cL_change 171 = .ok (.invokevirtual 34, 3) := by decide +kernel
theorem dL_change_174 : decode cL_change 174 = .ok (.goto 18, 3) := by decide +kernel
theorem dL_change_177 : decode cL_change 177 = .ok (.aload_n 0, 1) := by decide +kernel
theorem dL_change_178 : decode cL_change 178 = .ok (.iconst 4, 1) := by decide +kernel
theorem dL_change_179 : decode cL_change 179 = .ok (.iconst 1, 1) := by decide +kernel
theorem dL_change_180 : decode cL_change 180 = .ok (.iload_n 2, 1) := by decide +kernel
theorem dL_change_181 : decode cL_change 181 = .ok (.iconst 1, 1) := by decide +kernel
theorem dL_change_182 : decode cL_change 182 = .ok (.ishr, 1) := by decide +kernel
theorem dL_change_183 : decode cL_change 183 = .ok (.bipush 60, 2) := by decide +kernel
theorem dL_change_185 : decode cL_change 185 = .ok (.invokestatic 15, 3) := by decide +kernel
theorem dL_change_188 : decode cL_change 188 = .ok (.iadd, 1) := by decide +kernel
theorem dL_change_189 : decode cL_change 189 = .ok (.invokevirtual 34, 3) := by decide +kernel
theorem dL_change_192 : decode cL_change 192 = .ok (.ireturn, 1) := by decide +kernel
theorem dL_change_193 : decode cL_change 193 = .ok (.iload_n 2, 1) := by decide +kernel
theorem dL_change_194 : decode cL_change 194 = .ok (.iconst 2, 1) := by decide +kernel
theorem dL_change_195 : decode cL_change 195 = .ok (.invokestatic 15, 3) := by decide +kernel
theorem dL_change_198 : decode cL_change 198 = .ok (.ifCond .ne 20, 3) := by decide +kernel
theorem dL_change_201 : decode cL_change 201 = .ok (.aload_n 0, 1) := by decide +kernel
theorem dL_change_202 : decode cL_change 202 = .ok (.iconst 5, 1) := by decide +kernel
theorem dL_change_203 : decode cL_change 203 = .ok (.iconst 1, 1) := by decide +kernel
theorem dL_change_204 : decode cL_change 204 = .ok (.iload_n 2, 1) := by decide +kernel
theorem dL_change_205 : decode cL_change 205 = .ok (.iconst 1, 1) := by decide +kernel
theorem dL_change_206 : decode cL_change 206 = .ok (.ishr, 1) := by decide +kernel
theorem dL_change_207 : decode cL_change 207 = .ok (.iconst 4, 1) := by decide +kernel
theorem dL_change_208 : decode cL_change 208 = .ok (.invokestatic 15, 3) := by decide +kernel
theorem dL_change_211 : decode cL_change 211 = .ok (.iadd, 1) := by decide +kernel
theorem dL_change_212 : decode cL_change 212 = .ok (.invokevirtual 34, 3) := by decide +kernel
theorem dL_change_215 : decode cL_change 215 = .ok (.goto 19, 3) := by decide +kernel
theorem dL_change_218 : decode cL_change 218 = .ok (.aload_n 0, 1) := by decide +kernel
theorem dL_change_219 : decode cL_change 219 = .ok (.bipush 6, 2) := by decide +kernel
theorem dL_change_221 : decode cL_change 221 = .ok (.iconst 1, 1) := by decide +kernel
theorem dL_change_222 : decode cL_change 222 = .ok (.iload_n 2, 1) := by decide +kernel
theorem dL_change_223 : decode cL_change 223 = .ok (.iconst 1, 1) := by decide +kernel
theorem dL_change_224 : decode cL_change 224 = .ok (.ishr, 1) := by decide +kernel
theorem dL_change_225 : decode cL_change 225 = .ok (.bipush 60, 2) := by decide +kernel
theorem dL_change_227 : decode cL_change 227 = .ok (.invokestatic 15, 3) := by decide +kernel
theorem dL_change_230 : decode cL_change 230 = .ok (.iadd, 1) := by decide +kernel
theorem dL_change_231 : decode cL_change 231 = .ok (.invokevirtual 34, 3) := by decide +kernel
theorem dL_change_234 : decode cL_change 234 = .ok (.ireturn, 1) := by decide +kernel
theorem dL_change_235 : decode cL_change 235 = .ok (.iload_n 2, 1) := by decide +kernel
theorem dL_change_236 : decode cL_change 236 = .ok (.iconst 2, 1) := by decide +kernel
theorem dL_change_237 : decode cL_change 237 = .ok (.invokestatic 15, 3) := by decide +kernel
theorem dL_change_240 : decode cL_change 240 = .ok (.ifCond .ne 22, 3) := by decide +kernel
theorem dL_change_243 : decode cL_change 243 = .ok (.aload_n 0, 1) := by decide +kernel
theorem dL_change_244 : decode cL_change 244 = .ok (.bipush 7, 2) := by decide +kernel
theorem dL_change_246 : decode cL_change 246 = .ok (.iconst 1, 1) := by decide +kernel
theorem dL_change_247 : decode cL_change 247 = .ok (.iload_n 2, 1) := by decide +kernel
theorem dL_change_248 : decode cL_change 248 = .ok (.iconst 1, 1) := by decide +kernel
theorem dL_change_249 : decode cL_change 249 = .ok (.ishr, 1) := by decide +kernel
theorem dL_change_250 : decode cL_change 250 = .ok (.bipush 100, 2) := by decide +kernel
theorem dL_change_252 : decode cL_change 252 = .ok (.invokestatic 15, 3) := by decide +kernel
theorem dL_change_255 : decode cL_change 255 = .ok (.iadd, 1) := by decide +kernel
theorem dL_change_256 : decode cL_change 256 = .ok (.invokevirtual 34, 3) := by decide +kernel
theorem dL_change_259 : decode cL_change 259 = .ok (.goto 17, 3) := by decide +kernel
theorem dL_change_262 : decode cL_change 262 = .ok (.aload_n 0, 1) := by decide +kernel
theorem dL_change_263 : decode cL_change 263 = .ok (.bipush 8, 2) := by decide +kernel
theorem dL_change_265 : decode cL_change 265 = .ok (.iload_n 2, 1) := by decide +kernel
theorem dL_change_266 : decode cL_change 266 = .ok (.iconst 1, 1) := by decide +kernel
theorem dL_change_267 : decode cL_change 267 = .ok (.ishr, 1) := by decide +kernel
theorem dL_change_268 : decode cL_change 268 = .ok (.bipush 11, 2) := by decide +kernel
theorem dL_change_270 : decode cL_change 270 = .ok (.invokestatic 15, 3) := by decide +kernel
theorem dL_change_273 : decode cL_change 273 = .ok (.invokevirtual 34, 3) := by decide +kernel
theorem dL_change_276 : decode cL_change 276 = .ok (.ireturn, 1) := by decide +kernel
theorem dL_change_277 : decode cL_change 277 = .ok (.aload_n 0, 1) := by decide +kernel
theorem dL_change_278 : decode cL_change 278 = .ok (.iload_n 2, 1) := by decide +kernel
theorem dL_change_279 : decode cL_change 279 = .ok (.iload_n 3, 1) := by decide +kernel
theorem dL_change_280 : decode cL_change 280 = .ok (.invokestatic 15, 3) := by decide +kernel
theorem dL_change_283 : decode cL_change 283 = .ok (.invokevirtual 37, 3) := by decide +kernel
theorem dL_change_286 : decode cL_change 286 = .ok (.ireturn, 1) := by decide +kernel
theorem dL_change_287 : decode cL_change 287 = .ok (.aload_n 0, 1) := by decide +kernel
theorem dL_change_288 : decode cL_change 288 = .ok (.invokevirtual 40, 3) := by decide +kernel
theorem dL_change_291 : decode cL_change 291 = .ok (.ireturn, 1) := by decide +kernel
theorem dL_change_292 : decode cL_change 292 = .ok (.aload_n 0, 1) := by decide +kernel
theorem dL_change_293 : decode cL_change 293 = .ok (.invokevirtual 43, 3) := by decide +kernel
theorem dL_change_296 : decode cL_change 296 = .ok (.ireturn, 1) := by decide +kernel
theorem dL_change_297 : decode cL_change 297 = .ok (.iload_n 2, 1) := by decide +kernel
theorem dL_change_298 : decode cL_change 298 = .ok (.iconst 2, 1) := by decide +kernel
theorem dL_change_299 : decode cL_change 299 = .ok (.invokestatic 15, 3) := by decide +kernel
theorem dL_change_302 : decode cL_change 302 = .ok (.ifCond .ne 17, 3) := by decide +kernel
theorem dL_change_305 : decode cL_change 305 = .ok (.aload_n 0, 1) := by decide +kernel
theorem dL_change_306 : decode cL_change 306 = .ok (.iload_n 2, 1) := by decide +kernel
theorem dL_change_307 : decode cL_change 307 = .ok (.iconst 1, 1) := by decide +kernel
theorem dL_change_308 : decode cL_change 308 = .ok (.ishr, 1) := by decide +kernel
theorem dL_change_309 : decode cL_change 309 = .ok (.iconst 2, 1) := by decide +kernel
theorem dL_change_310 : decode cL_change 310 = .ok (.invokestatic 15, 3) := by decide +kernel
theorem dL_change_313 : decode cL_change 313 = .ok (.invokevirtual 46, 3) := by decide +kernel
theorem dL_change_316 : decode cL_change 316 = .ok (.goto 14, 3) := by decide +kernel
theorem dL_change_319 : decode cL_change 319 = .ok (.aload_n 0, 1) := by decide +kernel
theorem dL_change_320 : decode cL_change 320 = .ok (.iload_n 2, 1) := by decide +kernel
theorem dL_change_321 : decode cL_change 321 = .ok (.iconst 1, 1) := by decide +kernel
theorem dL_change_322 : decode cL_change 322 = .ok (.ishr, 1) := by decide +kernel
theorem dL_change_323 : decode cL_change 323 = .ok (.iconst 2, 1) := by decide +kernel
theorem dL_change_324 : decode cL_change 324 = .ok (.invokestatic 15, 3) := by decide +kernel
theorem dL_change_327 : decode cL_change 327 = .ok (.invokevirtual 49, 3) := by decide +kernel
theorem dL_change_330 : decode cL_change 330 = .ok (.ireturn, 1) := by decide +kernel
theorem dL_change_331 : decode cL_change 331 = .ok (.aload_n 0, 1) := by decide +kernel
theorem dL_change_332 : decode cL_change 332 = .ok (.bipush 97, 2) := by decide +kernel
theorem dL_change_334 : decode cL_change 334 = .ok (.iload_n 2, 1) := by decide +kernel
theorem dL_change_335 : decode cL_change 335 = .ok (.bipush 6, 2) := by decide +kernel
theorem dL_change_337 : decode cL_change 337 = .ok (.invokestatic 15, 3) := by decide +kernel
theorem dL_change_340 : decode cL_change 340 = .ok (.iadd, 1) := by decide +kernel
theorem dL_change_341 : decode cL_change 341 = .ok (.invokevirtual 52, 3) := by decide +kernel
theorem dL_change_344 : decode cL_change 344 = .ok (.ireturn, 1) := by decide +kernel
theorem dL_change_345 : decode cL_change 345 = .ok (.aload_n 0, 1) := by decide +kernel
theorem dL_change_346 : decode cL_change 346 = .ok (.iconst 1, 1) := by decide +kernel
theorem dL_change_347 : decode cL_change 347 = .ok (.iload_n 2, 1) := by decide +kernel
theorem dL_change_348 : decode cL_change 348 = .ok (.iload_n 2, 1) := by decide +kernel
theorem dL_change_349 : decode cL_change 349 = .ok (.bipush 6, 2) := by decide +kernel
theorem dL_change_351 : decode cL_change 351 = .ok (.ishr, 1) := by decide +kernel
theorem dL_change_352 : decode cL_change 352 = .ok (.iconst 4, 1) := by decide +kernel
theorem dL_change_353 : decode cL_change 353 = .ok (.invokestatic 15, 3) := by decide +kernel
theorem dL_change_356 : decode cL_change 356 = .ok (.ifCond .ne 8, 3) := by decide +kernel
theorem dL_change_359 : decode cL_change 359 = .ok (.bipush 60, 2) := by decide +kernel
theorem dL_change_361 : decode cL_change 361 = .ok (.goto 4, 3) := by decide +kernel
theorem dL_change_364 : decode cL_change 364 = .ok (.iconst 4, 1) := by decide +kernel
theorem dL_change_365 : decode cL_change 365 = .ok (.invokestatic 15, 3) := by decide +kernel
theorem dL_change_368 : decode cL_change 368 = .ok (.iadd, 1) := by decide +kernel
theorem dL_change_369 : decode cL_change 369 = .ok (.invokevirtual 55, 3) := by decide +kernel
theorem dL_change_372 : decode cL_change 372 = .ok (.ireturn, 1) := by decide +kernel
theorem dL_change_373 : decode cL_change 373 = .ok (.aload_n 0, 1) := by decide +kernel
theorem dL_change_374 : decode cL_change 374 = .ok (.iload 4, 2) := by decide +kernel
theorem dL_change_376 : decode cL_change 376 = .ok (.iload_n 3, 1) := by decide +kernel
theorem dL_change_377 : decode cL_change 377 = .ok (.if_icmp .ge 13, 3) := by decide +kernel
theorem dL_change_380 : decode cL_change 380 = .ok (.aload_n 0, 1) := by decide +kernel
theorem dL_change_381 : decode cL_change 381 = .ok (.iload 4, 2) := by decide +kernel
theorem dL_change_383 : decode cL_change 383 = .ok (.iconst 0, 1) := by decide +kernel
theorem dL_change_384 : decode cL_change 384 = .ok (.invokevirtual 58, 3) := by decide +kernel
theorem dL_change_387 : decode cL_change 387 = .ok (.goto 5, 3) := by decide +kernel
theorem dL_change_390 : decode cL_change 390 = .ok (.bipush 97, 2) := by decide +kernel
theorem dL_change_392 : decode cL_change 392 = .ok (.invokevirtual 52, 3) := by decide +kernel
theorem dL_change_395 : decode cL_change 395 = .ok (.ireturn, 1) := by decide +kernel
set_option maxRecDepth 20000 in
theorem ggL_areRows_X3_told : GoodIn wsL_areRows wsX3_told := goodIn_r _ [5, 6, 7, 8, 9, 10, 11, 12, 13, 14, 15, 16, 17, 18, 19, 20, 21, 22, 23, 24, 25, 26, 27, 28, 29, 30, 31, 4, 32, 33, 34, 35, 36, 37, 38, 39, 40, 41, 42, 43, 44, 45, 46, 47, 48, 49, 50, 51, 52, 53, 54, 55, 56, 57, 58, 59, 60, 61, 62, 63, 64, 65, 66, 67, 68, 69, 70, 71, 72, 73, 74, 75, 76, 77, 78, 79, 80, 81, 82, 83, 84, 85, 127, 128, 129, 130, 131, 132, 133, 134, 135, 136, 137, 138, 139, 140, 141, 142, 143, 144, 145, 146, 147, 148, 149, 150, 151, 152, 153, 154, 155, 156, 157, 158, 159, 160, 161, 162, 163, 164] (by decide +kernel) (by decide +kernel)
set_option maxRecDepth 20000 in
theorem gL_areRows_X3_told : GoodIn wsL_areRows (wsV RL 28 RX3 yX3_told wsX3_told) := goodIn_app (goodIn_of _ (by decide +kernel)) ggL_areRows_X3_told
set_option maxRecDepth 20000 in
theorem ggL_areRows_X3_setting : GoodIn wsL_areRows wsX3_setting := goodIn_r _ [89, 6, 90, 91, 92, 4, 93, 94, 31, 32, 127, 128, 129, 130, 131, 132, 133, 134, 135, 136, 137, 138, 139, 140, 141, 142, 143, 144, 145, 146, 147, 148, 149, 150, 151, 152] (by decide +kernel) (by decide +kernel)
set_option maxRecDepth 20000 in
theorem gL_areRows_X3_setting : GoodIn wsL_areRows (wsV RL 61 RX3 yX3_setting wsX3_setting) := goodIn_app (goodIn_of _ (by decide +kernel)) ggL_areRows_X3_setting
set_option maxRecDepth 20000 in
theorem ggL_areRows_X3_row : GoodIn wsL_areRows wsX3_row := goodIn_r _ [98, 6, 7, 9, 99, 94, 31, 4, 32, 100, 101, 102, 27, 103, 104, 105, 29, 127, 128, 129, 130, 131, 132, 133, 134, 135, 136, 137, 138, 139, 140, 141, 142, 143, 144, 145, 146, 147, 148, 149, 150, 151, 152, 153, 154, 155, 156, 157, 158, 159, 160, 161] (by decide +kernel) (by decide +kernel)
set_option maxRecDepth 20000 in
theorem gL_areRows_X3_row : GoodIn wsL_areRows (wsV RL 64 RX3 yX3_row wsX3_row) := goodIn_app (goodIn_of _ (by decide +kernel)) ggL_areRows_X3_row
set_option maxRecDepth 20000 in
theorem ggL_areRows_X3_word : GoodIn wsL_areRows wsX3_word := goodIn_r _ [109, 6, 7, 110, 111, 112, 113, 114, 115, 116, 27, 117, 29, 94, 31, 4, 32, 118, 119, 120, 36, 121, 122, 123, 124, 125, 126, 54, 127, 128, 129, 130, 131, 132, 133, 134, 135, 136, 137, 138, 139, 140, 141, 142, 143, 144, 145, 146, 147, 148, 149, 150, 151, 152, 153, 154, 155, 156, 157, 158, 159, 160, 161] (by decide +kernel) (by decide +kernel)
set_option maxRecDepth 20000 in
theorem gL_areRows_X3_word : GoodIn wsL_areRows (wsV RL 58 RX3 yX3_word wsX3_word) := goodIn_app (goodIn_of _ (by decide +kernel)) ggL_areRows_X3_word
theorem dL_areRows_0 : decode cL_areRows 0 = .ok (.aload_n 0, 1) := by decide +kernel
theorem dL_areRows_1 : decode cL_areRows 1 = .ok (.iconst 1, 1) := by decide +kernel
theorem dL_areRows_2 : decode cL_areRows 2 = .ok (.invokevirtual 28, 3) := by decide +kernel
theorem dL_areRows_5 : decode cL_areRows 5 = .ok (.istore_n 1, 1) := by decide +kernel
theorem dL_areRows_6 : decode cL_areRows 6 = .ok (.aload_n 0, 1) := by decide +kernel
theorem dL_areRows_7 : decode cL_areRows 7 = .ok (.iconst 0, 1) := by decide +kernel
theorem dL_areRows_8 : decode cL_areRows 8 = .ok (.invokevirtual 28, 3) := by decide +kernel
theorem dL_areRows_11 : decode cL_areRows 11 = .ok (.istore_n 2, 1) := by decide +kernel
theorem dL_areRows_12 : decode cL_areRows 12 = .ok (.iconst 0, 1) := by decide +kernel
theorem dL_areRows_13 : decode cL_areRows 13 = .ok (.istore_n 3, 1) := by decide +kernel
theorem dL_areRows_14 : decode cL_areRows 14 = .ok (.iconst 0, 1) := by decide +kernel
theorem dL_areRows_15 : decode cL_areRows 15 = .ok (.istore 4, 2) := by decide +kernel
theorem dL_areRows_17 : decode cL_areRows 17 = .ok (.iconst 0, 1) := by decide +kernel
theorem dL_areRows_18 : decode cL_areRows 18 = .ok (.istore 5, 2) := by decide +kernel
theorem dL_areRows_20 : decode cL_areRows 20 = .ok (.bipush (-9), 2) := by decide +kernel
theorem dL_areRows_22 : decode cL_areRows 22 = .ok (.istore 6, 2) := by decide +kernel
theorem dL_areRows_24 : decode cL_areRows 24 = .ok (.aload_n 0, 1) := by decide +kernel
theorem dL_areRows_25 : decode cL_areRows 25 = .ok (.iconst 1, 1) := by decide +kernel
theorem dL_areRows_26 : decode cL_areRows 26 = .ok (.invokevirtual 61, 3) := by decide +kernel
theorem dL_areRows_29 : decode cL_areRows 29 = .ok (.istore 7, 2) := by decide +kernel
theorem dL_areRows_31 : decode cL_areRows 31 = .ok (.aload_n 0, 1) := by decide +kernel
theorem dL_areRows_32 : decode cL_areRows 32 = .ok (.bipush 8, 2) := by decide +kernel
theorem dL_areRows_34 : decode cL_areRows 34 = .ok (.invokevirtual 28, 3) := by decide +kernel
theorem dL_areRows_37 : decode cL_areRows 37 = .ok (.istore 8, 2) := by decide +kernel
theorem dL_areRows_39 : decode cL_areRows 39 = .ok (.iconst 0, 1) := by decide +kernel
theorem dL_areRows_40 : decode cL_areRows 40 = .ok (.istore 9, 2) := by decide +kernel
theorem dL_areRows_42 : decode cL_areRows 42 = .ok (.iload 9, 2) := by decide +kernel
theorem dL_areRows_44 : decode cL_areRows 44 = .ok (.iload_n 1, 1) := by decide +kernel
theorem dL_areRows_45 : decode cL_areRows 45 = .ok (.if_icmp .ge 238, 3) := by decide +kernel
theorem dL_areRows_48 : decode cL_areRows 48 = .ok (.aload_n 0, 1) := by decide +kernel
theorem dL_areRows_49 : decode cL_areRows 49 = .ok (.iload 9, 2) := by decide +kernel
theorem dL_areRows_51 : decode cL_areRows 51 = .ok (.iconst 0, 1) := by decide +kernel
theorem dL_areRows_52 : decode cL_areRows 52 = .ok (.invokevirtual 64, 3) := by decide +kernel
theorem dL_areRows_55 : decode cL_areRows 55 = .ok (.istore 10, 2) := by decide +kernel
theorem dL_areRows_57 : decode cL_areRows 57 = .ok (.aload_n 0, 1) := by decide +kernel
theorem dL_areRows_58 : decode cL_areRows 58 = .ok (.iload 9, 2) := by decide +kernel
theorem dL_areRows_60 : decode cL_areRows 60 = .ok (.iconst 1, 1) := by decide +kernel
theorem dL_areRows_61 : decode cL_areRows 61 = .ok (.invokevirtual 64, 3) := by decide +kernel
theorem dL_areRows_64 : decode cL_areRows 64 = .ok (.istore 11, 2) := by decide +kernel
theorem dL_areRows_66 : decode cL_areRows 66 = .ok (.iload 10, 2) := by decide +kernel
theorem dL_areRows_68 : decode cL_areRows 68 = .ok (.iload_n 3, 1) := by decide +kernel
theorem dL_areRows_69 : decode cL_areRows 69 = .ok (.if_icmp .ne 19, 3) := by decide +kernel
theorem dL_areRows_72 : decode cL_areRows 72 = .ok (.iload 11, 2) := by decide +kernel
theorem dL_areRows_74 : decode cL_areRows 74 = .ok (.iconst 1, 1) := by decide +kernel
theorem dL_areRows_75 : decode cL_areRows 75 = .ok (.if_icmp .lt 13, 3) := by decide +kernel
theorem dL_areRows_78 : decode cL_areRows 78 = .ok (.iload 11, 2) := by decide +kernel
theorem dL_areRows_80 : decode cL_areRows 80 = .ok (.aload_n 0, 1) := by decide +kernel
theorem dL_areRows_81 : decode cL_areRows 81 = .ok (.iconst 0, 1) := by decide +kernel
theorem dL_areRows_82 : decode cL_areRows 82 = .ok (.invokevirtual 61, 3) := by decide +kernel
theorem dL_areRows_85 : decode cL_areRows 85 = .ok (.if_icmp .le 5, 3) := by decide +kernel
theorem dL_areRows_88 : decode cL_areRows 88 = .ok (.iconst 0, 1) := by decide +kernel
theorem dL_areRows_89 : decode cL_areRows 89 = .ok (.ireturn, 1) := by decide +kernel
theorem dL_areRows_90 : decode cL_areRows 90 = .ok (.iload 10, 2) := by decide +kernel
theorem dL_areRows_92 : decode cL_areRows 92 = .ok (.istore 12, 2) := by decide +kernel
theorem dL_areRows_94 : decode cL_areRows 94 = .ok (.iload 12, 2) := by decide +kernel
theorem dL_areRows_96 : decode cL_areRows 96 = .ok (.iload 10, 2) := by decide +kernel
theorem dL_areRows_98 : decode cL_areRows 98 = .ok (.iload 11, 2) := by decide +kernel
theorem dL_areRows_100 : decode cL_areRows 100 = .ok (.iadd, 1) := by decide +kernel
