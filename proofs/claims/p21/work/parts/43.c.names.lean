/-! decode rows of isSame -/
set_option maxRecDepth 20000 in
theorem ggX5_isSame_X5_told : GoodIn wsX5_isSame wsX5_told := goodIn_r _ [11] (by decide +kernel) (by decide +kernel)
set_option maxRecDepth 20000 in
theorem gX5_isSame_X5_told : GoodIn wsX5_isSame (va_wsS RX5 42 yX5_told wsX5_told) := goodIn_app (goodIn_of _ (by decide +kernel)) ggX5_isSame_X5_told
set_option maxRecDepth 20000 in
theorem ggX5_isSame_X4_sheet : GoodIn wsX5_isSame wsX4_sheet := goodIn_ca (goodIn_r _ [16, 17, 18, 19, 20, 15, 21, 22, 23, 24, 25, 26, 27, 28, 29, 30, 31, 32, 33, 34, 35, 36, 37, 38, 39, 40, 41, 42, 43, 44, 45, 46, 47, 48, 49, 50, 51, 52, 53, 54, 55, 56, 57, 58, 59, 60, 61, 62, 63, 64, 65, 66, 67, 68, 290, 291, 292, 293, 294, 295, 296, 297, 298, 299, 300, 301, 302, 303, 304, 305, 306, 307, 308, 309, 310, 311, 312] (by decide +kernel) (by decide +kernel)) (goodIn_sub (fun _ h => List.mem_cons_of_mem _ (List.mem_append_right _ h)) (by decide +kernel))
set_option maxRecDepth 20000 in
theorem gX5_isSame_X4_sheet : GoodIn wsX5_isSame (wsV RX5 82 RX4 yX4_sheet wsX4_sheet) := goodIn_app (goodIn_of _ (by decide +kernel)) ggX5_isSame_X4_sheet
set_option maxRecDepth 20000 in
theorem ggX5_isSame_X5_far : GoodIn wsX5_isSame wsX5_far := goodIn_r _ [72, 1, 5, 4, 3, 73, 74, 75, 76, 77, 78, 79, 10, 80, 2, 81, 82, 83, 84, 8, 9, 11, 285, 286, 287, 288, 289] (by decide +kernel) (by decide +kernel)
set_option maxRecDepth 20000 in
theorem gX5_isSame_X5_far : GoodIn wsX5_isSame (wsV RX5 68 RX5 yX5_far wsX5_far) := goodIn_app (goodIn_of _ (by decide +kernel)) ggX5_isSame_X5_far
set_option maxRecDepth 20000 in
theorem ggX5_isSame_X4_way : GoodIn wsX5_isSame wsX4_way := goodIn_ca (goodIn_r _ [88, 17, 89, 18, 19, 20, 15, 21, 22, 23, 24, 25, 26, 27, 28, 29, 30, 31, 32, 33, 34, 90, 91, 92, 38, 93, 94, 95, 96, 97, 98, 99, 100, 101, 40, 102, 103, 104, 105, 106, 107, 108, 109, 110, 111, 112, 113, 114, 115, 116, 117, 118, 119, 120, 121, 122, 41, 42, 43, 123, 66, 67, 47, 68, 64, 124, 125, 126, 127, 128, 129, 130, 131, 132, 133, 134, 135, 136, 137, 138, 139, 290, 291, 292, 293, 294, 295, 296, 297, 298, 299, 300, 301, 302, 303, 304, 305, 306, 307, 308, 309, 313, 314, 315, 316, 310, 311, 312] (by decide +kernel) (by decide +kernel)) (goodIn_sub (fun _ h => List.mem_cons_of_mem _ (List.mem_append_right _ h)) (by decide +kernel))
set_option maxRecDepth 20000 in
theorem gX5_isSame_X4_way : GoodIn wsX5_isSame (wsV RX5 87 RX4 yX4_way wsX4_way) := goodIn_app (goodIn_of _ (by decide +kernel)) ggX5_isSame_X4_way
set_option maxRecDepth 20000 in
theorem ggX5_isSame_X5_first : GoodIn wsX5_isSame wsX5_first := goodIn_r _ [143, 4, 3, 69, 70, 71, 10, 72, 1, 5, 73, 74, 75, 76, 77, 78, 79, 80, 2, 81, 82, 83, 84, 8, 9, 11, 285, 286, 287, 288, 289] (by decide +kernel) (by decide +kernel)
set_option maxRecDepth 20000 in
theorem gX5_isSame_X5_first : GoodIn wsX5_isSame (wsV RX5 72 RX5 yX5_first wsX5_first) := goodIn_app (goodIn_of _ (by decide +kernel)) ggX5_isSame_X5_first
set_option maxRecDepth 20000 in
theorem ggX5_isSame_X5_post : GoodIn wsX5_isSame wsX5_post := goodIn_r _ [147, 3, 140, 141, 142, 10, 143, 4, 69, 70, 71, 72, 1, 5, 73, 74, 75, 76, 77, 78, 79, 80, 2, 81, 82, 83, 84, 8, 9, 11, 285, 286, 287, 288, 289] (by decide +kernel) (by decide +kernel)
set_option maxRecDepth 20000 in
theorem gX5_isSame_X5_post : GoodIn wsX5_isSame (wsV RX5 79 RX5 yX5_post wsX5_post) := goodIn_app (goodIn_of _ (by decide +kernel)) ggX5_isSame_X5_post
set_option maxRecDepth 20000 in
theorem ggX5_isSame_X4_post : GoodIn wsX5_isSame wsX4_post := goodIn_ca (goodIn_r _ [151, 17, 18, 19, 20, 15, 21, 22, 23, 24, 25, 26, 27, 28, 29, 30, 152, 153, 154, 38, 155, 156, 101, 157, 91, 92, 93, 94, 95, 96, 97, 98, 99, 100, 40, 102, 103, 104, 105, 106, 107, 108, 109, 110, 111, 112, 113, 114, 115, 116, 117, 118, 119, 120, 121, 122, 41, 42, 43, 123, 66, 67, 47, 68, 64, 124, 125, 126, 127, 128, 129, 130, 131, 132, 133, 134, 135, 136, 137, 138, 139, 158, 159, 160, 161, 162, 290, 291, 292, 293, 294, 295, 296, 297, 298, 299, 300, 301, 302, 303, 304, 305, 306, 307, 308, 309, 313, 314, 315, 316, 310, 311, 312] (by decide +kernel) (by decide +kernel)) (goodIn_sub (fun _ h => List.mem_cons_of_mem _ (List.mem_append_right _ h)) (by decide +kernel))
set_option maxRecDepth 20000 in
theorem gX5_isSame_X4_post : GoodIn wsX5_isSame (wsV RX5 90 RX4 yX4_post wsX4_post) := goodIn_app (goodIn_of _ (by decide +kernel)) ggX5_isSame_X4_post
set_option maxRecDepth 20000 in
theorem ggX5_isSame_X4_truth : GoodIn wsX5_isSame wsX4_truth := goodIn_ca (goodIn_r _ [166, 24, 167, 168, 89, 18, 19, 20, 15, 21, 22, 23, 25, 26, 27, 28, 29, 30, 169, 170, 171, 172, 112, 162, 117, 122, 173, 174, 103, 104, 105, 106, 107, 175, 129, 130, 131, 132, 133, 134, 176, 136, 137, 138, 139, 290, 291, 292, 293, 294, 295, 296, 297, 298, 299, 300, 301, 313, 314, 315, 316] (by decide +kernel) (by decide +kernel)) (goodIn_sub (fun _ h => List.mem_cons_of_mem _ (List.mem_append_right _ h)) (by decide +kernel))
set_option maxRecDepth 20000 in
theorem gX5_isSame_X4_truth : GoodIn wsX5_isSame (wsV RX5 91 RX4 yX4_truth wsX4_truth) := goodIn_app (goodIn_of _ (by decide +kernel)) ggX5_isSame_X4_truth
set_option maxRecDepth 20000 in
theorem ggX5_isSame_X5_sheetsOf : GoodIn wsX5_isSame wsX5_sheetsOf := goodIn_r _ [180, 2, 285, 286, 287, 288, 289] (by decide +kernel) (by decide +kernel)
set_option maxRecDepth 20000 in
theorem gX5_isSame_X5_sheetsOf : GoodIn wsX5_isSame (wsV RX5 75 RX5 yX5_sheetsOf wsX5_sheetsOf) := goodIn_app (goodIn_of _ (by decide +kernel)) ggX5_isSame_X5_sheetsOf
set_option maxRecDepth 20000 in
theorem ggX5_isSame_X4_told : GoodIn wsX5_isSame wsX4_told := goodIn_ca (goodIn_r _ [184, 22, 23, 24, 17, 18, 19, 20, 15, 21, 25, 26, 27, 28, 29, 30, 185, 186, 187, 188, 189, 190, 191, 192, 38, 193, 40, 41, 42, 43, 194, 195, 196, 197, 198, 199, 200, 201, 202, 101, 156, 203, 157, 91, 92, 93, 94, 95, 96, 97, 98, 99, 100, 102, 103, 104, 105, 106, 107, 108, 109, 110, 111, 112, 113, 114, 115, 116, 117, 118, 119, 120, 121, 122, 123, 66, 67, 47, 68, 64, 124, 125, 126, 127, 128, 129, 130, 131, 132, 133, 134, 135, 136, 137, 138, 139, 204, 205, 206, 207, 208, 153, 154, 155, 158, 159, 160, 161, 162, 290, 291, 292, 293, 294, 295, 296, 297, 298, 299, 300, 301, 302, 303, 304, 305, 306, 307, 308, 309, 313, 314, 315, 316, 310, 311, 312] (by decide +kernel) (by decide +kernel)) (goodIn_sub (fun _ h => List.mem_cons_of_mem _ (List.mem_append_right _ h)) (by decide +kernel))
set_option maxRecDepth 20000 in
theorem gX5_isSame_X4_told : GoodIn wsX5_isSame (wsV RX5 94 RX4 yX4_told wsX4_told) := goodIn_app (goodIn_of _ (by decide +kernel)) ggX5_isSame_X4_told
set_option maxRecDepth 20000 in
theorem ggX5_isSame_X5_takes : GoodIn wsX5_isSame wsX5_takes := goodIn_r _ [84, 2, 3, 8, 9, 10, 11, 285, 286, 287, 288, 289] (by decide +kernel) (by decide +kernel)
set_option maxRecDepth 20000 in
theorem gX5_isSame_X5_takes : GoodIn wsX5_isSame (wsV RX5 64 RX5 yX5_takes wsX5_takes) := goodIn_app (goodIn_of _ (by decide +kernel)) ggX5_isSame_X5_takes
set_option maxRecDepth 20000 in
theorem ggX5_isSame_X4_about : GoodIn wsX5_isSame wsX4_about := goodIn_ca (goodIn_r _ [212, 22, 23, 24, 17, 213, 214, 215, 15, 216, 217, 109, 110, 28, 111, 112, 218, 114, 115, 116, 117, 219, 119, 120, 121, 122, 220, 221, 222, 223, 173, 224, 225, 226, 227, 162, 228, 229, 230, 38, 231, 101, 203, 26, 27, 29, 30, 232, 233, 234, 235, 40, 113, 41, 42, 43, 118, 123, 66, 67, 47, 68, 64, 290, 291, 292, 293, 294, 295, 296, 297, 298, 299, 300, 301, 302, 303, 304, 305, 306, 307, 308, 309, 310, 311, 312] (by decide +kernel) (by decide +kernel)) (goodIn_sub (fun _ h => List.mem_cons_of_mem _ (List.mem_append_right _ h)) (by decide +kernel))
set_option maxRecDepth 20000 in
theorem gX5_isSame_X4_about : GoodIn wsX5_isSame (wsV RX5 96 RX4 yX4_about wsX4_about) := goodIn_app (goodIn_of _ (by decide +kernel)) ggX5_isSame_X4_about
set_option maxRecDepth 20000 in
theorem ggX5_isSame_X5_allSheets : GoodIn wsX5_isSame wsX5_allSheets := goodIn_r _ [239, 1, 177, 178, 179, 10, 180, 2, 285, 286, 287, 288, 289] (by decide +kernel) (by decide +kernel)
set_option maxRecDepth 20000 in
theorem gX5_isSame_X5_allSheets : GoodIn wsX5_isSame (wsV RX5 99 RX5 yX5_allSheets wsX5_allSheets) := goodIn_app (goodIn_of _ (by decide +kernel)) ggX5_isSame_X5_allSheets
set_option maxRecDepth 20000 in
theorem ggX5_isSame_X5_pairs : GoodIn wsX5_isSame wsX5_pairs := goodIn_r _ [243, 1, 4, 144, 145, 146, 10, 147, 3, 140, 141, 142, 143, 69, 70, 71, 72, 5, 73, 74, 75, 76, 77, 78, 79, 80, 2, 81, 82, 83, 84, 8, 9, 11, 285, 286, 287, 288, 289] (by decide +kernel) (by decide +kernel)
set_option maxRecDepth 20000 in
theorem gX5_isSame_X5_pairs : GoodIn wsX5_isSame (wsV RX5 103 RX5 yX5_pairs wsX5_pairs) := goodIn_app (goodIn_of _ (by decide +kernel)) ggX5_isSame_X5_pairs
set_option maxRecDepth 20000 in
theorem ggX5_isSame_X4_count : GoodIn wsX5_isSame wsX4_count := goodIn_ca (goodIn_r _ [247, 22, 23, 17, 24, 50, 51, 52, 38, 53, 54, 25, 26, 27, 28, 29, 30, 217, 109, 110, 111, 112, 248, 249, 250, 251, 162, 252, 253, 254, 255, 101, 203, 256, 191, 192, 193, 40, 41, 42, 43, 257, 258, 259, 260, 208, 153, 154, 155, 156, 157, 91, 92, 93, 94, 95, 96, 97, 98, 99, 100, 102, 103, 104, 105, 106, 107, 108, 113, 114, 115, 116, 117, 118, 119, 120, 121, 122, 123, 66, 67, 47, 68, 64, 124, 125, 126, 127, 128, 129, 130, 131, 132, 133, 134, 135, 136, 137, 138, 139, 158, 159, 160, 161, 261, 262, 263, 264, 265, 266, 267, 268, 269, 270, 271, 272, 273, 274, 275, 290, 291, 292, 293, 294, 302, 303, 304, 305, 306, 307, 308, 309, 295, 296, 297, 298, 299, 300, 301, 313, 314, 315, 316, 310, 311, 312] (by decide +kernel) (by decide +kernel)) (goodIn_sub (fun _ h => List.mem_cons_of_mem _ (List.mem_append_right _ h)) (by decide +kernel))
set_option maxRecDepth 20000 in
theorem gX5_isSame_X4_count : GoodIn wsX5_isSame (wsV RX5 107 RX4 yX4_count wsX4_count) := goodIn_app (goodIn_of _ (by decide +kernel)) ggX5_isSame_X4_count
set_option maxRecDepth 20000 in
theorem ggX5_isSame_X4_mean : GoodIn wsX5_isSame wsX4_mean := goodIn_r _ [279, 17, 252, 253, 254, 38, 255, 101, 203, 26, 27, 28, 29, 30, 256, 191, 192, 193, 40, 41, 42, 43, 280, 281, 282, 283, 54, 284, 56, 57, 47, 58, 59, 290, 291, 292, 293, 294, 302, 303, 304, 305, 306, 307, 308, 309, 295, 296, 297, 298, 299, 300, 301, 310, 311, 312] (by decide +kernel) (by decide +kernel)
set_option maxRecDepth 20000 in
theorem gX5_isSame_X4_mean : GoodIn wsX5_isSame (wsV RX5 110 RX4 yX4_mean wsX4_mean) := goodIn_app (goodIn_of _ (by decide +kernel)) ggX5_isSame_X4_mean
theorem dX5_isSame_0 : decode cX5_isSame 0 = .ok (.aload_n 0, 1) := by decide +kernel
theorem dX5_isSame_1 : decode cX5_isSame 1 = .ok (.getfield 9, 3) := by decide +kernel
theorem dX5_isSame_4 : decode cX5_isSame 4 = .ok (.arraylength, 1) := by decide +kernel
theorem dX5_isSame_5 : decode cX5_isSame 5 = .ok (.istore_n 2, 1) := by decide +kernel
theorem dX5_isSame_6 : decode cX5_isSame 6 = .ok (.iconst 0, 1) := by decide +kernel
theorem dX5_isSame_7 : decode cX5_isSame 7 = .ok (.istore_n 3, 1) := by decide +kernel
theorem dX5_isSame_8 : decode cX5_isSame 8 = .ok (.iconst 0, 1) := by decide +kernel
theorem dX5_isSame_9 : decode cX5_isSame 9 = .ok (.istore 4, 2) := by decide +kernel
theorem dX5_isSame_11 : decode cX5_isSame 11 = .ok (.iconst 0, 1) := by decide +kernel
theorem dX5_isSame_12 : decode cX5_isSame 12 = .ok (.istore 5, 2) := by decide +kernel
theorem dX5_isSame_14 : decode cX5_isSame 14 = .ok (.iload 5, 2) := by decide +kernel
theorem dX5_isSame_16 : decode cX5_isSame 16 = .ok (.iload_n 2, 1) := by decide +kernel
theorem dX5_isSame_17 : decode cX5_isSame 17 = .ok (.if_icmp .ge 461, 3) := by decide +kernel
theorem dX5_isSame_20 : decode cX5_isSame 20 = .ok (.iconst 0, 1) := by decide +kernel
theorem dX5_isSame_21 : decode cX5_isSame 21 = .ok (.istore 6, 2) := by decide +kernel
theorem dX5_isSame_23 : decode cX5_isSame 23 = .ok (.iconst 0, 1) := by decide +kernel
theorem dX5_isSame_24 : decode cX5_isSame 24 = .ok (.istore 7, 2) := by decide +kernel
theorem dX5_isSame_26 : decode cX5_isSame 26 = .ok (.iconst 0, 1) := by decide +kernel
theorem dX5_isSame_27 : decode cX5_isSame 27 = .ok (.istore 8, 2) := by decide +kernel
theorem dX5_isSame_29 : decode cX5_isSame 29 = .ok (.iload 8, 2) := by decide +kernel
theorem dX5_isSame_31 : decode cX5_isSame 31 = .ok (.iload_n 2, 1) := by decide +kernel
theorem dX5_isSame_32 : decode cX5_isSame 32 = .ok (.if_icmp .ge 356, 3) := by decide +kernel
theorem dX5_isSame_35 : decode cX5_isSame 35 = .ok (.aload_n 0, 1) := by decide +kernel
theorem dX5_isSame_36 : decode cX5_isSame 36 = .ok (.getfield 20, 3) := by decide +kernel
theorem dX5_isSame_39 : decode cX5_isSame 39 = .ok (.iload 5, 2) := by decide +kernel
theorem dX5_isSame_41 : decode cX5_isSame 41 = .ok (.aaload, 1) := by decide +kernel
theorem dX5_isSame_42 : decode cX5_isSame 42 = .ok (.iload 8, 2) := by decide +kernel
theorem dX5_isSame_44 : decode cX5_isSame 44 = .ok (.aaload, 1) := by decide +kernel
theorem dX5_isSame_45 : decode cX5_isSame 45 = .ok (.astore 9, 2) := by decide +kernel
theorem dX5_isSame_47 : decode cX5_isSame 47 = .ok (.iconst 0, 1) := by decide +kernel
theorem dX5_isSame_48 : decode cX5_isSame 48 = .ok (.istore 10, 2) := by decide +kernel
theorem dX5_isSame_50 : decode cX5_isSame 50 = .ok (.iconst 0, 1) := by decide +kernel
theorem dX5_isSame_51 : decode cX5_isSame 51 = .ok (.istore 11, 2) := by decide +kernel
theorem dX5_isSame_53 : decode cX5_isSame 53 = .ok (.iload 11, 2) := by decide +kernel
theorem dX5_isSame_55 : decode cX5_isSame 55 = .ok (.aload_n 0, 1) := by decide +kernel
theorem dX5_isSame_56 : decode cX5_isSame 56 = .ok (.getfield 25, 3) := by decide +kernel
theorem dX5_isSame_59 : decode cX5_isSame 59 = .ok (.arraylength, 1) := by decide +kernel
theorem dX5_isSame_60 : decode cX5_isSame 60 = .ok (.if_icmp .ge 29, 3) := by decide +kernel
theorem dX5_isSame_63 : decode cX5_isSame 63 = .ok (.iload 10, 2) := by decide +kernel
theorem dX5_isSame_65 : decode cX5_isSame 65 = .ok (.aload 9, 2) := by decide +kernel
theorem dX5_isSame_67 : decode cX5_isSame 67 = .ok (.iload 11, 2) := by decide +kernel
theorem dX5_isSame_69 : decode cX5_isSame 69 = .ok (.invokestatic 42, 3) := by decide +kernel
theorem dX5_isSame_72 : decode cX5_isSame 72 = .ok (.ifCond .le 7, 3) := by decide +kernel
theorem dX5_isSame_75 : decode cX5_isSame 75 = .ok (.iconst 1, 1) := by decide +kernel
theorem dX5_isSame_76 : decode cX5_isSame 76 = .ok (.goto 4, 3) := by decide +kernel
theorem dX5_isSame_79 : decode cX5_isSame 79 = .ok (.iconst 0, 1) := by decide +kernel
theorem dX5_isSame_80 : decode cX5_isSame 80 = .ok (.iadd, 1) := by decide +kernel
theorem dX5_isSame_81 : decode cX5_isSame 81 = .ok (.istore 10, 2) := by decide +kernel
theorem dX5_isSame_83 : decode cX5_isSame 83 = .ok (.iinc 11 1, 3) := by decide +kernel
theorem dX5_isSame_86 : decode cX5_isSame 86 = .ok (.goto (-33), 3) := by decide +kernel
theorem dX5_isSame_89 : decode cX5_isSame 89 = .ok (.aload 9, 2) := by decide +kernel
theorem dX5_isSame_91 : decode cX5_isSame 91 = .ok (.arraylength, 1) := by decide +kernel
theorem dX5_isSame_92 : decode cX5_isSame 92 = .ok (.ifCond .le 7, 3) := by decide +kernel
theorem dX5_isSame_95 : decode cX5_isSame 95 = .ok (.iconst 1, 1) := by decide +kernel
theorem dX5_isSame_96 : decode cX5_isSame 96 = .ok (.goto 4, 3) := by decide +kernel
theorem dX5_isSame_99 : decode cX5_isSame 99 = .ok (.iconst 0, 1) := by decide +kernel
theorem dX5_isSame_100 : decode cX5_isSame 100 = .ok (.istore 11, 2) := by decide +kernel
theorem dX5_isSame_102 : decode cX5_isSame 102 = .ok (.aload_n 1, 1) := by decide +kernel
theorem dX5_isSame_103 : decode cX5_isSame 103 = .ok (.iload 5, 2) := by decide +kernel
theorem dX5_isSame_105 : decode cX5_isSame 105 = .ok (.iload 8, 2) := by decide +kernel
theorem dX5_isSame_107 : decode cX5_isSame 107 = .ok (.iconst 0, 1) := by decide +kernel
theorem dX5_isSame_108 : decode cX5_isSame 108 = .ok (.invokevirtual 82, 3) := by decide +kernel
theorem dX5_isSame_111 : decode cX5_isSame 111 = .ok (.iload 11, 2) := by decide +kernel
theorem dX5_isSame_113 : decode cX5_isSame 113 = .ok (.ifCond .eq 10, 3) := by decide +kernel
theorem dX5_isSame_116 : decode cX5_isSame 116 = .ok (.aload 9, 2) := by decide +kernel
theorem dX5_isSame_118 : decode cX5_isSame 118 = .ok (.iconst 0, 1) := by decide +kernel
theorem dX5_isSame_119 : decode cX5_isSame 119 = .ok (.iaload, 1) := by decide +kernel
theorem dX5_isSame_120 : decode cX5_isSame 120 = .ok (.goto 4, 3) := by decide +kernel
theorem dX5_isSame_123 : decode cX5_isSame 123 = .ok (.iconst (-1), 1) := by decide +kernel
theorem dX5_isSame_124 : decode cX5_isSame 124 = .ok (.if_icmp .ne 51, 3) := by decide +kernel
theorem dX5_isSame_127 : decode cX5_isSame 127 = .ok (.aload_n 1, 1) := by decide +kernel
theorem dX5_isSame_128 : decode cX5_isSame 128 = .ok (.iload 5, 2) := by decide +kernel
theorem dX5_isSame_130 : decode cX5_isSame 130 = .ok (.iload 8, 2) := by decide +kernel
theorem dX5_isSame_132 : decode cX5_isSame 132 = .ok (.iconst 1, 1) := by decide +kernel
theorem dX5_isSame_133 : decode cX5_isSame 133 = .ok (.invokevirtual 82, 3) := by decide +kernel
theorem dX5_isSame_136 : decode cX5_isSame 136 = .ok (.iload 11, 2) := by decide +kernel
theorem dX5_isSame_138 : decode cX5_isSame 138 = .ok (.ifCond .eq 10, 3) := by decide +kernel
theorem dX5_isSame_141 : decode cX5_isSame 141 = .ok (.aload 9, 2) := by decide +kernel
theorem dX5_isSame_143 : decode cX5_isSame 143 = .ok (.iconst 1, 1) := by decide +kernel
theorem dX5_isSame_144 : decode cX5_isSame 144 = .ok (.iaload, 1) := by decide +kernel
theorem dX5_isSame_145 : decode cX5_isSame 145 = .ok (.goto 4, 3) := by decide +kernel
theorem dX5_isSame_148 : decode cX5_isSame 148 = .ok (.iconst (-1), 1) := by decide +kernel
theorem dX5_isSame_149 : decode cX5_isSame 149 = .ok (.if_icmp .ne 26, 3) := by decide +kernel
theorem dX5_isSame_152 : decode cX5_isSame 152 = .ok (.aload_n 1, 1) := by decide +kernel
theorem dX5_isSame_153 : decode cX5_isSame 153 = .ok (.iload 5, 2) := by decide +kernel
theorem dX5_isSame_155 : decode cX5_isSame 155 = .ok (.iload 8, 2) := by decide +kernel
theorem dX5_isSame_157 : decode cX5_isSame 157 = .ok (.iconst 2, 1) := by decide +kernel
theorem dX5_isSame_158 : decode cX5_isSame 158 = .ok (.invokevirtual 82, 3) := by decide +kernel
theorem dX5_isSame_161 : decode cX5_isSame 161 = .ok (.iload 11, 2) := by decide +kernel
theorem dX5_isSame_163 : decode cX5_isSame 163 = .ok (.ifCond .eq 8, 3) := by decide +kernel
theorem dX5_isSame_166 : decode cX5_isSame 166 = .ok (.iload 10, 2) := by decide +kernel
theorem dX5_isSame_168 : decode cX5_isSame 168 = .ok (.goto 4, 3) := by decide +kernel
theorem dX5_isSame_171 : decode cX5_isSame 171 = .ok (.iconst (-1), 1) := by decide +kernel
theorem dX5_isSame_172 : decode cX5_isSame 172 = .ok (.if_icmp .eq 5, 3) := by decide +kernel
theorem dX5_isSame_175 : decode cX5_isSame 175 = .ok (.iconst 0, 1) := by decide +kernel
theorem dX5_isSame_176 : decode cX5_isSame 176 = .ok (.ireturn, 1) := by decide +kernel
theorem dX5_isSame_177 : decode cX5_isSame 177 = .ok (.iload 4, 2) := by decide +kernel
theorem dX5_isSame_179 : decode cX5_isSame 179 = .ok (.iload 11, 2) := by decide +kernel
theorem dX5_isSame_181 : decode cX5_isSame 181 = .ok (.ifCond .eq 10, 3) := by decide +kernel
theorem dX5_isSame_184 : decode cX5_isSame 184 = .ok (.aload 9, 2) := by decide +kernel
theorem dX5_isSame_186 : decode cX5_isSame 186 = .ok (.iconst 1, 1) := by decide +kernel
theorem dX5_isSame_187 : decode cX5_isSame 187 = .ok (.iaload, 1) := by decide +kernel
theorem dX5_isSame_188 : decode cX5_isSame 188 = .ok (.goto 4, 3) := by decide +kernel
theorem dX5_isSame_191 : decode cX5_isSame 191 = .ok (.iconst 0, 1) := by decide +kernel
theorem dX5_isSame_192 : decode cX5_isSame 192 = .ok (.iadd, 1) := by decide +kernel
theorem dX5_isSame_193 : decode cX5_isSame 193 = .ok (.istore 4, 2) := by decide +kernel
theorem dX5_isSame_195 : decode cX5_isSame 195 = .ok (.aload_n 0, 1) := by decide +kernel
theorem dX5_isSame_196 : decode cX5_isSame 196 = .ok (.iload 5, 2) := by decide +kernel
theorem dX5_isSame_198 : decode cX5_isSame 198 = .ok (.iload 8, 2) := by decide +kernel
theorem dX5_isSame_200 : decode cX5_isSame 200 = .ok (.invokevirtual 68, 3) := by decide +kernel
theorem dX5_isSame_203 : decode cX5_isSame 203 = .ok (.iload 5, 2) := by decide +kernel
theorem dX5_isSame_205 : decode cX5_isSame 205 = .ok (.iaload, 1) := by decide +kernel
theorem dX5_isSame_206 : decode cX5_isSame 206 = .ok (.istore 12, 2) := by decide +kernel
theorem dX5_isSame_208 : decode cX5_isSame 208 = .ok (.aload_n 1, 1) := by decide +kernel
theorem dX5_isSame_209 : decode cX5_isSame 209 = .ok (.iload 5, 2) := by decide +kernel
theorem dX5_isSame_211 : decode cX5_isSame 211 = .ok (.iload 8, 2) := by decide +kernel
theorem dX5_isSame_213 : decode cX5_isSame 213 = .ok (.iconst 0, 1) := by decide +kernel
theorem dX5_isSame_214 : decode cX5_isSame 214 = .ok (.invokevirtual 87, 3) := by decide +kernel
theorem dX5_isSame_217 : decode cX5_isSame 217 = .ok (.iload 12, 2) := by decide +kernel
theorem dX5_isSame_219 : decode cX5_isSame 219 = .ok (.ldc 54, 2) := by decide +kernel
theorem dX5_isSame_221 : decode cX5_isSame 221 = .ok (.if_icmp .ge 11, 3) := by decide +kernel
theorem dX5_isSame_224 : decode cX5_isSame 224 = .ok (.iload 12, 2) := by decide +kernel
theorem dX5_isSame_226 : decode cX5_isSame 226 = .ok (.bipush 100, 2) := by decide +kernel
theorem dX5_isSame_228 : decode cX5_isSame 228 = .ok (.idiv, 1) := by decide +kernel
theorem dX5_isSame_229 : decode cX5_isSame 229 = .ok (.goto 4, 3) := by decide +kernel
theorem dX5_isSame_232 : decode cX5_isSame 232 = .ok (.iconst (-1), 1) := by decide +kernel
theorem dX5_isSame_233 : decode cX5_isSame 233 = .ok (.if_icmp .ne 51, 3) := by decide +kernel
theorem dX5_isSame_236 : decode cX5_isSame 236 = .ok (.aload_n 1, 1) := by decide +kernel
theorem dX5_isSame_237 : decode cX5_isSame 237 = .ok (.iload 5, 2) := by decide +kernel
theorem dX5_isSame_239 : decode cX5_isSame 239 = .ok (.iload 8, 2) := by decide +kernel
theorem dX5_isSame_241 : decode cX5_isSame 241 = .ok (.iconst 1, 1) := by decide +kernel
theorem dX5_isSame_242 : decode cX5_isSame 242 = .ok (.invokevirtual 87, 3) := by decide +kernel
theorem dX5_isSame_245 : decode cX5_isSame 245 = .ok (.iload 12, 2) := by decide +kernel
theorem dX5_isSame_247 : decode cX5_isSame 247 = .ok (.ldc 54, 2) := by decide +kernel
theorem dX5_isSame_249 : decode cX5_isSame 249 = .ok (.if_icmp .ge 11, 3) := by decide +kernel
theorem dX5_isSame_252 : decode cX5_isSame 252 = .ok (.iload 12, 2) := by decide +kernel
theorem dX5_isSame_254 : decode cX5_isSame 254 = .ok (.bipush 100, 2) := by decide +kernel
theorem dX5_isSame_256 : decode cX5_isSame 256 = .ok (.irem, 1) := by decide +kernel
theorem dX5_isSame_257 : decode cX5_isSame 257 = .ok (.goto 4, 3) := by decide +kernel
theorem dX5_isSame_260 : decode cX5_isSame 260 = .ok (.iconst (-1), 1) := by decide +kernel
theorem dX5_isSame_261 : decode cX5_isSame 261 = .ok (.if_icmp .ne 23, 3) := by decide +kernel
theorem dX5_isSame_264 : decode cX5_isSame 264 = .ok (.aload_n 1, 1) := by decide +kernel
theorem dX5_isSame_265 : decode cX5_isSame 265 = .ok (.iload 5, 2) := by decide +kernel
theorem dX5_isSame_267 : decode cX5_isSame 267 = .ok (.iload 8, 2) := by decide +kernel
theorem dX5_isSame_269 : decode cX5_isSame 269 = .ok (.iconst 2, 1) := by decide +kernel
theorem dX5_isSame_270 : decode cX5_isSame 270 = .ok (.invokevirtual 87, 3) := by decide +kernel
theorem dX5_isSame_273 : decode cX5_isSame 273 = .ok (.aload_n 0, 1) := by decide +kernel
theorem dX5_isSame_274 : decode cX5_isSame 274 = .ok (.iload 5, 2) := by decide +kernel
theorem dX5_isSame_276 : decode cX5_isSame 276 = .ok (.iload 8, 2) := by decide +kernel
theorem dX5_isSame_278 : decode cX5_isSame 278 = .ok (.invokevirtual 72, 3) := by decide +kernel
theorem dX5_isSame_281 : decode cX5_isSame 281 = .ok (.if_icmp .eq 5, 3) := by decide +kernel
theorem dX5_isSame_284 : decode cX5_isSame 284 = .ok (.iconst 0, 1) := by decide +kernel
theorem dX5_isSame_285 : decode cX5_isSame 285 = .ok (.ireturn, 1) := by decide +kernel
theorem dX5_isSame_286 : decode cX5_isSame 286 = .ok (.aload_n 0, 1) := by decide +kernel
theorem dX5_isSame_287 : decode cX5_isSame 287 = .ok (.iload 5, 2) := by decide +kernel
theorem dX5_isSame_289 : decode cX5_isSame 289 = .ok (.iload 8, 2) := by decide +kernel
theorem dX5_isSame_291 : decode cX5_isSame 291 = .ok (.invokevirtual 79, 3) := by decide +kernel
theorem dX5_isSame_294 : decode cX5_isSame 294 = .ok (.istore 13, 2) := by decide +kernel
theorem dX5_isSame_296 : decode cX5_isSame 296 = .ok (.aload_n 0, 1) := by decide +kernel
theorem dX5_isSame_297 : decode cX5_isSame 297 = .ok (.iconst (-1), 1) := by decide +kernel
theorem dX5_isSame_298 : decode cX5_isSame 298 = .ok (.iload 8, 2) := by decide +kernel
theorem dX5_isSame_300 : decode cX5_isSame 300 = .ok (.invokevirtual 68, 3) := by decide +kernel
theorem dX5_isSame_303 : decode cX5_isSame 303 = .ok (.iload 5, 2) := by decide +kernel
theorem dX5_isSame_305 : decode cX5_isSame 305 = .ok (.iaload, 1) := by decide +kernel
theorem dX5_isSame_306 : decode cX5_isSame 306 = .ok (.istore 14, 2) := by decide +kernel
theorem dX5_isSame_308 : decode cX5_isSame 308 = .ok (.aload_n 1, 1) := by decide +kernel
theorem dX5_isSame_309 : decode cX5_isSame 309 = .ok (.iload 5, 2) := by decide +kernel
theorem dX5_isSame_311 : decode cX5_isSame 311 = .ok (.iload 8, 2) := by decide +kernel
theorem dX5_isSame_313 : decode cX5_isSame 313 = .ok (.invokevirtual 90, 3) := by decide +kernel
theorem dX5_isSame_316 : decode cX5_isSame 316 = .ok (.iload 13, 2) := by decide +kernel
theorem dX5_isSame_318 : decode cX5_isSame 318 = .ok (.if_icmp .ne 30, 3) := by decide +kernel
theorem dX5_isSame_321 : decode cX5_isSame 321 = .ok (.aload_n 1, 1) := by decide +kernel
theorem dX5_isSame_322 : decode cX5_isSame 322 = .ok (.iload 5, 2) := by decide +kernel
theorem dX5_isSame_324 : decode cX5_isSame 324 = .ok (.iload 8, 2) := by decide +kernel
theorem dX5_isSame_326 : decode cX5_isSame 326 = .ok (.invokevirtual 91, 3) := by decide +kernel
theorem dX5_isSame_329 : decode cX5_isSame 329 = .ok (.iload 14, 2) := by decide +kernel
theorem dX5_isSame_331 : decode cX5_isSame 331 = .ok (.ldc 54, 2) := by decide +kernel
theorem dX5_isSame_333 : decode cX5_isSame 333 = .ok (.if_icmp .ge 11, 3) := by decide +kernel
theorem dX5_isSame_336 : decode cX5_isSame 336 = .ok (.iload 14, 2) := by decide +kernel
theorem dX5_isSame_338 : decode cX5_isSame 338 = .ok (.bipush 100, 2) := by decide +kernel
theorem dX5_isSame_340 : decode cX5_isSame 340 = .ok (.idiv, 1) := by decide +kernel
theorem dX5_isSame_341 : decode cX5_isSame 341 = .ok (.goto 4, 3) := by decide +kernel
theorem dX5_isSame_344 : decode cX5_isSame 344 = .ok (.iconst (-1), 1) := by decide +kernel
theorem dX5_isSame_345 : decode cX5_isSame 345 = .ok (.if_icmp .eq 5, 3) := by decide +kernel
theorem dX5_isSame_348 : decode cX5_isSame 348 = .ok (.iconst 0, 1) := by decide +kernel
theorem dX5_isSame_349 : decode cX5_isSame 349 = .ok (.ireturn, 1) := by decide +kernel
theorem dX5_isSame_350 : decode cX5_isSame 350 = .ok (.iload 6, 2) := by decide +kernel
theorem dX5_isSame_352 : decode cX5_isSame 352 = .ok (.iload 12, 2) := by decide +kernel
theorem dX5_isSame_354 : decode cX5_isSame 354 = .ok (.ldc 54, 2) := by decide +kernel
theorem dX5_isSame_356 : decode cX5_isSame 356 = .ok (.if_icmp .ge 7, 3) := by decide +kernel
theorem dX5_isSame_359 : decode cX5_isSame 359 = .ok (.iconst 1, 1) := by decide +kernel
theorem dX5_isSame_360 : decode cX5_isSame 360 = .ok (.goto 4, 3) := by decide +kernel
theorem dX5_isSame_363 : decode cX5_isSame 363 = .ok (.iconst 0, 1) := by decide +kernel
theorem dX5_isSame_364 : decode cX5_isSame 364 = .ok (.iadd, 1) := by decide +kernel
theorem dX5_isSame_365 : decode cX5_isSame 365 = .ok (.istore 6, 2) := by decide +kernel
theorem dX5_isSame_367 : decode cX5_isSame 367 = .ok (.iload 7, 2) := by decide +kernel
theorem dX5_isSame_369 : decode cX5_isSame 369 = .ok (.iload 13, 2) := by decide +kernel
theorem dX5_isSame_371 : decode cX5_isSame 371 = .ok (.ifCond .lt 7, 3) := by decide +kernel
theorem dX5_isSame_374 : decode cX5_isSame 374 = .ok (.iconst 1, 1) := by decide +kernel
theorem dX5_isSame_375 : decode cX5_isSame 375 = .ok (.goto 4, 3) := by decide +kernel
theorem dX5_isSame_378 : decode cX5_isSame 378 = .ok (.iconst 0, 1) := by decide +kernel
theorem dX5_isSame_379 : decode cX5_isSame 379 = .ok (.iadd, 1) := by decide +kernel
theorem dX5_isSame_380 : decode cX5_isSame 380 = .ok (.istore 7, 2) := by decide +kernel
theorem dX5_isSame_382 : decode cX5_isSame 382 = .ok (.iinc 8 1, 3) := by decide +kernel
theorem dX5_isSame_385 : decode cX5_isSame 385 = .ok (.goto (-356), 3) := by decide +kernel
theorem dX5_isSame_388 : decode cX5_isSame 388 = .ok (.iload_n 3, 1) := by decide +kernel
theorem dX5_isSame_389 : decode cX5_isSame 389 = .ok (.iload 7, 2) := by decide +kernel
theorem dX5_isSame_391 : decode cX5_isSame 391 = .ok (.iconst 1, 1) := by decide +kernel
theorem dX5_isSame_392 : decode cX5_isSame 392 = .ok (.isub, 1) := by decide +kernel
theorem dX5_isSame_393 : decode cX5_isSame 393 = .ok (.iadd, 1) := by decide +kernel
theorem dX5_isSame_394 : decode cX5_isSame 394 = .ok (.istore_n 3, 1) := by decide +kernel
theorem dX5_isSame_395 : decode cX5_isSame 395 = .ok (.iconst 5, 1) := by decide +kernel
theorem dX5_isSame_396 : decode cX5_isSame 396 = .ok (.newarray .int, 2) := by decide +kernel
theorem dX5_isSame_398 : decode cX5_isSame 398 = .ok (.dup, 1) := by decide +kernel
theorem dX5_isSame_399 : decode cX5_isSame 399 = .ok (.iconst 0, 1) := by decide +kernel
theorem dX5_isSame_400 : decode cX5_isSame 400 = .ok (.aload_n 0, 1) := by decide +kernel
theorem dX5_isSame_401 : decode cX5_isSame 401 = .ok (.getfield 9, 3) := by decide +kernel
theorem dX5_isSame_404 : decode cX5_isSame 404 = .ok (.iload 5, 2) := by decide +kernel
theorem dX5_isSame_406 : decode cX5_isSame 406 = .ok (.iaload, 1) := by decide +kernel
theorem dX5_isSame_407 : decode cX5_isSame 407 = .ok (.iastore, 1) := by decide +kernel
theorem dX5_isSame_408 : decode cX5_isSame 408 = .ok (.dup, 1) := by decide +kernel
theorem dX5_isSame_409 : decode cX5_isSame 409 = .ok (.iconst 1, 1) := by decide +kernel
theorem dX5_isSame_410 : decode cX5_isSame 410 = .ok (.aload_n 0, 1) := by decide +kernel
theorem dX5_isSame_411 : decode cX5_isSame 411 = .ok (.iload 5, 2) := by decide +kernel
theorem dX5_isSame_413 : decode cX5_isSame 413 = .ok (.invokevirtual 75, 3) := by decide +kernel
theorem dX5_isSame_416 : decode cX5_isSame 416 = .ok (.iastore, 1) := by decide +kernel
theorem dX5_isSame_417 : decode cX5_isSame 417 = .ok (.dup, 1) := by decide +kernel
theorem dX5_isSame_418 : decode cX5_isSame 418 = .ok (.iconst 2, 1) := by decide +kernel
theorem dX5_isSame_419 : decode cX5_isSame 419 = .ok (.aload_n 0, 1) := by decide +kernel
theorem dX5_isSame_420 : decode cX5_isSame 420 = .ok (.getfield 15, 3) := by decide +kernel
theorem dX5_isSame_423 : decode cX5_isSame 423 = .ok (.iload 5, 2) := by decide +kernel
theorem dX5_isSame_425 : decode cX5_isSame 425 = .ok (.iaload, 1) := by decide +kernel
theorem dX5_isSame_426 : decode cX5_isSame 426 = .ok (.iastore, 1) := by decide +kernel
theorem dX5_isSame_427 : decode cX5_isSame 427 = .ok (.dup, 1) := by decide +kernel
theorem dX5_isSame_428 : decode cX5_isSame 428 = .ok (.iconst 3, 1) := by decide +kernel
theorem dX5_isSame_429 : decode cX5_isSame 429 = .ok (.iload 6, 2) := by decide +kernel
theorem dX5_isSame_431 : decode cX5_isSame 431 = .ok (.iastore, 1) := by decide +kernel
theorem dX5_isSame_432 : decode cX5_isSame 432 = .ok (.dup, 1) := by decide +kernel
theorem dX5_isSame_433 : decode cX5_isSame 433 = .ok (.iconst 4, 1) := by decide +kernel
theorem dX5_isSame_434 : decode cX5_isSame 434 = .ok (.iload 7, 2) := by decide +kernel
theorem dX5_isSame_436 : decode cX5_isSame 436 = .ok (.iastore, 1) := by decide +kernel
theorem dX5_isSame_437 : decode cX5_isSame 437 = .ok (.astore 8, 2) := by decide +kernel
theorem dX5_isSame_439 : decode cX5_isSame 439 = .ok (.iconst 0, 1) := by decide +kernel
theorem dX5_isSame_440 : decode cX5_isSame 440 = .ok (.istore 9, 2) := by decide +kernel
theorem dX5_isSame_442 : decode cX5_isSame 442 = .ok (.iload 9, 2) := by decide +kernel
theorem dX5_isSame_444 : decode cX5_isSame 444 = .ok (.iconst 5, 1) := by decide +kernel
theorem dX5_isSame_445 : decode cX5_isSame 445 = .ok (.if_icmp .ge 27, 3) := by decide +kernel
theorem dX5_isSame_448 : decode cX5_isSame 448 = .ok (.aload_n 1, 1) := by decide +kernel
theorem dX5_isSame_449 : decode cX5_isSame 449 = .ok (.iload 5, 2) := by decide +kernel
theorem dX5_isSame_451 : decode cX5_isSame 451 = .ok (.iload 9, 2) := by decide +kernel
theorem dX5_isSame_453 : decode cX5_isSame 453 = .ok (.invokevirtual 94, 3) := by decide +kernel
theorem dX5_isSame_456 : decode cX5_isSame 456 = .ok (.aload 8, 2) := by decide +kernel
theorem dX5_isSame_458 : decode cX5_isSame 458 = .ok (.iload 9, 2) := by decide +kernel
theorem dX5_isSame_460 : decode cX5_isSame 460 = .ok (.iaload, 1) := by decide +kernel
theorem dX5_isSame_461 : decode cX5_isSame 461 = .ok (.if_icmp .eq 5, 3) := by decide +kernel
theorem dX5_isSame_464 : decode cX5_isSame 464 = .ok (.iconst 0, 1) := by decide +kernel
theorem dX5_isSame_465 : decode cX5_isSame 465 = .ok (.ireturn, 1) := by decide +kernel
theorem dX5_isSame_466 : decode cX5_isSame 466 = .ok (.iinc 9 1, 3) := by decide +kernel
theorem dX5_isSame_469 : decode cX5_isSame 469 = .ok (.goto (-27), 3) := by decide +kernel
theorem dX5_isSame_472 : decode cX5_isSame 472 = .ok (.iinc 5 1, 3) := by decide +kernel
theorem dX5_isSame_475 : decode cX5_isSame 475 = .ok (.goto (-461), 3) := by decide +kernel
theorem dX5_isSame_478 : decode cX5_isSame 478 = .ok (.iconst 0, 1) := by decide +kernel
theorem dX5_isSame_479 : decode cX5_isSame 479 = .ok (.istore 5, 2) := by decide +kernel
theorem dX5_isSame_481 : decode cX5_isSame 481 = .ok (.iconst 0, 1) := by decide +kernel
theorem dX5_isSame_482 : decode cX5_isSame 482 = .ok (.istore 6, 2) := by decide +kernel
theorem dX5_isSame_484 : decode cX5_isSame 484 = .ok (.iload 6, 2) := by decide +kernel
theorem dX5_isSame_486 : decode cX5_isSame 486 = .ok (.aload_n 0, 1) := by decide +kernel
theorem dX5_isSame_487 : decode cX5_isSame 487 = .ok (.getfield 25, 3) := by decide +kernel
theorem dX5_isSame_490 : decode cX5_isSame 490 = .ok (.arraylength, 1) := by decide +kernel
theorem dX5_isSame_491 : decode cX5_isSame 491 = .ok (.if_icmp .ge 114, 3) := by decide +kernel
theorem dX5_isSame_494 : decode cX5_isSame 494 = .ok (.iconst 0, 1) := by decide +kernel
theorem dX5_isSame_495 : decode cX5_isSame 495 = .ok (.istore 7, 2) := by decide +kernel
theorem dX5_isSame_497 : decode cX5_isSame 497 = .ok (.iconst 0, 1) := by decide +kernel
theorem dX5_isSame_498 : decode cX5_isSame 498 = .ok (.istore 8, 2) := by decide +kernel
theorem dX5_isSame_500 : decode cX5_isSame 500 = .ok (.iload 8, 2) := by decide +kernel
theorem dX5_isSame_502 : decode cX5_isSame 502 = .ok (.iload_n 2, 1) := by decide +kernel
theorem dX5_isSame_503 : decode cX5_isSame 503 = .ok (.if_icmp .ge 30, 3) := by decide +kernel
theorem dX5_isSame_506 : decode cX5_isSame 506 = .ok (.iload 7, 2) := by decide +kernel
theorem dX5_isSame_508 : decode cX5_isSame 508 = .ok (.aload_n 0, 1) := by decide +kernel
theorem dX5_isSame_509 : decode cX5_isSame 509 = .ok (.iload 8, 2) := by decide +kernel
theorem dX5_isSame_511 : decode cX5_isSame 511 = .ok (.iload 6, 2) := by decide +kernel
theorem dX5_isSame_513 : decode cX5_isSame 513 = .ok (.invokevirtual 64, 3) := by decide +kernel
theorem dX5_isSame_516 : decode cX5_isSame 516 = .ok (.ifCond .eq 7, 3) := by decide +kernel
theorem dX5_isSame_519 : decode cX5_isSame 519 = .ok (.iconst 1, 1) := by decide +kernel
theorem dX5_isSame_520 : decode cX5_isSame 520 = .ok (.goto 4, 3) := by decide +kernel
theorem dX5_isSame_523 : decode cX5_isSame 523 = .ok (.iconst 0, 1) := by decide +kernel
theorem dX5_isSame_524 : decode cX5_isSame 524 = .ok (.iadd, 1) := by decide +kernel
theorem dX5_isSame_525 : decode cX5_isSame 525 = .ok (.istore 7, 2) := by decide +kernel
theorem dX5_isSame_527 : decode cX5_isSame 527 = .ok (.iinc 8 1, 3) := by decide +kernel
theorem dX5_isSame_530 : decode cX5_isSame 530 = .ok (.goto (-30), 3) := by decide +kernel
theorem dX5_isSame_533 : decode cX5_isSame 533 = .ok (.iconst 0, 1) := by decide +kernel
theorem dX5_isSame_534 : decode cX5_isSame 534 = .ok (.istore 8, 2) := by decide +kernel
theorem dX5_isSame_536 : decode cX5_isSame 536 = .ok (.iload 8, 2) := by decide +kernel
theorem dX5_isSame_538 : decode cX5_isSame 538 = .ok (.iconst 4, 1) := by decide +kernel
theorem dX5_isSame_539 : decode cX5_isSame 539 = .ok (.if_icmp .ge 32, 3) := by decide +kernel
theorem dX5_isSame_542 : decode cX5_isSame 542 = .ok (.aload_n 1, 1) := by decide +kernel
theorem dX5_isSame_543 : decode cX5_isSame 543 = .ok (.iload 6, 2) := by decide +kernel
theorem dX5_isSame_545 : decode cX5_isSame 545 = .ok (.iload 8, 2) := by decide +kernel
theorem dX5_isSame_547 : decode cX5_isSame 547 = .ok (.invokevirtual 96, 3) := by decide +kernel
theorem dX5_isSame_550 : decode cX5_isSame 550 = .ok (.aload_n 0, 1) := by decide +kernel
theorem dX5_isSame_551 : decode cX5_isSame 551 = .ok (.getfield 25, 3) := by decide +kernel
theorem dX5_isSame_554 : decode cX5_isSame 554 = .ok (.iload 6, 2) := by decide +kernel
theorem dX5_isSame_556 : decode cX5_isSame 556 = .ok (.aaload, 1) := by decide +kernel
theorem dX5_isSame_557 : decode cX5_isSame 557 = .ok (.iload 8, 2) := by decide +kernel
theorem dX5_isSame_559 : decode cX5_isSame 559 = .ok (.iaload, 1) := by decide +kernel
theorem dX5_isSame_560 : decode cX5_isSame 560 = .ok (.if_icmp .eq 5, 3) := by decide +kernel
theorem dX5_isSame_563 : decode cX5_isSame 563 = .ok (.iconst 0, 1) := by decide +kernel
theorem dX5_isSame_564 : decode cX5_isSame 564 = .ok (.ireturn, 1) := by decide +kernel
theorem dX5_isSame_565 : decode cX5_isSame 565 = .ok (.iinc 8 1, 3) := by decide +kernel
theorem dX5_isSame_568 : decode cX5_isSame 568 = .ok (.goto (-32), 3) := by decide +kernel
theorem dX5_isSame_571 : decode cX5_isSame 571 = .ok (.aload_n 1, 1) := by decide +kernel
theorem dX5_isSame_572 : decode cX5_isSame 572 = .ok (.iload 6, 2) := by decide +kernel
theorem dX5_isSame_574 : decode cX5_isSame 574 = .ok (.iconst 4, 1) := by decide +kernel
theorem dX5_isSame_575 : decode cX5_isSame 575 = .ok (.invokevirtual 96, 3) := by decide +kernel
theorem dX5_isSame_578 : decode cX5_isSame 578 = .ok (.iload 7, 2) := by decide +kernel
theorem dX5_isSame_580 : decode cX5_isSame 580 = .ok (.if_icmp .eq 5, 3) := by decide +kernel
theorem dX5_isSame_583 : decode cX5_isSame 583 = .ok (.iconst 0, 1) := by decide +kernel
theorem dX5_isSame_584 : decode cX5_isSame 584 = .ok (.ireturn, 1) := by decide +kernel
theorem dX5_isSame_585 : decode cX5_isSame 585 = .ok (.iload 5, 2) := by decide +kernel
theorem dX5_isSame_587 : decode cX5_isSame 587 = .ok (.aload_n 0, 1) := by decide +kernel
theorem dX5_isSame_588 : decode cX5_isSame 588 = .ok (.getfield 25, 3) := by decide +kernel
theorem dX5_isSame_591 : decode cX5_isSame 591 = .ok (.iload 6, 2) := by decide +kernel
theorem dX5_isSame_593 : decode cX5_isSame 593 = .ok (.aaload, 1) := by decide +kernel
theorem dX5_isSame_594 : decode cX5_isSame 594 = .ok (.iconst 3, 1) := by decide +kernel
theorem dX5_isSame_595 : decode cX5_isSame 595 = .ok (.iaload, 1) := by decide +kernel
theorem dX5_isSame_596 : decode cX5_isSame 596 = .ok (.iadd, 1) := by decide +kernel
theorem dX5_isSame_597 : decode cX5_isSame 597 = .ok (.istore 5, 2) := by decide +kernel
theorem dX5_isSame_599 : decode cX5_isSame 599 = .ok (.iinc 6 1, 3) := by decide +kernel
theorem dX5_isSame_602 : decode cX5_isSame 602 = .ok (.goto (-118), 3) := by decide +kernel
theorem dX5_isSame_605 : decode cX5_isSame 605 = .ok (.aload_n 0, 1) := by decide +kernel
theorem dX5_isSame_606 : decode cX5_isSame 606 = .ok (.invokevirtual 99, 3) := by decide +kernel
theorem dX5_isSame_609 : decode cX5_isSame 609 = .ok (.istore 6, 2) := by decide +kernel
theorem dX5_isSame_611 : decode cX5_isSame 611 = .ok (.bipush 7, 2) := by decide +kernel
theorem dX5_isSame_613 : decode cX5_isSame 613 = .ok (.newarray .int, 2) := by decide +kernel
theorem dX5_isSame_615 : decode cX5_isSame 615 = .ok (.dup, 1) := by decide +kernel
theorem dX5_isSame_616 : decode cX5_isSame 616 = .ok (.iconst 0, 1) := by decide +kernel
theorem dX5_isSame_617 : decode cX5_isSame 617 = .ok (.aload_n 0, 1) := by decide +kernel
theorem dX5_isSame_618 : decode cX5_isSame 618 = .ok (.getfield 29, 3) := by decide +kernel
theorem dX5_isSame_621 : decode cX5_isSame 621 = .ok (.iastore, 1) := by decide +kernel
theorem dX5_isSame_622 : decode cX5_isSame 622 = .ok (.dup, 1) := by decide +kernel
theorem dX5_isSame_623 : decode cX5_isSame 623 = .ok (.iconst 1, 1) := by decide +kernel
theorem dX5_isSame_624 : decode cX5_isSame 624 = .ok (.iload_n 2, 1) := by decide +kernel
theorem dX5_isSame_625 : decode cX5_isSame 625 = .ok (.iastore, 1) := by decide +kernel
theorem dX5_isSame_626 : decode cX5_isSame 626 = .ok (.dup, 1) := by decide +kernel
theorem dX5_isSame_627 : decode cX5_isSame 627 = .ok (.iconst 2, 1) := by decide +kernel
theorem dX5_isSame_628 : decode cX5_isSame 628 = .ok (.aload_n 0, 1) := by decide +kernel
theorem dX5_isSame_629 : decode cX5_isSame 629 = .ok (.getfield 25, 3) := by decide +kernel
theorem dX5_isSame_632 : decode cX5_isSame 632 = .ok (.arraylength, 1) := by decide +kernel
theorem dX5_isSame_633 : decode cX5_isSame 633 = .ok (.iastore, 1) := by decide +kernel
theorem dX5_isSame_634 : decode cX5_isSame 634 = .ok (.dup, 1) := by decide +kernel
theorem dX5_isSame_635 : decode cX5_isSame 635 = .ok (.iconst 3, 1) := by decide +kernel
theorem dX5_isSame_636 : decode cX5_isSame 636 = .ok (.iload 5, 2) := by decide +kernel
theorem dX5_isSame_638 : decode cX5_isSame 638 = .ok (.iastore, 1) := by decide +kernel
theorem dX5_isSame_639 : decode cX5_isSame 639 = .ok (.dup, 1) := by decide +kernel
theorem dX5_isSame_640 : decode cX5_isSame 640 = .ok (.iconst 4, 1) := by decide +kernel
theorem dX5_isSame_641 : decode cX5_isSame 641 = .ok (.iload 6, 2) := by decide +kernel
theorem dX5_isSame_643 : decode cX5_isSame 643 = .ok (.iastore, 1) := by decide +kernel
theorem dX5_isSame_644 : decode cX5_isSame 644 = .ok (.dup, 1) := by decide +kernel
theorem dX5_isSame_645 : decode cX5_isSame 645 = .ok (.iconst 5, 1) := by decide +kernel
theorem dX5_isSame_646 : decode cX5_isSame 646 = .ok (.iload_n 3, 1) := by decide +kernel
theorem dX5_isSame_647 : decode cX5_isSame 647 = .ok (.iastore, 1) := by decide +kernel
theorem dX5_isSame_648 : decode cX5_isSame 648 = .ok (.dup, 1) := by decide +kernel
theorem dX5_isSame_649 : decode cX5_isSame 649 = .ok (.bipush 6, 2) := by decide +kernel
theorem dX5_isSame_651 : decode cX5_isSame 651 = .ok (.aload_n 0, 1) := by decide +kernel
theorem dX5_isSame_652 : decode cX5_isSame 652 = .ok (.iconst 0, 1) := by decide +kernel
theorem dX5_isSame_653 : decode cX5_isSame 653 = .ok (.invokevirtual 103, 3) := by decide +kernel
theorem dX5_isSame_656 : decode cX5_isSame 656 = .ok (.iastore, 1) := by decide +kernel
theorem dX5_isSame_657 : decode cX5_isSame 657 = .ok (.astore 7, 2) := by decide +kernel
theorem dX5_isSame_659 : decode cX5_isSame 659 = .ok (.iconst 0, 1) := by decide +kernel
theorem dX5_isSame_660 : decode cX5_isSame 660 = .ok (.istore 8, 2) := by decide +kernel
theorem dX5_isSame_662 : decode cX5_isSame 662 = .ok (.iload 8, 2) := by decide +kernel
theorem dX5_isSame_664 : decode cX5_isSame 664 = .ok (.bipush 7, 2) := by decide +kernel
theorem dX5_isSame_666 : decode cX5_isSame 666 = .ok (.if_icmp .ge 25, 3) := by decide +kernel
theorem dX5_isSame_669 : decode cX5_isSame 669 = .ok (.aload_n 1, 1) := by decide +kernel
theorem dX5_isSame_670 : decode cX5_isSame 670 = .ok (.iload 8, 2) := by decide +kernel
theorem dX5_isSame_672 : decode cX5_isSame 672 = .ok (.invokevirtual 107, 3) := by decide +kernel
theorem dX5_isSame_675 : decode cX5_isSame 675 = .ok (.aload 7, 2) := by decide +kernel
theorem dX5_isSame_677 : decode cX5_isSame 677 = .ok (.iload 8, 2) := by decide +kernel
theorem dX5_isSame_679 : decode cX5_isSame 679 = .ok (.iaload, 1) := by decide +kernel
theorem dX5_isSame_680 : decode cX5_isSame 680 = .ok (.if_icmp .eq 5, 3) := by decide +kernel
theorem dX5_isSame_683 : decode cX5_isSame 683 = .ok (.iconst 0, 1) := by decide +kernel
theorem dX5_isSame_684 : decode cX5_isSame 684 = .ok (.ireturn, 1) := by decide +kernel
theorem dX5_isSame_685 : decode cX5_isSame 685 = .ok (.iinc 8 1, 3) := by decide +kernel
theorem dX5_isSame_688 : decode cX5_isSame 688 = .ok (.goto (-26), 3) := by decide +kernel
theorem dX5_isSame_691 : decode cX5_isSame 691 = .ok (.aload_n 1, 1) := by decide +kernel
theorem dX5_isSame_692 : decode cX5_isSame 692 = .ok (.invokevirtual 110, 3) := by decide +kernel
theorem dX5_isSame_695 : decode cX5_isSame 695 = .ok (.iload 6, 2) := by decide +kernel
theorem dX5_isSame_697 : decode cX5_isSame 697 = .ok (.ifCond .ne 7, 3) := by decide +kernel
theorem dX5_isSame_700 : decode cX5_isSame 700 = .ok (.dconst 0, 1) := by decide +kernel
theorem dX5_isSame_701 : decode cX5_isSame 701 = .ok (.goto 10, 3) := by decide +kernel
theorem dX5_isSame_704 : decode cX5_isSame 704 = .ok (.iload 4, 2) := by decide +kernel
theorem dX5_isSame_706 : decode cX5_isSame 706 = .ok (.i2d, 1) := by decide +kernel
theorem dX5_isSame_707 : decode cX5_isSame 707 = .ok (.iload 6, 2) := by decide +kernel
theorem dX5_isSame_709 : decode cX5_isSame 709 = .ok (.i2d, 1) := by decide +kernel
theorem dX5_isSame_710 : decode cX5_isSame 710 = .ok (.ddiv, 1) := by decide +kernel
theorem dX5_isSame_711 : decode cX5_isSame 711 = .ok (.dcmp .l, 1) := by decide +kernel
theorem dX5_isSame_712 : decode cX5_isSame 712 = .ok (.ifCond .ne 7, 3) := by decide +kernel
theorem dX5_isSame_715 : decode cX5_isSame 715 = .ok (.iconst 1, 1) := by decide +kernel
theorem dX5_isSame_716 : decode cX5_isSame 716 = .ok (.goto 4, 3) := by decide +kernel
theorem dX5_isSame_719 : decode cX5_isSame 719 = .ok (.iconst 0, 1) := by decide +kernel
theorem dX5_isSame_720 : decode cX5_isSame 720 = .ok (.ireturn, 1) := by decide +kernel
