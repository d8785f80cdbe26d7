/-! printed: decode rows and words of the law's methods -/
theorem dL_draw_0 : decode cL_draw 0 = .ok (.iload_n 1, 1) := by decide +kernel
theorem dL_draw_1 : decode cL_draw 1 = .ok (.aload_n 0, 1) := by decide +kernel
theorem dL_draw_2 : decode cL_draw 2 = .ok (.arraylength, 1) := by decide +kernel
theorem dL_draw_3 : decode cL_draw 3 = .ok (.if_icmp .ge 9, 3) := by decide +kernel
theorem dL_draw_6 : decode cL_draw 6 = .ok (.aload_n 0, 1) := by decide +kernel
theorem dL_draw_7 : decode cL_draw 7 = .ok (.iload_n 1, 1) := by decide +kernel
theorem dL_draw_8 : decode cL_draw 8 = .ok (.iaload, 1) := by decide +kernel
theorem dL_draw_9 : decode cL_draw 9 = .ok (.goto 14, 3) := by decide +kernel
theorem dL_draw_12 : decode cL_draw 12 = .ok (.ldc 7, 2) := by decide +kernel
theorem dL_draw_14 : decode cL_draw 14 = .ok (.iload_n 1, 1) := by decide +kernel
theorem dL_draw_15 : decode cL_draw 15 = .ok (.sipush 229, 3) := by decide +kernel
theorem dL_draw_18 : decode cL_draw 18 = .ok (.iadd, 1) := by decide +kernel
theorem dL_draw_19 : decode cL_draw 19 = .ok (.imul, 1) := by decide +kernel
theorem dL_draw_20 : decode cL_draw 20 = .ok (.ldc 8, 2) := by decide +kernel
theorem dL_draw_22 : decode cL_draw 22 = .ok (.iadd, 1) := by decide +kernel
theorem dL_draw_23 : decode cL_draw 23 = .ok (.istore_n 3, 1) := by decide +kernel
theorem dL_draw_24 : decode cL_draw 24 = .ok (.iload_n 3, 1) := by decide +kernel
theorem dL_draw_25 : decode cL_draw 25 = .ok (.ldc 9, 2) := by decide +kernel
theorem dL_draw_27 : decode cL_draw 27 = .ok (.iand, 1) := by decide +kernel
theorem dL_draw_28 : decode cL_draw 28 = .ok (.iload_n 2, 1) := by decide +kernel
theorem dL_draw_29 : decode cL_draw 29 = .ok (.irem, 1) := by decide +kernel
theorem dL_draw_30 : decode cL_draw 30 = .ok (.ireturn, 1) := by decide +kernel
set_option maxRecDepth 20000 in
theorem ggL_asks_X5_begin : GoodIn wsL_asks wsX5_begin := goodIn_ca (goodIn_r _ [13, 14, 15, 16, 17, 18, 19, 20, 21, 22, 23, 24, 25, 26, 27, 28, 29, 30, 31, 32, 33, 34, 35, 36, 37, 38, 39, 40, 41, 42, 43, 44, 45, 46, 47, 48, 49, 50, 51, 52, 53, 54, 55, 56, 57, 58, 59, 60, 61, 62, 63, 64, 65, 66, 67, 68, 69, 70, 71, 72, 73, 74, 75, 76, 77, 78, 79, 80, 81, 82, 83, 84, 85, 86, 87, 88, 89, 90, 252, 253, 254, 255, 256, 257, 258, 259, 260, 261, 262, 263, 264, 265, 266, 267] (by decide +kernel) (by decide +kernel)) (goodIn_sub (fun _ h => List.mem_cons_of_mem _ (List.mem_append_left _ (List.mem_append_left _ (List.mem_append_left _ (List.mem_append_right _ h))))) (by decide +kernel))
set_option maxRecDepth 20000 in
theorem gL_asks_X5_begin : GoodIn wsL_asks (wsV RL 10 RX5 yX5_begin wsX5_begin) := goodIn_app (goodIn_of _ (by decide +kernel)) ggL_asks_X5_begin
set_option maxRecDepth 20000 in
theorem ggL_asks_X5_write : GoodIn wsL_asks wsX5_write := goodIn_ca (goodIn_ca (goodIn_ca (goodIn_r _ [94, 95, 96, 14, 15, 97, 98, 99, 100, 101, 102, 103, 104, 105, 106, 12, 107, 108, 109, 16, 110, 21, 22, 23, 24, 25, 26, 111, 112, 113, 114, 115, 116, 117, 118, 119, 120, 121, 122, 123, 124, 125, 126, 43, 127, 128, 129, 130, 131, 132, 133, 134, 135, 136, 137, 138, 139, 140, 141, 142, 143, 144, 145, 146, 147, 148, 149, 150, 151, 152, 153, 154, 155, 156, 157, 158, 159, 160, 161, 162, 163, 164, 165, 166, 167, 168, 169, 170, 171, 172, 173, 174, 175, 176, 177, 178, 179, 180, 181, 182, 183, 184, 185, 186, 187, 30, 31, 188, 189, 37, 38, 39, 40, 41, 42, 44, 45, 46, 47, 48, 49, 50, 51, 52, 53, 54, 55, 56, 57, 58, 59, 60, 61, 62, 63, 64, 65, 66, 67, 68, 69, 70, 71, 72, 73, 74, 75, 76, 77, 78, 79, 80, 81, 82, 83, 84, 85, 86, 87, 88, 89, 90, 190, 191, 192, 268, 269, 252, 253, 254, 255, 256, 257, 258, 259, 270, 271, 272, 273, 265, 266, 267, 260, 261, 262, 263, 264, 274, 275, 276] (by decide +kernel) (by decide +kernel)) (goodIn_sub (fun _ h => List.mem_cons_of_mem _ (List.mem_append_left _ (List.mem_append_left _ (List.mem_append_right _ h)))) (by decide +kernel))) (goodIn_sub (fun _ h => List.mem_cons_of_mem _ (List.mem_append_left _ (List.mem_append_left _ (List.mem_append_left _ (List.mem_append_right _ h))))) (by decide +kernel))) (goodIn_sub (fun _ h => List.mem_cons_of_mem _ (List.mem_append_left _ (List.mem_append_right _ h))) (by decide +kernel))
set_option maxRecDepth 20000 in
theorem gL_asks_X5_write : GoodIn wsL_asks (wsV RL 16 RX5 yX5_write wsX5_write) := goodIn_app (goodIn_of _ (by decide +kernel)) ggL_asks_X5_write
set_option maxRecDepth 20000 in
theorem ggL_asks_X5_read : GoodIn wsL_asks wsX5_read := goodIn_ca (goodIn_ca (goodIn_ca (goodIn_r _ [196, 104, 105, 106, 12, 107, 108, 109, 16, 110, 21, 22, 23, 24, 25, 26, 111, 112, 113, 114, 115, 116, 117, 118, 119, 120, 121, 122, 123, 124, 125, 126, 43, 127, 128, 129, 130, 131, 132, 133, 134, 135, 14, 15, 197, 198, 199, 200, 201, 202, 99, 203, 204, 205, 206, 103, 144, 145, 102, 146, 147, 148, 149, 207, 208, 209, 188, 210, 19, 211, 212, 33, 173, 174, 175, 176, 177, 178, 164, 179, 180, 167, 168, 169, 170, 171, 172, 213, 214, 215, 216, 260, 261, 262, 263, 264, 252, 253, 254, 255, 256, 257, 258, 259, 265, 266, 267, 268, 269, 270, 271, 272, 273, 274, 275, 276] (by decide +kernel) (by decide +kernel)) (goodIn_sub (fun _ h => List.mem_cons_of_mem _ (List.mem_append_left _ (List.mem_append_right _ h))) (by decide +kernel))) (goodIn_sub (fun _ h => List.mem_cons_of_mem _ (List.mem_append_left _ (List.mem_append_left _ (List.mem_append_left _ (List.mem_append_right _ h))))) (by decide +kernel))) (goodIn_sub (fun _ h => List.mem_cons_of_mem _ (List.mem_append_right _ h)) (by decide +kernel))
set_option maxRecDepth 20000 in
theorem gL_asks_X5_read : GoodIn wsL_asks (wsV RL 20 RX5 yX5_read wsX5_read) := goodIn_app (goodIn_of _ (by decide +kernel)) ggL_asks_X5_read
set_option maxRecDepth 20000 in
theorem ggL_asks_X5_readAt : GoodIn wsL_asks wsX5_readAt := goodIn_ca (goodIn_ca (goodIn_ca (goodIn_r _ [220, 127, 128, 129, 12, 130, 108, 109, 131, 221, 222, 223, 224, 95, 96, 20, 197, 198, 199, 200, 201, 202, 99, 203, 204, 205, 206, 103, 144, 21, 22, 23, 24, 25, 26, 111, 112, 113, 114, 115, 116, 117, 118, 119, 120, 121, 122, 123, 124, 125, 126, 43, 145, 102, 146, 147, 148, 149, 207, 208, 209, 188, 210, 19, 211, 212, 33, 173, 174, 175, 176, 177, 178, 164, 179, 180, 167, 168, 169, 170, 171, 172, 213, 214, 215, 216, 252, 253, 254, 255, 256, 257, 258, 259, 268, 269, 265, 266, 267, 270, 271, 272, 273, 260, 261, 262, 263, 264, 274, 275, 276] (by decide +kernel) (by decide +kernel)) (goodIn_sub (fun _ h => List.mem_cons_of_mem _ (List.mem_append_left _ (List.mem_append_right _ h))) (by decide +kernel))) (goodIn_sub (fun _ h => List.mem_cons_of_mem _ (List.mem_append_left _ (List.mem_append_left _ (List.mem_append_right _ h)))) (by decide +kernel))) (goodIn_sub (fun _ h => List.mem_cons_of_mem _ (List.mem_append_right _ h)) (by decide +kernel))
set_option maxRecDepth 20000 in
theorem gL_asks_X5_readAt : GoodIn wsL_asks (wsV RL 24 RX5 yX5_readAt wsX5_readAt) := goodIn_app (goodIn_of _ (by decide +kernel)) ggL_asks_X5_readAt
set_option maxRecDepth 20000 in
theorem ggL_asks_X5_save : GoodIn wsL_asks wsX5_save := goodIn_ca (goodIn_ca (goodIn_r _ [228, 104, 105, 106, 12, 107, 108, 109, 16, 110, 21, 22, 23, 24, 25, 26, 111, 112, 113, 114, 115, 116, 117, 118, 119, 120, 121, 122, 123, 124, 125, 126, 43, 132, 133, 134, 135, 14, 15, 260, 261, 262, 263, 264, 252, 253, 254, 255, 256, 257, 258, 259, 265, 266, 267] (by decide +kernel) (by decide +kernel)) (goodIn_sub (fun _ h => List.mem_cons_of_mem _ (List.mem_append_left _ (List.mem_append_right _ h))) (by decide +kernel))) (goodIn_sub (fun _ h => List.mem_cons_of_mem _ (List.mem_append_left _ (List.mem_append_left _ (List.mem_append_left _ (List.mem_append_right _ h))))) (by decide +kernel))
set_option maxRecDepth 20000 in
theorem gL_asks_X5_save : GoodIn wsL_asks (wsV RL 27 RX5 yX5_save wsX5_save) := goodIn_app (goodIn_of _ (by decide +kernel)) ggL_asks_X5_save
set_option maxRecDepth 20000 in
theorem ggL_asks_X5_undoTo : GoodIn wsL_asks wsX5_undoTo := goodIn_ca (goodIn_ca (goodIn_ca (goodIn_r _ [232, 95, 96, 104, 105, 106, 12, 107, 108, 109, 16, 110, 21, 22, 23, 24, 25, 26, 111, 112, 113, 114, 115, 116, 117, 118, 119, 120, 121, 122, 123, 124, 125, 126, 43, 132, 133, 134, 135, 14, 15, 233, 234, 235, 236, 103, 144, 237, 102, 238, 239, 148, 189, 149, 188, 260, 261, 262, 263, 264, 252, 253, 254, 255, 256, 257, 258, 259, 265, 266, 267, 270, 271, 272, 273, 268, 269] (by decide +kernel) (by decide +kernel)) (goodIn_sub (fun _ h => List.mem_cons_of_mem _ (List.mem_append_left _ (List.mem_append_left _ (List.mem_append_right _ h)))) (by decide +kernel))) (goodIn_sub (fun _ h => List.mem_cons_of_mem _ (List.mem_append_left _ (List.mem_append_right _ h))) (by decide +kernel))) (goodIn_sub (fun _ h => List.mem_cons_of_mem _ (List.mem_append_left _ (List.mem_append_left _ (List.mem_append_left _ (List.mem_append_right _ h))))) (by decide +kernel))
set_option maxRecDepth 20000 in
theorem gL_asks_X5_undoTo : GoodIn wsL_asks (wsV RL 31 RX5 yX5_undoTo wsX5_undoTo) := goodIn_app (goodIn_of _ (by decide +kernel)) ggL_asks_X5_undoTo
set_option maxRecDepth 20000 in
theorem ggL_asks_X5_undo : GoodIn wsL_asks wsX5_undo := goodIn_ca (goodIn_ca (goodIn_r _ [243, 104, 105, 106, 12, 107, 108, 109, 16, 110, 21, 22, 23, 24, 25, 26, 111, 112, 113, 114, 115, 116, 117, 118, 119, 120, 121, 122, 123, 124, 125, 126, 43, 132, 133, 134, 135, 14, 15, 233, 234, 235, 236, 103, 144, 237, 102, 238, 239, 148, 189, 149, 188, 260, 261, 262, 263, 264, 252, 253, 254, 255, 256, 257, 258, 259, 265, 266, 267, 270, 271, 272, 273, 268, 269] (by decide +kernel) (by decide +kernel)) (goodIn_sub (fun _ h => List.mem_cons_of_mem _ (List.mem_append_left _ (List.mem_append_right _ h))) (by decide +kernel))) (goodIn_sub (fun _ h => List.mem_cons_of_mem _ (List.mem_append_left _ (List.mem_append_left _ (List.mem_append_left _ (List.mem_append_right _ h))))) (by decide +kernel))
set_option maxRecDepth 20000 in
theorem gL_asks_X5_undo : GoodIn wsL_asks (wsV RL 34 RX5 yX5_undo wsX5_undo) := goodIn_app (goodIn_of _ (by decide +kernel)) ggL_asks_X5_undo
set_option maxRecDepth 20000 in
theorem ggL_asks_X5_commit : GoodIn wsL_asks wsX5_commit := goodIn_ca (goodIn_ca (goodIn_r _ [247, 20, 104, 105, 106, 12, 107, 108, 109, 16, 110, 21, 22, 23, 24, 25, 26, 111, 112, 113, 114, 115, 116, 117, 118, 119, 120, 121, 122, 123, 124, 125, 126, 43, 132, 133, 134, 135, 14, 15, 252, 253, 254, 255, 256, 257, 258, 259, 260, 261, 262, 263, 264, 265, 266, 267] (by decide +kernel) (by decide +kernel)) (goodIn_sub (fun _ h => List.mem_cons_of_mem _ (List.mem_append_left _ (List.mem_append_right _ h))) (by decide +kernel))) (goodIn_sub (fun _ h => List.mem_cons_of_mem _ (List.mem_append_left _ (List.mem_append_left _ (List.mem_append_left _ (List.mem_append_right _ h))))) (by decide +kernel))
set_option maxRecDepth 20000 in
theorem gL_asks_X5_commit : GoodIn wsL_asks (wsV RL 37 RX5 yX5_commit wsX5_commit) := goodIn_app (goodIn_of _ (by decide +kernel)) ggL_asks_X5_commit
set_option maxRecDepth 20000 in
theorem ggL_asks_X5_setSpace : GoodIn wsL_asks wsX5_setSpace := goodIn_ca (goodIn_ca (goodIn_r _ [251, 95, 96, 14, 15, 158, 159, 160, 161, 12, 162, 103, 99, 21, 22, 23, 24, 25, 26, 252, 253, 254, 255, 256, 257, 258, 259, 265, 266, 267] (by decide +kernel) (by decide +kernel)) (goodIn_sub (fun _ h => List.mem_cons_of_mem _ (List.mem_append_left _ (List.mem_append_left _ (List.mem_append_right _ h)))) (by decide +kernel))) (goodIn_sub (fun _ h => List.mem_cons_of_mem _ (List.mem_append_left _ (List.mem_append_left _ (List.mem_append_left _ (List.mem_append_right _ h))))) (by decide +kernel))
set_option maxRecDepth 20000 in
theorem gL_asks_X5_setSpace : GoodIn wsL_asks (wsV RL 40 RX5 yX5_setSpace wsX5_setSpace) := goodIn_app (goodIn_of _ (by decide +kernel)) ggL_asks_X5_setSpace
theorem dL_asks_0 : decode cL_asks 0 = .ok (.iload_n 1, 1) := by decide +kernel
theorem dL_asks_1 : decode cL_asks 1 = .ok (.ifCond .ne 10, 3) := by decide +kernel
theorem dL_asks_4 : decode cL_asks 4 = .ok (.aload_n 0, 1) := by decide +kernel
theorem dL_asks_5 : decode cL_asks 5 = .ok (.invokevirtual 10, 3) := by decide +kernel
theorem dL_asks_8 : decode cL_asks 8 = .ok (.goto 107, 3) := by decide +kernel
theorem dL_asks_11 : decode cL_asks 11 = .ok (.iload_n 1, 1) := by decide +kernel
theorem dL_asks_12 : decode cL_asks 12 = .ok (.iconst 1, 1) := by decide +kernel
theorem dL_asks_13 : decode cL_asks 13 = .ok (.if_icmp .ne 14, 3) := by decide +kernel
theorem dL_asks_16 : decode cL_asks 16 = .ok (.aload_n 0, 1) := by decide +kernel
theorem dL_asks_17 : decode cL_asks 17 = .ok (.iload_n 2, 1) := by decide +kernel
theorem dL_asks_18 : decode cL_asks 18 = .ok (.iload_n 3, 1) := by decide +kernel
theorem dL_asks_19 : decode cL_asks 19 = .ok (.iload 4, 2) := by decide +kernel
theorem dL_asks_21 : decode cL_asks 21 = .ok (.invokevirtual 16, 3) := by decide +kernel
theorem dL_asks_24 : decode cL_asks 24 = .ok (.goto 91, 3) := by decide +kernel
theorem dL_asks_27 : decode cL_asks 27 = .ok (.iload_n 1, 1) := by decide +kernel
theorem dL_asks_28 : decode cL_asks 28 = .ok (.iconst 2, 1) := by decide +kernel
theorem dL_asks_29 : decode cL_asks 29 = .ok (.if_icmp .ne 12, 3) := by decide +kernel
theorem dL_asks_32 : decode cL_asks 32 = .ok (.aload_n 0, 1) := by decide +kernel
theorem dL_asks_33 : decode cL_asks 33 = .ok (.iload_n 2, 1) := by decide +kernel
theorem dL_asks_34 : decode cL_asks 34 = .ok (.iload_n 3, 1) := by decide +kernel
theorem dL_asks_35 : decode cL_asks 35 = .ok (.invokevirtual 20, 3) := by decide +kernel
theorem dL_asks_38 : decode cL_asks 38 = .ok (.goto 77, 3) := by decide +kernel
theorem dL_asks_41 : decode cL_asks 41 = .ok (.iload_n 1, 1) := by decide +kernel
theorem dL_asks_42 : decode cL_asks 42 = .ok (.iconst 3, 1) := by decide +kernel
theorem dL_asks_43 : decode cL_asks 43 = .ok (.if_icmp .ne 12, 3) := by decide +kernel
theorem dL_asks_46 : decode cL_asks 46 = .ok (.aload_n 0, 1) := by decide +kernel
theorem dL_asks_47 : decode cL_asks 47 = .ok (.iload_n 2, 1) := by decide +kernel
theorem dL_asks_48 : decode cL_asks 48 = .ok (.iload_n 3, 1) := by decide +kernel
theorem dL_asks_49 : decode cL_asks 49 = .ok (.invokevirtual 24, 3) := by decide +kernel
theorem dL_asks_52 : decode cL_asks 52 = .ok (.goto 63, 3) := by decide +kernel
theorem dL_asks_55 : decode cL_asks 55 = .ok (.iload_n 1, 1) := by decide +kernel
theorem dL_asks_56 : decode cL_asks 56 = .ok (.iconst 4, 1) := by decide +kernel
theorem dL_asks_57 : decode cL_asks 57 = .ok (.if_icmp .ne 11, 3) := by decide +kernel
theorem dL_asks_60 : decode cL_asks 60 = .ok (.aload_n 0, 1) := by decide +kernel
theorem dL_asks_61 : decode cL_asks 61 = .ok (.iload_n 2, 1) := by decide +kernel
theorem dL_asks_62 : decode cL_asks 62 = .ok (.invokevirtual 27, 3) := by decide +kernel
theorem dL_asks_65 : decode cL_asks 65 = .ok (.goto 50, 3) := by decide +kernel
theorem dL_asks_68 : decode cL_asks 68 = .ok (.iload_n 1, 1) := by decide +kernel
theorem dL_asks_69 : decode cL_asks 69 = .ok (.iconst 5, 1) := by decide +kernel
theorem dL_asks_70 : decode cL_asks 70 = .ok (.if_icmp .ne 12, 3) := by decide +kernel
theorem dL_asks_73 : decode cL_asks 73 = .ok (.aload_n 0, 1) := by decide +kernel
theorem dL_asks_74 : decode cL_asks 74 = .ok (.iload_n 2, 1) := by decide +kernel
theorem dL_asks_75 : decode cL_asks 75 = .ok (.iload_n 3, 1) := by decide +kernel
theorem dL_asks_76 : decode cL_asks 76 = .ok (.invokevirtual 31, 3) := by decide +kernel
theorem dL_asks_79 : decode cL_asks 79 = .ok (.goto 36, 3) := by decide +kernel
theorem dL_asks_82 : decode cL_asks 82 = .ok (.iload_n 1, 1) := by decide +kernel
theorem dL_asks_83 : decode cL_asks 83 = .ok (.bipush 6, 2) := by decide +kernel
theorem dL_asks_85 : decode cL_asks 85 = .ok (.if_icmp .ne 11, 3) := by decide +kernel
theorem dL_asks_88 : decode cL_asks 88 = .ok (.aload_n 0, 1) := by decide +kernel
theorem dL_asks_89 : decode cL_asks 89 = .ok (.iload_n 2, 1) := by decide +kernel
theorem dL_asks_90 : decode cL_asks 90 = .ok (.invokevirtual 34, 3) := by decide +kernel
theorem dL_asks_93 : decode cL_asks 93 = .ok (.goto 22, 3) := by decide +kernel
theorem dL_asks_96 : decode cL_asks 96 = .ok (.iload_n 1, 1) := by decide +kernel
theorem dL_asks_97 : decode cL_asks 97 = .ok (.bipush 7, 2) := by decide +kernel
theorem dL_asks_99 : decode cL_asks 99 = .ok (.if_icmp .ne 11, 3) := by decide +kernel
theorem dL_asks_102 : decode cL_asks 102 = .ok (.aload_n 0, 1) := by decide +kernel
theorem dL_asks_103 : decode cL_asks 103 = .ok (.iload_n 2, 1) := by decide +kernel
theorem dL_asks_104 : decode cL_asks 104 = .ok (.invokevirtual 37, 3) := by decide +kernel
theorem dL_asks_107 : decode cL_asks 107 = .ok (.goto 8, 3) := by decide +kernel
theorem dL_asks_110 : decode cL_asks 110 = .ok (.aload_n 0, 1) := by decide +kernel
theorem dL_asks_111 : decode cL_asks 111 = .ok (.iload_n 2, 1) := by decide +kernel
theorem dL_asks_112 : decode cL_asks 112 = .ok (.invokevirtual 40, 3) := by decide +kernel
theorem dL_asks_115 : decode cL_asks 115 = .ok (.ireturn, 1) := by decide +kernel
theorem dL_asks_116 : decode cL_asks 116 = .ok (.astore 5, 2) := by decide +kernel
theorem dL_asks_118 : decode cL_asks 118 = .ok (.ldc 45, 2) := by decide +kernel
theorem dL_asks_120 : decode cL_asks 120 = .ok (.ireturn, 1) := by decide +kernel
theorem dL_asks_121 : decode cL_asks 121 = .ok (.astore 5, 2) := by decide +kernel
theorem dL_asks_123 : decode cL_asks 123 = .ok (.ldc 48, 2) := by decide +kernel
theorem dL_asks_125 : decode cL_asks 125 = .ok (.ireturn, 1) := by decide +kernel
theorem dL_asks_126 : decode cL_asks 126 = .ok (.astore 5, 2) := by decide +kernel
theorem dL_asks_128 : decode cL_asks 128 = .ok (.ldc 51, 2) := by decide +kernel
theorem dL_asks_130 : decode cL_asks 130 = .ok (.ireturn, 1) := by decide +kernel
theorem dL_asks_131 : decode cL_asks 131 = .ok (.astore 5, 2) := by decide +kernel
theorem dL_asks_133 : decode cL_asks 133 = .ok (.ldc 54, 2) := by decide +kernel
theorem dL_asks_135 : decode cL_asks 135 = .ok (.ireturn, 1) := by decide +kernel
theorem dL_isActive_0 : decode cL_isActive 0 = .ok (.iload_n 1, 1) := by decide +kernel
theorem dL_isActive_1 : decode cL_isActive 1 = .ok (.ifCond .lt 15, 3) := by decide +kernel
theorem dL_isActive_4 : decode cL_isActive 4 = .ok (.aload_n 0, 1) := by decide +kernel
theorem dL_isActive_5 : decode cL_isActive 5 = .ok (.iload_n 1, 1) := by decide +kernel
theorem dL_isActive_6 : decode cL_isActive 6 = .ok (.iaload, 1) := by decide +kernel
theorem dL_isActive_7 : decode cL_isActive 7 = .ok (.iconst 4, 1) := by decide +kernel
theorem dL_isActive_8 : decode cL_isActive 8 = .ok (.irem, 1) := by decide +kernel
theorem dL_isActive_9 : decode cL_isActive 9 = .ok (.ifCond .ne 7, 3) := by decide +kernel
theorem dL_isActive_12 : decode cL_isActive 12 = .ok (.iconst 1, 1) := by decide +kernel
theorem dL_isActive_13 : decode cL_isActive 13 = .ok (.goto 4, 3) := by decide +kernel
theorem dL_isActive_16 : decode cL_isActive 16 = .ok (.iconst 0, 1) := by decide +kernel
theorem dL_isActive_17 : decode cL_isActive 17 = .ok (.ireturn, 1) := by decide +kernel
