/-! printed: decode rows and words of the law's methods -/
set_option maxRecDepth 20000 in
theorem ggL_step_L_asks : GoodIn wsL_step wsL_asks := goodIn_ca (goodIn_ca (goodIn_ca (goodIn_ca (goodIn_r _ [5, 6, 7, 8, 9, 10, 1, 11, 12, 13, 14, 15, 16, 17, 18, 19, 20, 21, 22, 23, 24, 25, 26, 27, 28, 29, 30, 31, 32, 33, 34, 35, 36, 37, 38, 39, 40, 41, 42, 43, 44, 45, 46, 47, 48, 49, 50, 51, 52, 53, 54, 55, 56, 57, 58, 59, 60, 61, 62, 63, 64, 65, 66, 67, 68, 69, 70, 71, 72, 73, 74, 75, 76, 77, 78, 79, 80, 81, 82, 83, 84, 85, 86, 87, 88, 89, 90, 91, 92, 93, 94, 95, 96, 97, 98, 99, 100, 101, 102, 103, 104, 105, 106, 107, 108, 109, 110, 111, 112, 113, 114, 115, 116, 117, 118, 119, 120, 121, 122, 123, 124, 125, 126, 127, 128, 129, 130, 131, 132, 133, 134, 135, 136, 137, 138, 139, 140, 141, 142, 143, 144, 145, 146, 147, 148, 149, 150, 151, 152, 153, 154, 155, 156, 157, 158, 159, 160, 161, 162, 163, 164, 165, 166, 167, 168, 169, 170, 171, 172, 173, 174, 175, 176, 177, 178, 179, 180, 181, 182, 183, 184, 185, 186, 187, 188, 189, 190, 191, 192, 193, 194, 195, 196, 197, 198, 199, 200, 201, 202, 203, 204, 205, 206, 207, 208, 209, 210, 211, 212, 213, 214, 215, 216, 217, 218, 219, 220, 221, 222, 223, 224, 225, 226, 227, 228, 229, 230, 231, 232, 233, 234, 235, 236, 237, 238, 239, 240, 241, 242, 243, 244, 245, 246, 247, 248, 249, 250, 251, 252, 253, 254, 255, 307, 308, 309, 310, 311, 312, 313, 314, 315, 316, 317, 318, 319, 320, 321, 322, 323, 324, 325, 326, 327, 328, 329, 330, 331] (by decide +kernel) (by decide +kernel)) (goodIn_sub (fun _ h => List.mem_cons_of_mem _ (List.mem_append_left _ (List.mem_append_left _ (List.mem_append_left _ (List.mem_append_right _ h))))) (by decide +kernel))) (goodIn_sub (fun _ h => List.mem_cons_of_mem _ (List.mem_append_left _ (List.mem_append_left _ (List.mem_append_right _ h)))) (by decide +kernel))) (goodIn_sub (fun _ h => List.mem_cons_of_mem _ (List.mem_append_left _ (List.mem_append_right _ h))) (by decide +kernel))) (goodIn_sub (fun _ h => List.mem_cons_of_mem _ (List.mem_append_right _ h)) (by decide +kernel))
set_option maxRecDepth 20000 in
theorem gL_step_L_asks : GoodIn wsL_step (va_wsS RL 96 yL_asks wsL_asks) := goodIn_app (goodIn_of _ (by decide +kernel)) ggL_step_L_asks
set_option maxRecDepth 20000 in
theorem ggL_step_L_writes : GoodIn wsL_step wsL_writes := goodIn_ca (goodIn_ca (goodIn_ca (goodIn_ca (goodIn_r _ [258, 1, 259, 260, 261, 16, 262, 131, 132, 133, 134, 112, 113, 135, 144, 145, 146, 147, 107, 148, 25, 26, 27, 28, 29, 30, 115, 116, 117, 118, 119, 120, 121, 122, 123, 124, 125, 126, 127, 128, 129, 130, 47, 149, 106, 150, 151, 152, 153, 263, 264, 265, 266, 267, 268, 4, 269, 270, 271, 272, 273, 274, 275, 276, 277, 278, 279, 280, 281, 282, 283, 284, 285, 2, 3, 5, 6, 7, 8, 9, 10, 11, 12, 13, 14, 15, 17, 18, 19, 20, 21, 22, 23, 24, 31, 32, 33, 34, 35, 36, 37, 38, 39, 40, 41, 42, 43, 44, 45, 46, 48, 49, 50, 51, 52, 53, 54, 55, 56, 57, 58, 59, 60, 61, 62, 63, 64, 65, 66, 67, 68, 69, 70, 71, 72, 73, 74, 75, 76, 77, 78, 79, 80, 81, 82, 83, 84, 85, 86, 87, 88, 89, 90, 91, 92, 93, 94, 95, 96, 97, 98, 99, 100, 101, 102, 103, 104, 105, 108, 109, 110, 111, 114, 136, 137, 138, 139, 140, 141, 142, 143, 154, 155, 156, 157, 158, 159, 160, 161, 162, 163, 164, 165, 166, 167, 168, 169, 170, 171, 172, 173, 174, 175, 176, 177, 178, 179, 180, 181, 182, 183, 184, 185, 186, 187, 188, 189, 190, 191, 192, 193, 194, 195, 196, 197, 198, 199, 200, 201, 202, 203, 204, 205, 206, 207, 208, 209, 210, 211, 212, 213, 214, 215, 216, 217, 218, 219, 220, 221, 222, 223, 224, 225, 226, 227, 228, 229, 230, 231, 232, 233, 234, 235, 236, 237, 238, 239, 240, 241, 242, 243, 244, 245, 246, 247, 248, 249, 250, 251, 252, 253, 254, 255, 286, 287, 288, 289, 290, 291, 292, 315, 316, 317, 318, 319, 307, 308, 309, 310, 311, 312, 313, 314, 325, 326, 327, 328, 320, 321, 322, 323, 324, 330, 331, 329] (by decide +kernel) (by decide +kernel)) (goodIn_sub (fun _ h => List.mem_cons_of_mem _ (List.mem_append_left _ (List.mem_append_right _ h))) (by decide +kernel))) (goodIn_sub (fun _ h => List.mem_cons_of_mem _ (List.mem_append_left _ (List.mem_append_left _ (List.mem_append_left _ (List.mem_append_right _ h))))) (by decide +kernel))) (goodIn_sub (fun _ h => List.mem_cons_of_mem _ (List.mem_append_left _ (List.mem_append_left _ (List.mem_append_right _ h)))) (by decide +kernel))) (goodIn_sub (fun _ h => List.mem_cons_of_mem _ (List.mem_append_right _ h)) (by decide +kernel))
set_option maxRecDepth 20000 in
theorem gL_step_L_writes : GoodIn wsL_step (va_wsS RL 104 yL_writes wsL_writes) := goodIn_app (goodIn_of _ (by decide +kernel)) ggL_step_L_writes
set_option maxRecDepth 20000 in
theorem ggL_step_L_reads : GoodIn wsL_step wsL_reads := goodIn_ca (goodIn_ca (goodIn_ca (goodIn_ca (goodIn_r _ [295, 1, 12, 267, 268, 4, 269, 270, 271, 272, 16, 273, 274, 275, 276, 277, 112, 113, 278, 279, 280, 281, 282, 283, 284, 285, 296, 297, 298, 299, 131, 132, 133, 134, 135, 225, 226, 227, 228, 99, 100, 24, 207, 208, 209, 210, 107, 148, 25, 26, 27, 28, 29, 30, 115, 116, 117, 118, 119, 120, 121, 122, 123, 124, 125, 126, 127, 128, 129, 130, 47, 149, 106, 150, 151, 152, 153, 211, 212, 213, 192, 214, 23, 215, 216, 37, 217, 218, 219, 220, 259, 260, 261, 262, 144, 145, 146, 147, 263, 264, 265, 266, 2, 3, 5, 6, 7, 8, 9, 10, 11, 13, 14, 15, 17, 18, 19, 20, 21, 22, 31, 32, 33, 34, 35, 36, 38, 39, 40, 41, 42, 43, 44, 45, 46, 48, 49, 50, 51, 52, 53, 54, 55, 56, 57, 58, 59, 60, 61, 62, 63, 64, 65, 66, 67, 68, 69, 70, 71, 72, 73, 74, 75, 76, 77, 78, 79, 80, 81, 82, 83, 84, 85, 86, 87, 88, 89, 90, 91, 92, 93, 94, 95, 96, 97, 98, 101, 102, 103, 104, 105, 108, 109, 110, 111, 114, 136, 137, 138, 139, 140, 141, 142, 143, 154, 155, 156, 157, 158, 159, 160, 161, 162, 163, 164, 165, 166, 167, 168, 169, 170, 171, 172, 173, 174, 175, 176, 177, 178, 179, 180, 181, 182, 183, 184, 185, 186, 187, 188, 189, 190, 191, 193, 194, 195, 196, 197, 198, 199, 200, 201, 202, 203, 204, 205, 206, 221, 222, 223, 224, 229, 230, 231, 232, 233, 234, 235, 236, 237, 238, 239, 240, 241, 242, 243, 244, 245, 246, 247, 248, 249, 250, 251, 252, 253, 254, 255, 286, 287, 288, 289, 290, 291, 292, 330, 331, 315, 316, 317, 318, 319, 307, 308, 309, 310, 311, 312, 313, 314, 329, 320, 321, 322, 325, 326, 327, 328, 323, 324] (by decide +kernel) (by decide +kernel)) (goodIn_sub (fun _ h => List.mem_cons_of_mem _ (List.mem_append_left _ (List.mem_append_right _ h))) (by decide +kernel))) (goodIn_sub (fun _ h => List.mem_cons_of_mem _ (List.mem_append_left _ (List.mem_append_left _ (List.mem_append_right _ h)))) (by decide +kernel))) (goodIn_sub (fun _ h => List.mem_cons_of_mem _ (List.mem_append_left _ (List.mem_append_left _ (List.mem_append_left _ (List.mem_append_right _ h))))) (by decide +kernel))) (goodIn_sub (fun _ h => List.mem_cons_of_mem _ (List.mem_append_right _ h)) (by decide +kernel))
set_option maxRecDepth 20000 in
theorem gL_step_L_reads : GoodIn wsL_step (va_wsS RL 108 yL_reads wsL_reads) := goodIn_app (goodIn_of _ (by decide +kernel)) ggL_step_L_reads
set_option maxRecDepth 20000 in
theorem ggL_step_L_undoes : GoodIn wsL_step wsL_undoes := goodIn_ca (goodIn_ca (goodIn_ca (goodIn_ca (goodIn_r _ [302, 1, 11, 279, 280, 4, 281, 2, 3, 5, 6, 7, 8, 9, 10, 12, 13, 14, 15, 16, 17, 18, 19, 20, 21, 22, 23, 24, 25, 26, 27, 28, 29, 30, 31, 32, 33, 34, 35, 36, 37, 38, 39, 40, 41, 42, 43, 44, 45, 46, 47, 48, 49, 50, 51, 52, 53, 54, 55, 56, 57, 58, 59, 60, 61, 62, 63, 64, 65, 66, 67, 68, 69, 70, 71, 72, 73, 74, 75, 76, 77, 78, 79, 80, 81, 82, 83, 84, 85, 86, 87, 88, 89, 90, 91, 92, 93, 94, 95, 96, 97, 98, 99, 100, 101, 102, 103, 104, 105, 106, 107, 108, 109, 110, 111, 112, 113, 114, 115, 116, 117, 118, 119, 120, 121, 122, 123, 124, 125, 126, 127, 128, 129, 130, 131, 132, 133, 134, 135, 136, 137, 138, 139, 140, 141, 142, 143, 144, 145, 146, 147, 148, 149, 150, 151, 152, 153, 154, 155, 156, 157, 158, 159, 160, 161, 162, 163, 164, 165, 166, 167, 168, 169, 170, 171, 172, 173, 174, 175, 176, 177, 178, 179, 180, 181, 182, 183, 184, 185, 186, 187, 188, 189, 190, 191, 192, 193, 194, 195, 196, 197, 198, 199, 200, 201, 202, 203, 204, 205, 206, 207, 208, 209, 210, 211, 212, 213, 214, 215, 216, 217, 218, 219, 220, 221, 222, 223, 224, 225, 226, 227, 228, 229, 230, 231, 232, 233, 234, 235, 236, 237, 238, 239, 240, 241, 242, 243, 244, 245, 246, 247, 248, 249, 250, 251, 252, 253, 254, 255, 259, 260, 261, 262, 307, 308, 309, 310, 311, 312, 313, 314, 315, 316, 317, 318, 319, 320, 321, 322, 323, 324, 325, 326, 327, 328, 329, 330, 331] (by decide +kernel) (by decide +kernel)) (goodIn_sub (fun _ h => List.mem_cons_of_mem _ (List.mem_append_left _ (List.mem_append_left _ (List.mem_append_left _ (List.mem_append_right _ h))))) (by decide +kernel))) (goodIn_sub (fun _ h => List.mem_cons_of_mem _ (List.mem_append_left _ (List.mem_append_left _ (List.mem_append_right _ h)))) (by decide +kernel))) (goodIn_sub (fun _ h => List.mem_cons_of_mem _ (List.mem_append_left _ (List.mem_append_right _ h))) (by decide +kernel))) (goodIn_sub (fun _ h => List.mem_cons_of_mem _ (List.mem_append_right _ h)) (by decide +kernel))
set_option maxRecDepth 20000 in
theorem gL_step_L_undoes : GoodIn wsL_step (va_wsS RL 111 yL_undoes wsL_undoes) := goodIn_app (goodIn_of _ (by decide +kernel)) ggL_step_L_undoes
set_option maxRecDepth 20000 in
theorem ggL_step_L_commits : GoodIn wsL_step wsL_commits := goodIn_ca (goodIn_ca (goodIn_ca (goodIn_ca (goodIn_r _ [305, 306, 1, 259, 260, 261, 16, 262, 131, 132, 133, 134, 112, 113, 135, 144, 145, 146, 147, 107, 148, 25, 26, 27, 28, 29, 30, 115, 116, 117, 118, 119, 120, 121, 122, 123, 124, 125, 126, 127, 128, 129, 130, 47, 149, 106, 150, 151, 152, 153, 263, 264, 265, 266, 296, 297, 298, 299, 225, 226, 227, 228, 99, 100, 24, 207, 208, 209, 210, 211, 212, 213, 192, 214, 23, 215, 216, 37, 217, 218, 219, 220, 2, 3, 4, 5, 6, 7, 8, 9, 10, 11, 12, 13, 14, 15, 17, 18, 19, 20, 21, 22, 31, 32, 33, 34, 35, 36, 38, 39, 40, 41, 42, 43, 44, 45, 46, 48, 49, 50, 51, 52, 53, 54, 55, 56, 57, 58, 59, 60, 61, 62, 63, 64, 65, 66, 67, 68, 69, 70, 71, 72, 73, 74, 75, 76, 77, 78, 79, 80, 81, 82, 83, 84, 85, 86, 87, 88, 89, 90, 91, 92, 93, 94, 95, 96, 97, 98, 101, 102, 103, 104, 105, 108, 109, 110, 111, 114, 136, 137, 138, 139, 140, 141, 142, 143, 154, 155, 156, 157, 158, 159, 160, 161, 162, 163, 164, 165, 166, 167, 168, 169, 170, 171, 172, 173, 174, 175, 176, 177, 178, 179, 180, 181, 182, 183, 184, 185, 186, 187, 188, 189, 190, 191, 193, 194, 195, 196, 197, 198, 199, 200, 201, 202, 203, 204, 205, 206, 221, 222, 223, 224, 229, 230, 231, 232, 233, 234, 235, 236, 237, 238, 239, 240, 241, 242, 243, 244, 245, 246, 247, 248, 249, 250, 251, 252, 253, 254, 255, 279, 280, 281, 315, 316, 317, 318, 319, 307, 308, 309, 310, 311, 312, 313, 314, 325, 326, 327, 328, 320, 321, 322, 323, 324, 329, 330, 331] (by decide +kernel) (by decide +kernel)) (goodIn_sub (fun _ h => List.mem_cons_of_mem _ (List.mem_append_left _ (List.mem_append_right _ h))) (by decide +kernel))) (goodIn_sub (fun _ h => List.mem_cons_of_mem _ (List.mem_append_left _ (List.mem_append_left _ (List.mem_append_right _ h)))) (by decide +kernel))) (goodIn_sub (fun _ h => List.mem_cons_of_mem _ (List.mem_append_left _ (List.mem_append_left _ (List.mem_append_left _ (List.mem_append_right _ h))))) (by decide +kernel))) (goodIn_sub (fun _ h => List.mem_cons_of_mem _ (List.mem_append_right _ h)) (by decide +kernel))
set_option maxRecDepth 20000 in
theorem gL_step_L_commits : GoodIn wsL_step (va_wsS RL 114 yL_commits wsL_commits) := goodIn_app (goodIn_of _ (by decide +kernel)) ggL_step_L_commits
theorem dL_step_0 : decode cL_step 0 = .ok (.iload_n 1, 1) := by decide +kernel
theorem dL_step_1 : decode cL_step 1 = .ok (.iconst 3, 1) := by decide +kernel
theorem dL_step_2 : decode cL_step 2 = .ok (.if_icmp .lt 10, 3) := by decide +kernel
theorem dL_step_5 : decode cL_step 5 = .ok (.aload 5, 2) := by decide +kernel
theorem dL_step_7 : decode cL_step 7 = .ok (.iconst 1, 1) := by decide +kernel
theorem dL_step_8 : decode cL_step 8 = .ok (.iaload, 1) := by decide +kernel
theorem dL_step_9 : decode cL_step 9 = .ok (.ifCond .ne 73, 3) := by decide +kernel
theorem dL_step_12 : decode cL_step 12 = .ok (.aload_n 0, 1) := by decide +kernel
theorem dL_step_13 : decode cL_step 13 = .ok (.iconst 0, 1) := by decide +kernel
theorem dL_step_14 : decode cL_step 14 = .ok (.iconst 0, 1) := by decide +kernel
theorem dL_step_15 : decode cL_step 15 = .ok (.iconst 0, 1) := by decide +kernel
theorem dL_step_16 : decode cL_step 16 = .ok (.iconst 0, 1) := by decide +kernel
theorem dL_step_17 : decode cL_step 17 = .ok (.invokestatic 96, 3) := by decide +kernel
theorem dL_step_20 : decode cL_step 20 = .ok (.istore 8, 2) := by decide +kernel
theorem dL_step_22 : decode cL_step 22 = .ok (.aload 5, 2) := by decide +kernel
theorem dL_step_24 : decode cL_step 24 = .ok (.iconst 1, 1) := by decide +kernel
theorem dL_step_25 : decode cL_step 25 = .ok (.iaload, 1) := by decide +kernel
theorem dL_step_26 : decode cL_step 26 = .ok (.bipush 60, 2) := by decide +kernel
theorem dL_step_28 : decode cL_step 28 = .ok (.if_icmp .ne 16, 3) := by decide +kernel
theorem dL_step_31 : decode cL_step 31 = .ok (.iload 8, 2) := by decide +kernel
theorem dL_step_33 : decode cL_step 33 = .ok (.ldc 48, 2) := by decide +kernel
theorem dL_step_35 : decode cL_step 35 = .ok (.if_icmp .ne 7, 3) := by decide +kernel
theorem dL_step_38 : decode cL_step 38 = .ok (.iconst 1, 1) := by decide +kernel
theorem dL_step_39 : decode cL_step 39 = .ok (.goto 4, 3) := by decide +kernel
theorem dL_step_42 : decode cL_step 42 = .ok (.iconst 0, 1) := by decide +kernel
theorem dL_step_43 : decode cL_step 43 = .ok (.ireturn, 1) := by decide +kernel
theorem dL_step_44 : decode cL_step 44 = .ok (.aload 4, 2) := by decide +kernel
theorem dL_step_46 : decode cL_step 46 = .ok (.aload 5, 2) := by decide +kernel
theorem dL_step_48 : decode cL_step 48 = .ok (.iconst 1, 1) := by decide +kernel
theorem dL_step_49 : decode cL_step 49 = .ok (.iaload, 1) := by decide +kernel
theorem dL_step_50 : decode cL_step 50 = .ok (.iconst 4, 1) := by decide +kernel
theorem dL_step_51 : decode cL_step 51 = .ok (.aload 5, 2) := by decide +kernel
theorem dL_step_53 : decode cL_step 53 = .ok (.iconst 0, 1) := by decide +kernel
theorem dL_step_54 : decode cL_step 54 = .ok (.iaload, 1) := by decide +kernel
theorem dL_step_55 : decode cL_step 55 = .ok (.imul, 1) := by decide +kernel
theorem dL_step_56 : decode cL_step 56 = .ok (.iastore, 1) := by decide +kernel
theorem dL_step_57 : decode cL_step 57 = .ok (.aload 5, 2) := by decide +kernel
theorem dL_step_59 : decode cL_step 59 = .ok (.iconst 1, 1) := by decide +kernel
theorem dL_step_60 : decode cL_step 60 = .ok (.dup2, 1) := by decide +kernel
theorem dL_step_61 : decode cL_step 61 = .ok (.iaload, 1) := by decide +kernel
theorem dL_step_62 : decode cL_step 62 = .ok (.iconst 1, 1) := by decide +kernel
theorem dL_step_63 : decode cL_step 63 = .ok (.iadd, 1) := by decide +kernel
theorem dL_step_64 : decode cL_step 64 = .ok (.iastore, 1) := by decide +kernel
theorem dL_step_65 : decode cL_step 65 = .ok (.iload 8, 2) := by decide +kernel
theorem dL_step_67 : decode cL_step 67 = .ok (.aload 5, 2) := by decide +kernel
theorem dL_step_69 : decode cL_step 69 = .ok (.iconst 1, 1) := by decide +kernel
theorem dL_step_70 : decode cL_step 70 = .ok (.iaload, 1) := by decide +kernel
theorem dL_step_71 : decode cL_step 71 = .ok (.iconst 1, 1) := by decide +kernel
theorem dL_step_72 : decode cL_step 72 = .ok (.isub, 1) := by decide +kernel
theorem dL_step_73 : decode cL_step 73 = .ok (.if_icmp .ne 7, 3) := by decide +kernel
theorem dL_step_76 : decode cL_step 76 = .ok (.iconst 1, 1) := by decide +kernel
theorem dL_step_77 : decode cL_step 77 = .ok (.goto 4, 3) := by decide +kernel
theorem dL_step_80 : decode cL_step 80 = .ok (.iconst 0, 1) := by decide +kernel
theorem dL_step_81 : decode cL_step 81 = .ok (.ireturn, 1) := by decide +kernel
theorem dL_step_82 : decode cL_step 82 = .ok (.iload_n 2, 1) := by decide +kernel
theorem dL_step_83 : decode cL_step 83 = .ok (.iconst 4, 1) := by decide +kernel
theorem dL_step_84 : decode cL_step 84 = .ok (.irem, 1) := by decide +kernel
theorem dL_step_85 : decode cL_step 85 = .ok (.ifCond .ne 14, 3) := by decide +kernel
theorem dL_step_88 : decode cL_step 88 = .ok (.iload_n 2, 1) := by decide +kernel
theorem dL_step_89 : decode cL_step 89 = .ok (.iconst 4, 1) := by decide +kernel
theorem dL_step_90 : decode cL_step 90 = .ok (.idiv, 1) := by decide +kernel
theorem dL_step_91 : decode cL_step 91 = .ok (.aload 5, 2) := by decide +kernel
theorem dL_step_93 : decode cL_step 93 = .ok (.iconst 1, 1) := by decide +kernel
theorem dL_step_94 : decode cL_step 94 = .ok (.iaload, 1) := by decide +kernel
theorem dL_step_95 : decode cL_step 95 = .ok (.irem, 1) := by decide +kernel
theorem dL_step_96 : decode cL_step 96 = .ok (.goto 30, 3) := by decide +kernel
theorem dL_step_99 : decode cL_step 99 = .ok (.aload 5, 2) := by decide +kernel
theorem dL_step_101 : decode cL_step 101 = .ok (.iconst 1, 1) := by decide +kernel
theorem dL_step_102 : decode cL_step 102 = .ok (.iaload, 1) := by decide +kernel
theorem dL_step_103 : decode cL_step 103 = .ok (.iconst 1, 1) := by decide +kernel
theorem dL_step_104 : decode cL_step 104 = .ok (.isub, 1) := by decide +kernel
theorem dL_step_105 : decode cL_step 105 = .ok (.iload_n 2, 1) := by decide +kernel
theorem dL_step_106 : decode cL_step 106 = .ok (.iconst 4, 1) := by decide +kernel
theorem dL_step_107 : decode cL_step 107 = .ok (.idiv, 1) := by decide +kernel
theorem dL_step_108 : decode cL_step 108 = .ok (.aload 5, 2) := by decide +kernel
theorem dL_step_110 : decode cL_step 110 = .ok (.iconst 1, 1) := by decide +kernel
theorem dL_step_111 : decode cL_step 111 = .ok (.iaload, 1) := by decide +kernel
theorem dL_step_112 : decode cL_step 112 = .ok (.iconst 4, 1) := by decide +kernel
theorem dL_step_113 : decode cL_step 113 = .ok (.if_icmp .ge 10, 3) := by decide +kernel
theorem dL_step_116 : decode cL_step 116 = .ok (.aload 5, 2) := by decide +kernel
theorem dL_step_118 : decode cL_step 118 = .ok (.iconst 1, 1) := by decide +kernel
theorem dL_step_119 : decode cL_step 119 = .ok (.iaload, 1) := by decide +kernel
theorem dL_step_120 : decode cL_step 120 = .ok (.goto 4, 3) := by decide +kernel
theorem dL_step_123 : decode cL_step 123 = .ok (.iconst 4, 1) := by decide +kernel
theorem dL_step_124 : decode cL_step 124 = .ok (.irem, 1) := by decide +kernel
theorem dL_step_125 : decode cL_step 125 = .ok (.isub, 1) := by decide +kernel
theorem dL_step_126 : decode cL_step 126 = .ok (.istore 8, 2) := by decide +kernel
theorem dL_step_128 : decode cL_step 128 = .ok (.iload_n 3, 1) := by decide +kernel
theorem dL_step_129 : decode cL_step 129 = .ok (.iconst 3, 1) := by decide +kernel
theorem dL_step_130 : decode cL_step 130 = .ok (.irem, 1) := by decide +kernel
theorem dL_step_131 : decode cL_step 131 = .ok (.ifCond .le 12, 3) := by decide +kernel
theorem dL_step_134 : decode cL_step 134 = .ok (.iload_n 3, 1) := by decide +kernel
theorem dL_step_135 : decode cL_step 135 = .ok (.iconst 3, 1) := by decide +kernel
theorem dL_step_136 : decode cL_step 136 = .ok (.idiv, 1) := by decide +kernel
theorem dL_step_137 : decode cL_step 137 = .ok (.bipush 6, 2) := by decide +kernel
theorem dL_step_139 : decode cL_step 139 = .ok (.irem, 1) := by decide +kernel
theorem dL_step_140 : decode cL_step 140 = .ok (.goto 9, 3) := by decide +kernel
theorem dL_step_143 : decode cL_step 143 = .ok (.iload_n 3, 1) := by decide +kernel
theorem dL_step_144 : decode cL_step 144 = .ok (.iconst 3, 1) := by decide +kernel
theorem dL_step_145 : decode cL_step 145 = .ok (.idiv, 1) := by decide +kernel
theorem dL_step_146 : decode cL_step 146 = .ok (.bipush 12, 2) := by decide +kernel
theorem dL_step_148 : decode cL_step 148 = .ok (.irem, 1) := by decide +kernel
theorem dL_step_149 : decode cL_step 149 = .ok (.istore 9, 2) := by decide +kernel
theorem dL_step_151 : decode cL_step 151 = .ok (.iload_n 1, 1) := by decide +kernel
theorem dL_step_152 : decode cL_step 152 = .ok (.bipush 10, 2) := by decide +kernel
theorem dL_step_154 : decode cL_step 154 = .ok (.if_icmp .ge 28, 3) := by decide +kernel
theorem dL_step_157 : decode cL_step 157 = .ok (.aload_n 0, 1) := by decide +kernel
theorem dL_step_158 : decode cL_step 158 = .ok (.iload 8, 2) := by decide +kernel
theorem dL_step_160 : decode cL_step 160 = .ok (.iload 9, 2) := by decide +kernel
theorem dL_step_162 : decode cL_step 162 = .ok (.iload_n 3, 1) := by decide +kernel
theorem dL_step_163 : decode cL_step 163 = .ok (.bipush 36, 2) := by decide +kernel
theorem dL_step_165 : decode cL_step 165 = .ok (.idiv, 1) := by decide +kernel
theorem dL_step_166 : decode cL_step 166 = .ok (.sipush 2000, 3) := by decide +kernel
theorem dL_step_169 : decode cL_step 169 = .ok (.irem, 1) := by decide +kernel
theorem dL_step_170 : decode cL_step 170 = .ok (.sipush 1000, 3) := by decide +kernel
theorem dL_step_173 : decode cL_step 173 = .ok (.isub, 1) := by decide +kernel
theorem dL_step_174 : decode cL_step 174 = .ok (.aload 4, 2) := by decide +kernel
theorem dL_step_176 : decode cL_step 176 = .ok (.aload 5, 2) := by decide +kernel
theorem dL_step_178 : decode cL_step 178 = .ok (.invokestatic 104, 3) := by decide +kernel
theorem dL_step_181 : decode cL_step 181 = .ok (.ireturn, 1) := by decide +kernel
theorem dL_step_182 : decode cL_step 182 = .ok (.iload_n 1, 1) := by decide +kernel
theorem dL_step_183 : decode cL_step 183 = .ok (.bipush 15, 2) := by decide +kernel
theorem dL_step_185 : decode cL_step 185 = .ok (.if_icmp .ge 41, 3) := by decide +kernel
theorem dL_step_188 : decode cL_step 188 = .ok (.aload_n 0, 1) := by decide +kernel
theorem dL_step_189 : decode cL_step 189 = .ok (.iload_n 1, 1) := by decide +kernel
theorem dL_step_190 : decode cL_step 190 = .ok (.iconst 2, 1) := by decide +kernel
theorem dL_step_191 : decode cL_step 191 = .ok (.irem, 1) := by decide +kernel
theorem dL_step_192 : decode cL_step 192 = .ok (.iconst 2, 1) := by decide +kernel
theorem dL_step_193 : decode cL_step 193 = .ok (.iadd, 1) := by decide +kernel
theorem dL_step_194 : decode cL_step 194 = .ok (.iload_n 1, 1) := by decide +kernel
theorem dL_step_195 : decode cL_step 195 = .ok (.iconst 2, 1) := by decide +kernel
theorem dL_step_196 : decode cL_step 196 = .ok (.irem, 1) := by decide +kernel
theorem dL_step_197 : decode cL_step 197 = .ok (.ifCond .ne 8, 3) := by decide +kernel
theorem dL_step_200 : decode cL_step 200 = .ok (.iload 8, 2) := by decide +kernel
theorem dL_step_202 : decode cL_step 202 = .ok (.goto 14, 3) := by decide +kernel
theorem dL_step_205 : decode cL_step 205 = .ok (.iload_n 3, 1) := by decide +kernel
theorem dL_step_206 : decode cL_step 206 = .ok (.bipush 36, 2) := by decide +kernel
theorem dL_step_208 : decode cL_step 208 = .ok (.idiv, 1) := by decide +kernel
theorem dL_step_209 : decode cL_step 209 = .ok (.aload 5, 2) := by decide +kernel
theorem dL_step_211 : decode cL_step 211 = .ok (.iconst 0, 1) := by decide +kernel
theorem dL_step_212 : decode cL_step 212 = .ok (.iaload, 1) := by decide +kernel
theorem dL_step_213 : decode cL_step 213 = .ok (.iconst 1, 1) := by decide +kernel
theorem dL_step_214 : decode cL_step 214 = .ok (.iadd, 1) := by decide +kernel
theorem dL_step_215 : decode cL_step 215 = .ok (.irem, 1) := by decide +kernel
theorem dL_step_216 : decode cL_step 216 = .ok (.iload 9, 2) := by decide +kernel
theorem dL_step_218 : decode cL_step 218 = .ok (.aload 4, 2) := by decide +kernel
theorem dL_step_220 : decode cL_step 220 = .ok (.aload 5, 2) := by decide +kernel
theorem dL_step_222 : decode cL_step 222 = .ok (.invokestatic 108, 3) := by decide +kernel
theorem dL_step_225 : decode cL_step 225 = .ok (.ireturn, 1) := by decide +kernel
theorem dL_step_226 : decode cL_step 226 = .ok (.iload_n 1, 1) := by decide +kernel
theorem dL_step_227 : decode cL_step 227 = .ok (.bipush 18, 2) := by decide +kernel
theorem dL_step_229 : decode cL_step 229 = .ok (.if_icmp .ge 27, 3) := by decide +kernel
theorem dL_step_232 : decode cL_step 232 = .ok (.aload_n 0, 1) := by decide +kernel
theorem dL_step_233 : decode cL_step 233 = .ok (.iload_n 1, 1) := by decide +kernel
theorem dL_step_234 : decode cL_step 234 = .ok (.bipush 17, 2) := by decide +kernel
theorem dL_step_236 : decode cL_step 236 = .ok (.if_icmp .ge 7, 3) := by decide +kernel
theorem dL_step_239 : decode cL_step 239 = .ok (.iconst 5, 1) := by decide +kernel
theorem dL_step_240 : decode cL_step 240 = .ok (.goto 5, 3) := by decide +kernel
theorem dL_step_243 : decode cL_step 243 = .ok (.bipush 6, 2) := by decide +kernel
theorem dL_step_245 : decode cL_step 245 = .ok (.iload 8, 2) := by decide +kernel
theorem dL_step_247 : decode cL_step 247 = .ok (.iload_n 3, 1) := by decide +kernel
theorem dL_step_248 : decode cL_step 248 = .ok (.aload 4, 2) := by decide +kernel
theorem dL_step_250 : decode cL_step 250 = .ok (.aload 5, 2) := by decide +kernel
theorem dL_step_252 : decode cL_step 252 = .ok (.invokestatic 111, 3) := by decide +kernel
theorem dL_step_255 : decode cL_step 255 = .ok (.ireturn, 1) := by decide +kernel
theorem dL_step_256 : decode cL_step 256 = .ok (.iload_n 1, 1) := by decide +kernel
theorem dL_step_257 : decode cL_step 257 = .ok (.bipush 22, 2) := by decide +kernel
theorem dL_step_259 : decode cL_step 259 = .ok (.if_icmp .ge 18, 3) := by decide +kernel
theorem dL_step_262 : decode cL_step 262 = .ok (.aload_n 0, 1) := by decide +kernel
theorem dL_step_263 : decode cL_step 263 = .ok (.iload 8, 2) := by decide +kernel
theorem dL_step_265 : decode cL_step 265 = .ok (.aload 4, 2) := by decide +kernel
theorem dL_step_267 : decode cL_step 267 = .ok (.aload 5, 2) := by decide +kernel
theorem dL_step_269 : decode cL_step 269 = .ok (.aload 6, 2) := by decide +kernel
theorem dL_step_271 : decode cL_step 271 = .ok (.iload 7, 2) := by decide +kernel
theorem dL_step_273 : decode cL_step 273 = .ok (.invokestatic 114, 3) := by decide +kernel
theorem dL_step_276 : decode cL_step 276 = .ok (.ireturn, 1) := by decide +kernel
theorem dL_step_277 : decode cL_step 277 = .ok (.iconst 1, 1) := by decide +kernel
theorem dL_step_278 : decode cL_step 278 = .ok (.iload_n 3, 1) := by decide +kernel
theorem dL_step_279 : decode cL_step 279 = .ok (.iload_n 2, 1) := by decide +kernel
theorem dL_step_280 : decode cL_step 280 = .ok (.iconst 2, 1) := by decide +kernel
theorem dL_step_281 : decode cL_step 281 = .ok (.irem, 1) := by decide +kernel
theorem dL_step_282 : decode cL_step 282 = .ok (.ifCond .ne 8, 3) := by decide +kernel
theorem dL_step_285 : decode cL_step 285 = .ok (.bipush 30, 2) := by decide +kernel
theorem dL_step_287 : decode cL_step 287 = .ok (.goto 5, 3) := by decide +kernel
theorem dL_step_290 : decode cL_step 290 = .ok (.bipush 8, 2) := by decide +kernel
theorem dL_step_292 : decode cL_step 292 = .ok (.irem, 1) := by decide +kernel
theorem dL_step_293 : decode cL_step 293 = .ok (.iadd, 1) := by decide +kernel
theorem dL_step_294 : decode cL_step 294 = .ok (.istore 10, 2) := by decide +kernel
theorem dL_step_296 : decode cL_step 296 = .ok (.aload_n 0, 1) := by decide +kernel
theorem dL_step_297 : decode cL_step 297 = .ok (.bipush 8, 2) := by decide +kernel
theorem dL_step_299 : decode cL_step 299 = .ok (.iload 10, 2) := by decide +kernel
theorem dL_step_301 : decode cL_step 301 = .ok (.iconst 0, 1) := by decide +kernel
theorem dL_step_302 : decode cL_step 302 = .ok (.iconst 0, 1) := by decide +kernel
theorem dL_step_303 : decode cL_step 303 = .ok (.invokestatic 96, 3) := by decide +kernel
theorem dL_step_306 : decode cL_step 306 = .ok (.istore 11, 2) := by decide +kernel
theorem dL_step_308 : decode cL_step 308 = .ok (.aload 5, 2) := by decide +kernel
theorem dL_step_310 : decode cL_step 310 = .ok (.iconst 2, 1) := by decide +kernel
theorem dL_step_311 : decode cL_step 311 = .ok (.iaload, 1) := by decide +kernel
theorem dL_step_312 : decode cL_step 312 = .ok (.iload 10, 2) := by decide +kernel
theorem dL_step_314 : decode cL_step 314 = .ok (.if_icmp .gt 7, 3) := by decide +kernel
theorem dL_step_317 : decode cL_step 317 = .ok (.iconst 1, 1) := by decide +kernel
theorem dL_step_318 : decode cL_step 318 = .ok (.goto 4, 3) := by decide +kernel
theorem dL_step_321 : decode cL_step 321 = .ok (.iconst 0, 1) := by decide +kernel
theorem dL_step_322 : decode cL_step 322 = .ok (.istore 12, 2) := by decide +kernel
theorem dL_step_324 : decode cL_step 324 = .ok (.aload 5, 2) := by decide +kernel
theorem dL_step_326 : decode cL_step 326 = .ok (.iconst 5, 1) := by decide +kernel
theorem dL_step_327 : decode cL_step 327 = .ok (.iaload, 1) := by decide +kernel
theorem dL_step_328 : decode cL_step 328 = .ok (.istore 13, 2) := by decide +kernel
theorem dL_step_330 : decode cL_step 330 = .ok (.aload 5, 2) := by decide +kernel
theorem dL_step_332 : decode cL_step 332 = .ok (.iconst 5, 1) := by decide +kernel
theorem dL_step_333 : decode cL_step 333 = .ok (.iload 12, 2) := by decide +kernel
theorem dL_step_335 : decode cL_step 335 = .ok (.ifCond .eq 8, 3) := by decide +kernel
theorem dL_step_338 : decode cL_step 338 = .ok (.iload 10, 2) := by decide +kernel
theorem dL_step_340 : decode cL_step 340 = .ok (.goto 5, 3) := by decide +kernel
theorem dL_step_343 : decode cL_step 343 = .ok (.iload 13, 2) := by decide +kernel
theorem dL_step_345 : decode cL_step 345 = .ok (.iastore, 1) := by decide +kernel
theorem dL_step_346 : decode cL_step 346 = .ok (.iload 11, 2) := by decide +kernel
theorem dL_step_348 : decode cL_step 348 = .ok (.iload 12, 2) := by decide +kernel
theorem dL_step_350 : decode cL_step 350 = .ok (.ifCond .eq 8, 3) := by decide +kernel
theorem dL_step_353 : decode cL_step 353 = .ok (.iload 13, 2) := by decide +kernel
theorem dL_step_355 : decode cL_step 355 = .ok (.goto 5, 3) := by decide +kernel
theorem dL_step_358 : decode cL_step 358 = .ok (.ldc 48, 2) := by decide +kernel
theorem dL_step_360 : decode cL_step 360 = .ok (.if_icmp .ne 7, 3) := by decide +kernel
theorem dL_step_363 : decode cL_step 363 = .ok (.iconst 1, 1) := by decide +kernel
theorem dL_step_364 : decode cL_step 364 = .ok (.goto 4, 3) := by decide +kernel
theorem dL_step_367 : decode cL_step 367 = .ok (.iconst 0, 1) := by decide +kernel
theorem dL_step_368 : decode cL_step 368 = .ok (.ireturn, 1) := by decide +kernel
