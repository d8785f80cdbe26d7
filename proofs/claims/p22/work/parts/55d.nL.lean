/-! printed: decode rows and words of the law's methods -/
set_option maxRecDepth 20000 in
theorem ggL_reads_L_dirty : GoodIn wsL_reads wsL_dirty := goodIn_ca (goodIn_r _ [6, 7, 8, 9, 10, 11, 12, 13, 14, 15, 16, 17, 18, 19, 20, 5, 21, 22, 23, 24, 25, 294, 295, 296, 297, 298, 299, 300, 301, 302, 303, 304, 305, 306, 307, 308, 309] (by decide +kernel) (by decide +kernel)) (goodIn_sub (fun _ h => List.mem_cons_of_mem _ (List.mem_append_left _ (List.mem_append_left _ (List.mem_append_left _ (List.mem_append_right _ h))))) (by decide +kernel))
set_option maxRecDepth 20000 in
theorem gL_reads_L_dirty : GoodIn wsL_reads (va_wsS RL 92 yL_dirty wsL_dirty) := goodIn_app (goodIn_of _ (by decide +kernel)) ggL_reads_L_dirty
set_option maxRecDepth 20000 in
theorem ggL_reads_L_isActive : GoodIn wsL_reads wsL_isActive := goodIn_r _ [21] (by decide +kernel) (by decide +kernel)
set_option maxRecDepth 20000 in
theorem gL_reads_L_isActive : GoodIn wsL_reads (va_wsS RL 79 yL_isActive wsL_isActive) := goodIn_app (goodIn_of _ (by decide +kernel)) ggL_reads_L_isActive
set_option maxRecDepth 20000 in
theorem ggL_reads_X5_versionAt : GoodIn wsL_reads wsX5_versionAt := goodIn_ca (goodIn_ca (goodIn_r _ [29, 30, 31, 32, 10, 33, 16, 17, 34, 35, 36, 37, 38, 39, 40, 41, 42, 43, 44, 45, 46, 47, 48, 49, 50, 51, 52, 53, 54, 55, 56, 57, 58, 59, 60, 61, 62, 63, 64, 65, 66, 67, 68, 69, 70, 71, 72, 73, 74, 75, 76, 77, 78, 79, 80, 81, 82, 83, 84, 85, 86, 87, 88, 89, 301, 302, 303, 304, 305, 306, 307, 308, 310, 311, 312, 313, 314, 315, 316, 296, 297, 298, 299, 300, 317, 318] (by decide +kernel) (by decide +kernel)) (goodIn_sub (fun _ h => List.mem_cons_of_mem _ (List.mem_append_left _ (List.mem_append_left _ (List.mem_append_left _ (List.mem_append_right _ h))))) (by decide +kernel))) (goodIn_sub (fun _ h => List.mem_cons_of_mem _ (List.mem_append_left _ (List.mem_append_left _ (List.mem_append_right _ h)))) (by decide +kernel))
set_option maxRecDepth 20000 in
theorem gL_reads_X5_versionAt : GoodIn wsL_reads (wsV RL 76 RX5 yX5_versionAt wsX5_versionAt) := goodIn_app (goodIn_of _ (by decide +kernel)) ggL_reads_X5_versionAt
set_option maxRecDepth 20000 in
theorem ggL_reads_X5_lockOf : GoodIn wsL_reads wsX5_lockOf := goodIn_ca (goodIn_r _ [93, 30, 31, 32, 10, 33, 16, 17, 34, 94, 95, 96, 97, 46, 47, 48, 49, 50, 51, 52, 53, 54, 55, 56, 57, 58, 59, 60, 61, 62, 63, 64, 65, 66, 67, 68, 69, 70, 71, 72, 73, 74, 75, 76, 296, 297, 298, 299, 300, 301, 302, 303, 304, 305, 306, 307, 308, 313, 314, 315, 316, 310, 311, 312] (by decide +kernel) (by decide +kernel)) (goodIn_sub (fun _ h => List.mem_cons_of_mem _ (List.mem_append_left _ (List.mem_append_left _ (List.mem_append_left _ (List.mem_append_right _ h))))) (by decide +kernel))
set_option maxRecDepth 20000 in
theorem gL_reads_X5_lockOf : GoodIn wsL_reads (wsV RL 70 RX5 yX5_lockOf wsX5_lockOf) := goodIn_app (goodIn_of _ (by decide +kernel)) ggL_reads_X5_lockOf
set_option maxRecDepth 20000 in
theorem ggL_reads_X5_now : GoodIn wsL_reads wsX5_now := goodIn_ca (goodIn_r _ [101, 30, 31, 32, 10, 33, 16, 17, 34, 317, 318, 301, 302, 303, 304, 305, 306, 307, 308] (by decide +kernel) (by decide +kernel)) (goodIn_sub (fun _ h => List.mem_cons_of_mem _ (List.mem_append_left _ (List.mem_append_left _ (List.mem_append_left _ (List.mem_append_right _ h))))) (by decide +kernel))
set_option maxRecDepth 20000 in
theorem gL_reads_X5_now : GoodIn wsL_reads (wsV RL 73 RX5 yX5_now wsX5_now) := goodIn_app (goodIn_of _ (by decide +kernel)) ggL_reads_X5_now
set_option maxRecDepth 20000 in
theorem ggL_reads_L_asks : GoodIn wsL_reads wsL_asks := goodIn_ca (goodIn_ca (goodIn_ca (goodIn_ca (goodIn_r _ [104, 105, 106, 107, 108, 109, 1, 110, 2, 111, 112, 113, 10, 114, 115, 116, 117, 118, 119, 82, 41, 48, 49, 50, 51, 52, 53, 120, 121, 122, 123, 124, 125, 85, 126, 127, 128, 129, 130, 131, 132, 133, 134, 70, 135, 136, 137, 138, 139, 140, 141, 142, 143, 144, 145, 146, 147, 148, 149, 150, 151, 152, 153, 154, 155, 156, 157, 158, 159, 160, 161, 162, 163, 164, 165, 166, 167, 168, 169, 170, 171, 172, 173, 174, 175, 176, 177, 178, 179, 180, 181, 182, 183, 184, 185, 39, 40, 186, 187, 188, 189, 190, 72, 46, 191, 192, 193, 194, 16, 17, 195, 54, 55, 56, 57, 58, 59, 60, 61, 62, 63, 64, 65, 66, 67, 68, 69, 30, 31, 32, 33, 34, 196, 197, 198, 199, 200, 201, 202, 203, 94, 95, 96, 97, 47, 71, 73, 74, 75, 76, 204, 205, 206, 207, 208, 209, 210, 211, 212, 213, 214, 215, 216, 217, 218, 219, 220, 221, 222, 223, 224, 225, 226, 227, 228, 229, 230, 231, 232, 233, 234, 235, 236, 237, 238, 239, 240, 241, 80, 242, 243, 244, 245, 246, 247, 248, 249, 250, 251, 252, 253, 254, 255, 42, 43, 44, 45, 77, 78, 79, 81, 83, 84, 86, 87, 88, 89, 256, 257, 258, 259, 35, 36, 37, 38, 260, 261, 262, 263, 264, 265, 266, 267, 268, 269, 270, 271, 272, 273, 274, 275, 276, 277, 278, 279, 280, 281, 282, 283, 284, 285, 286, 301, 302, 303, 304, 305, 306, 307, 308, 296, 297, 298, 299, 300, 310, 311, 312, 317, 318, 313, 314, 315, 316, 309, 294, 295] (by decide +kernel) (by decide +kernel)) (goodIn_sub (fun _ h => List.mem_cons_of_mem _ (List.mem_append_left _ (List.mem_append_right _ h))) (by decide +kernel))) (goodIn_sub (fun _ h => List.mem_cons_of_mem _ (List.mem_append_left _ (List.mem_append_left _ (List.mem_append_right _ h)))) (by decide +kernel))) (goodIn_sub (fun _ h => List.mem_cons_of_mem _ (List.mem_append_left _ (List.mem_append_left _ (List.mem_append_left _ (List.mem_append_right _ h))))) (by decide +kernel))) (goodIn_sub (fun _ h => List.mem_cons_of_mem _ (List.mem_append_right _ h)) (by decide +kernel))
set_option maxRecDepth 20000 in
theorem gL_reads_L_asks : GoodIn wsL_reads (va_wsS RL 96 yL_asks wsL_asks) := goodIn_app (goodIn_of _ (by decide +kernel)) ggL_reads_L_asks
set_option maxRecDepth 20000 in
theorem ggL_reads_X5_marked : GoodIn wsL_reads wsX5_marked := goodIn_r _ [290, 231, 301, 302, 303, 304, 305, 306, 307, 308] (by decide +kernel) (by decide +kernel)
set_option maxRecDepth 20000 in
theorem gL_reads_X5_marked : GoodIn wsL_reads (wsV RL 67 RX5 yX5_marked wsX5_marked) := goodIn_app (goodIn_of _ (by decide +kernel)) ggL_reads_X5_marked
set_option maxRecDepth 20000 in
theorem ggL_reads_L_isClean : GoodIn wsL_reads wsL_isClean := goodIn_ca (goodIn_r _ [293, 3, 4, 5, 6, 7, 8, 9, 10, 11, 12, 13, 14, 15, 16, 17, 18, 19, 20, 21, 22, 23, 24, 25, 294, 295, 296, 297, 298, 299, 300, 301, 302, 303, 304, 305, 306, 307, 308, 309] (by decide +kernel) (by decide +kernel)) (goodIn_sub (fun _ h => List.mem_cons_of_mem _ (List.mem_append_left _ (List.mem_append_left _ (List.mem_append_left _ (List.mem_append_right _ h))))) (by decide +kernel))
set_option maxRecDepth 20000 in
theorem gL_reads_L_isClean : GoodIn wsL_reads (va_wsS RL 100 yL_isClean wsL_isClean) := goodIn_app (goodIn_of _ (by decide +kernel)) ggL_reads_L_isClean
theorem dL_reads_0 : decode cL_reads 0 = .ok (.aload_n 0, 1) := by decide +kernel
theorem dL_reads_1 : decode cL_reads 1 = .ok (.aload 4, 2) := by decide +kernel
theorem dL_reads_3 : decode cL_reads 3 = .ok (.iload_n 3, 1) := by decide +kernel
theorem dL_reads_4 : decode cL_reads 4 = .ok (.iconst 4, 1) := by decide +kernel
theorem dL_reads_5 : decode cL_reads 5 = .ok (.idiv, 1) := by decide +kernel
theorem dL_reads_6 : decode cL_reads 6 = .ok (.invokestatic 92, 3) := by decide +kernel
theorem dL_reads_9 : decode cL_reads 9 = .ok (.istore 6, 2) := by decide +kernel
theorem dL_reads_11 : decode cL_reads 11 = .ok (.iload_n 1, 1) := by decide +kernel
theorem dL_reads_12 : decode cL_reads 12 = .ok (.iconst 3, 1) := by decide +kernel
theorem dL_reads_13 : decode cL_reads 13 = .ok (.if_icmp .eq 12, 3) := by decide +kernel
theorem dL_reads_16 : decode cL_reads 16 = .ok (.aload 4, 2) := by decide +kernel
theorem dL_reads_18 : decode cL_reads 18 = .ok (.iload_n 2, 1) := by decide +kernel
theorem dL_reads_19 : decode cL_reads 19 = .ok (.invokestatic 79, 3) := by decide +kernel
theorem dL_reads_22 : decode cL_reads 22 = .ok (.ifCond .eq 7, 3) := by decide +kernel
theorem dL_reads_25 : decode cL_reads 25 = .ok (.iconst 1, 1) := by decide +kernel
theorem dL_reads_26 : decode cL_reads 26 = .ok (.goto 4, 3) := by decide +kernel
theorem dL_reads_29 : decode cL_reads 29 = .ok (.iconst 0, 1) := by decide +kernel
theorem dL_reads_30 : decode cL_reads 30 = .ok (.istore 7, 2) := by decide +kernel
theorem dL_reads_32 : decode cL_reads 32 = .ok (.iload 7, 2) := by decide +kernel
theorem dL_reads_34 : decode cL_reads 34 = .ok (.ifCond .ne 7, 3) := by decide +kernel
theorem dL_reads_37 : decode cL_reads 37 = .ok (.iconst 0, 1) := by decide +kernel
theorem dL_reads_38 : decode cL_reads 38 = .ok (.goto 45, 3) := by decide +kernel
theorem dL_reads_41 : decode cL_reads 41 = .ok (.iload_n 1, 1) := by decide +kernel
theorem dL_reads_42 : decode cL_reads 42 = .ok (.iconst 3, 1) := by decide +kernel
theorem dL_reads_43 : decode cL_reads 43 = .ok (.if_icmp .ne 12, 3) := by decide +kernel
theorem dL_reads_46 : decode cL_reads 46 = .ok (.aload_n 0, 1) := by decide +kernel
theorem dL_reads_47 : decode cL_reads 47 = .ok (.iload_n 2, 1) := by decide +kernel
theorem dL_reads_48 : decode cL_reads 48 = .ok (.iload_n 3, 1) := by decide +kernel
theorem dL_reads_49 : decode cL_reads 49 = .ok (.invokevirtual 76, 3) := by decide +kernel
theorem dL_reads_52 : decode cL_reads 52 = .ok (.goto 31, 3) := by decide +kernel
theorem dL_reads_55 : decode cL_reads 55 = .ok (.aload_n 0, 1) := by decide +kernel
theorem dL_reads_56 : decode cL_reads 56 = .ok (.iload_n 3, 1) := by decide +kernel
theorem dL_reads_57 : decode cL_reads 57 = .ok (.invokevirtual 70, 3) := by decide +kernel
theorem dL_reads_60 : decode cL_reads 60 = .ok (.iload_n 2, 1) := by decide +kernel
theorem dL_reads_61 : decode cL_reads 61 = .ok (.if_icmp .ne 11, 3) := by decide +kernel
theorem dL_reads_64 : decode cL_reads 64 = .ok (.aload_n 0, 1) := by decide +kernel
theorem dL_reads_65 : decode cL_reads 65 = .ok (.iload_n 3, 1) := by decide +kernel
theorem dL_reads_66 : decode cL_reads 66 = .ok (.invokevirtual 73, 3) := by decide +kernel
theorem dL_reads_69 : decode cL_reads 69 = .ok (.goto 14, 3) := by decide +kernel
theorem dL_reads_72 : decode cL_reads 72 = .ok (.aload_n 0, 1) := by decide +kernel
theorem dL_reads_73 : decode cL_reads 73 = .ok (.aload 4, 2) := by decide +kernel
theorem dL_reads_75 : decode cL_reads 75 = .ok (.iload_n 2, 1) := by decide +kernel
theorem dL_reads_76 : decode cL_reads 76 = .ok (.iaload, 1) := by decide +kernel
theorem dL_reads_77 : decode cL_reads 77 = .ok (.iconst 4, 1) := by decide +kernel
theorem dL_reads_78 : decode cL_reads 78 = .ok (.idiv, 1) := by decide +kernel
theorem dL_reads_79 : decode cL_reads 79 = .ok (.iload_n 3, 1) := by decide +kernel
theorem dL_reads_80 : decode cL_reads 80 = .ok (.invokevirtual 76, 3) := by decide +kernel
theorem dL_reads_83 : decode cL_reads 83 = .ok (.istore 8, 2) := by decide +kernel
theorem dL_reads_85 : decode cL_reads 85 = .ok (.aload_n 0, 1) := by decide +kernel
theorem dL_reads_86 : decode cL_reads 86 = .ok (.iload_n 1, 1) := by decide +kernel
theorem dL_reads_87 : decode cL_reads 87 = .ok (.iload_n 2, 1) := by decide +kernel
theorem dL_reads_88 : decode cL_reads 88 = .ok (.iload_n 3, 1) := by decide +kernel
theorem dL_reads_89 : decode cL_reads 89 = .ok (.iconst 0, 1) := by decide +kernel
theorem dL_reads_90 : decode cL_reads 90 = .ok (.invokestatic 96, 3) := by decide +kernel
theorem dL_reads_93 : decode cL_reads 93 = .ok (.istore 9, 2) := by decide +kernel
theorem dL_reads_95 : decode cL_reads 95 = .ok (.iload 7, 2) := by decide +kernel
theorem dL_reads_97 : decode cL_reads 97 = .ok (.ifCond .ne 27, 3) := by decide +kernel
theorem dL_reads_100 : decode cL_reads 100 = .ok (.iload 9, 2) := by decide +kernel
theorem dL_reads_102 : decode cL_reads 102 = .ok (.ldc 48, 2) := by decide +kernel
theorem dL_reads_104 : decode cL_reads 104 = .ok (.if_icmp .ne 18, 3) := by decide +kernel
theorem dL_reads_107 : decode cL_reads 107 = .ok (.aload_n 0, 1) := by decide +kernel
theorem dL_reads_108 : decode cL_reads 108 = .ok (.invokevirtual 67, 3) := by decide +kernel
theorem dL_reads_111 : decode cL_reads 111 = .ok (.aload 5, 2) := by decide +kernel
theorem dL_reads_113 : decode cL_reads 113 = .ok (.iconst 4, 1) := by decide +kernel
theorem dL_reads_114 : decode cL_reads 114 = .ok (.iaload, 1) := by decide +kernel
theorem dL_reads_115 : decode cL_reads 115 = .ok (.if_icmp .ne 7, 3) := by decide +kernel
theorem dL_reads_118 : decode cL_reads 118 = .ok (.iconst 1, 1) := by decide +kernel
theorem dL_reads_119 : decode cL_reads 119 = .ok (.goto 4, 3) := by decide +kernel
theorem dL_reads_122 : decode cL_reads 122 = .ok (.iconst 0, 1) := by decide +kernel
theorem dL_reads_123 : decode cL_reads 123 = .ok (.ireturn, 1) := by decide +kernel
theorem dL_reads_124 : decode cL_reads 124 = .ok (.iload 9, 2) := by decide +kernel
theorem dL_reads_126 : decode cL_reads 126 = .ok (.ldc 54, 2) := by decide +kernel
theorem dL_reads_128 : decode cL_reads 128 = .ok (.if_icmp .ne 27, 3) := by decide +kernel
theorem dL_reads_131 : decode cL_reads 131 = .ok (.aload 5, 2) := by decide +kernel
theorem dL_reads_133 : decode cL_reads 133 = .ok (.iconst 3, 1) := by decide +kernel
theorem dL_reads_134 : decode cL_reads 134 = .ok (.iaload, 1) := by decide +kernel
theorem dL_reads_135 : decode cL_reads 135 = .ok (.ifCond .le 18, 3) := by decide +kernel
theorem dL_reads_138 : decode cL_reads 138 = .ok (.aload_n 0, 1) := by decide +kernel
theorem dL_reads_139 : decode cL_reads 139 = .ok (.invokevirtual 67, 3) := by decide +kernel
theorem dL_reads_142 : decode cL_reads 142 = .ok (.aload 5, 2) := by decide +kernel
theorem dL_reads_144 : decode cL_reads 144 = .ok (.iconst 4, 1) := by decide +kernel
theorem dL_reads_145 : decode cL_reads 145 = .ok (.iaload, 1) := by decide +kernel
theorem dL_reads_146 : decode cL_reads 146 = .ok (.if_icmp .ne 7, 3) := by decide +kernel
theorem dL_reads_149 : decode cL_reads 149 = .ok (.iconst 1, 1) := by decide +kernel
theorem dL_reads_150 : decode cL_reads 150 = .ok (.goto 4, 3) := by decide +kernel
theorem dL_reads_153 : decode cL_reads 153 = .ok (.iconst 0, 1) := by decide +kernel
theorem dL_reads_154 : decode cL_reads 154 = .ok (.ireturn, 1) := by decide +kernel
theorem dL_reads_155 : decode cL_reads 155 = .ok (.aload 5, 2) := by decide +kernel
theorem dL_reads_157 : decode cL_reads 157 = .ok (.iconst 4, 1) := by decide +kernel
theorem dL_reads_158 : decode cL_reads 158 = .ok (.dup2, 1) := by decide +kernel
theorem dL_reads_159 : decode cL_reads 159 = .ok (.iaload, 1) := by decide +kernel
theorem dL_reads_160 : decode cL_reads 160 = .ok (.iload 6, 2) := by decide +kernel
theorem dL_reads_162 : decode cL_reads 162 = .ok (.iadd, 1) := by decide +kernel
theorem dL_reads_163 : decode cL_reads 163 = .ok (.iastore, 1) := by decide +kernel
theorem dL_reads_164 : decode cL_reads 164 = .ok (.iload 9, 2) := by decide +kernel
theorem dL_reads_166 : decode cL_reads 166 = .ok (.iload 8, 2) := by decide +kernel
theorem dL_reads_168 : decode cL_reads 168 = .ok (.if_icmp .ne 19, 3) := by decide +kernel
theorem dL_reads_171 : decode cL_reads 171 = .ok (.aload_n 0, 1) := by decide +kernel
theorem dL_reads_172 : decode cL_reads 172 = .ok (.aload 4, 2) := by decide +kernel
theorem dL_reads_174 : decode cL_reads 174 = .ok (.iload_n 3, 1) := by decide +kernel
theorem dL_reads_175 : decode cL_reads 175 = .ok (.iconst 4, 1) := by decide +kernel
theorem dL_reads_176 : decode cL_reads 176 = .ok (.idiv, 1) := by decide +kernel
theorem dL_reads_177 : decode cL_reads 177 = .ok (.invokestatic 100, 3) := by decide +kernel
theorem dL_reads_180 : decode cL_reads 180 = .ok (.ifCond .eq 7, 3) := by decide +kernel
theorem dL_reads_183 : decode cL_reads 183 = .ok (.iconst 1, 1) := by decide +kernel
theorem dL_reads_184 : decode cL_reads 184 = .ok (.goto 4, 3) := by decide +kernel
theorem dL_reads_187 : decode cL_reads 187 = .ok (.iconst 0, 1) := by decide +kernel
theorem dL_reads_188 : decode cL_reads 188 = .ok (.ireturn, 1) := by decide +kernel
set_option maxRecDepth 20000 in
theorem ggL_undoes_L_isActive : GoodIn wsL_undoes wsL_isActive := goodIn_r _ [6] (by decide +kernel) (by decide +kernel)
set_option maxRecDepth 20000 in
theorem gL_undoes_L_isActive : GoodIn wsL_undoes (va_wsS RL 79 yL_isActive wsL_isActive) := goodIn_app (goodIn_of _ (by decide +kernel)) ggL_undoes_L_isActive
set_option maxRecDepth 20000 in
theorem ggL_undoes_L_asks : GoodIn wsL_undoes wsL_asks := goodIn_ca (goodIn_ca (goodIn_ca (goodIn_ca (goodIn_r _ [9, 10, 11, 12, 13, 14, 1, 2, 15, 16, 17, 18, 19, 20, 21, 22, 23, 24, 25, 26, 27, 28, 29, 30, 31, 32, 33, 34, 35, 36, 37, 38, 39, 40, 41, 42, 43, 44, 45, 46, 47, 48, 49, 50, 51, 52, 53, 54, 55, 56, 57, 58, 59, 60, 61, 62, 63, 64, 65, 66, 67, 68, 69, 70, 71, 72, 73, 74, 75, 76, 77, 78, 79, 80, 81, 82, 83, 84, 85, 86, 87, 88, 89, 90, 91, 92, 93, 94, 95, 96, 97, 98, 99, 100, 101, 102, 103, 104, 105, 106, 107, 108, 109, 110, 111, 112, 113, 114, 115, 116, 117, 118, 119, 120, 121, 122, 123, 124, 125, 126, 127, 128, 129, 130, 131, 132, 133, 134, 135, 136, 137, 138, 139, 140, 141, 142, 143, 144, 145, 146, 147, 148, 149, 150, 151, 152, 153, 154, 155, 156, 157, 158, 159, 160, 161, 162, 163, 164, 165, 166, 167, 168, 169, 170, 171, 172, 173, 174, 175, 176, 177, 178, 179, 180, 181, 182, 183, 184, 185, 186, 187, 188, 189, 190, 191, 192, 193, 194, 195, 196, 197, 198, 199, 200, 201, 202, 203, 204, 205, 206, 207, 208, 209, 210, 211, 212, 213, 214, 215, 216, 217, 218, 219, 220, 221, 222, 223, 224, 225, 226, 227, 228, 229, 230, 231, 232, 233, 234, 235, 236, 237, 238, 239, 240, 241, 242, 243, 244, 245, 246, 247, 248, 249, 250, 251, 252, 253, 254, 255, 256, 257, 258, 263, 264, 265, 266, 267, 268, 269, 270, 271, 272, 273, 274, 275, 276, 277, 278, 279, 280, 281, 282, 283, 284, 285, 286, 287] (by decide +kernel) (by decide +kernel)) (goodIn_sub (fun _ h => List.mem_cons_of_mem _ (List.mem_append_left _ (List.mem_append_left _ (List.mem_append_left _ (List.mem_append_right _ h))))) (by decide +kernel))) (goodIn_sub (fun _ h => List.mem_cons_of_mem _ (List.mem_append_left _ (List.mem_append_left _ (List.mem_append_right _ h)))) (by decide +kernel))) (goodIn_sub (fun _ h => List.mem_cons_of_mem _ (List.mem_append_left _ (List.mem_append_right _ h))) (by decide +kernel))) (goodIn_sub (fun _ h => List.mem_cons_of_mem _ (List.mem_append_right _ h)) (by decide +kernel))
set_option maxRecDepth 20000 in
theorem gL_undoes_L_asks : GoodIn wsL_undoes (va_wsS RL 96 yL_asks wsL_asks) := goodIn_app (goodIn_of _ (by decide +kernel)) ggL_undoes_L_asks
set_option maxRecDepth 20000 in
theorem ggL_undoes_X5_lockOf : GoodIn wsL_undoes wsX5_lockOf := goodIn_ca (goodIn_r _ [262, 134, 135, 136, 19, 137, 115, 116, 138, 147, 148, 149, 150, 110, 151, 28, 29, 30, 31, 32, 33, 118, 119, 120, 121, 122, 123, 124, 125, 126, 127, 128, 129, 130, 131, 132, 133, 50, 152, 109, 153, 154, 155, 156, 271, 272, 273, 274, 275, 263, 264, 265, 266, 267, 268, 269, 270, 281, 282, 283, 284, 276, 277, 278] (by decide +kernel) (by decide +kernel)) (goodIn_sub (fun _ h => List.mem_cons_of_mem _ (List.mem_append_left _ (List.mem_append_right _ h))) (by decide +kernel))
set_option maxRecDepth 20000 in
theorem gL_undoes_X5_lockOf : GoodIn wsL_undoes (wsV RL 70 RX5 yX5_lockOf wsX5_lockOf) := goodIn_app (goodIn_of _ (by decide +kernel)) ggL_undoes_X5_lockOf
theorem dL_undoes_0 : decode cL_undoes 0 = .ok (.aload 4, 2) := by decide +kernel
theorem dL_undoes_2 : decode cL_undoes 2 = .ok (.iload_n 2, 1) := by decide +kernel
theorem dL_undoes_3 : decode cL_undoes 3 = .ok (.invokestatic 79, 3) := by decide +kernel
theorem dL_undoes_6 : decode cL_undoes 6 = .ok (.istore 6, 2) := by decide +kernel
theorem dL_undoes_8 : decode cL_undoes 8 = .ok (.aload_n 0, 1) := by decide +kernel
theorem dL_undoes_9 : decode cL_undoes 9 = .ok (.iconst 4, 1) := by decide +kernel
theorem dL_undoes_10 : decode cL_undoes 10 = .ok (.iload_n 2, 1) := by decide +kernel
theorem dL_undoes_11 : decode cL_undoes 11 = .ok (.iconst 0, 1) := by decide +kernel
theorem dL_undoes_12 : decode cL_undoes 12 = .ok (.iconst 0, 1) := by decide +kernel
theorem dL_undoes_13 : decode cL_undoes 13 = .ok (.invokestatic 96, 3) := by decide +kernel
theorem dL_undoes_16 : decode cL_undoes 16 = .ok (.istore 7, 2) := by decide +kernel
theorem dL_undoes_18 : decode cL_undoes 18 = .ok (.iload 6, 2) := by decide +kernel
theorem dL_undoes_20 : decode cL_undoes 20 = .ok (.ifCond .ne 43, 3) := by decide +kernel
theorem dL_undoes_23 : decode cL_undoes 23 = .ok (.iload 7, 2) := by decide +kernel
theorem dL_undoes_25 : decode cL_undoes 25 = .ok (.ldc 48, 2) := by decide +kernel
theorem dL_undoes_27 : decode cL_undoes 27 = .ok (.if_icmp .ne 34, 3) := by decide +kernel
theorem dL_undoes_30 : decode cL_undoes 30 = .ok (.aload_n 0, 1) := by decide +kernel
theorem dL_undoes_31 : decode cL_undoes 31 = .ok (.iconst 5, 1) := by decide +kernel
theorem dL_undoes_32 : decode cL_undoes 32 = .ok (.iload_n 2, 1) := by decide +kernel
theorem dL_undoes_33 : decode cL_undoes 33 = .ok (.iconst 0, 1) := by decide +kernel
theorem dL_undoes_34 : decode cL_undoes 34 = .ok (.iconst 0, 1) := by decide +kernel
theorem dL_undoes_35 : decode cL_undoes 35 = .ok (.invokestatic 96, 3) := by decide +kernel
theorem dL_undoes_38 : decode cL_undoes 38 = .ok (.ldc 48, 2) := by decide +kernel
theorem dL_undoes_40 : decode cL_undoes 40 = .ok (.if_icmp .ne 21, 3) := by decide +kernel
theorem dL_undoes_43 : decode cL_undoes 43 = .ok (.aload_n 0, 1) := by decide +kernel
theorem dL_undoes_44 : decode cL_undoes 44 = .ok (.bipush 6, 2) := by decide +kernel
theorem dL_undoes_46 : decode cL_undoes 46 = .ok (.iload_n 2, 1) := by decide +kernel
theorem dL_undoes_47 : decode cL_undoes 47 = .ok (.iconst 0, 1) := by decide +kernel
theorem dL_undoes_48 : decode cL_undoes 48 = .ok (.iconst 0, 1) := by decide +kernel
theorem dL_undoes_49 : decode cL_undoes 49 = .ok (.invokestatic 96, 3) := by decide +kernel
theorem dL_undoes_52 : decode cL_undoes 52 = .ok (.ldc 48, 2) := by decide +kernel
theorem dL_undoes_54 : decode cL_undoes 54 = .ok (.if_icmp .ne 7, 3) := by decide +kernel
theorem dL_undoes_57 : decode cL_undoes 57 = .ok (.iconst 1, 1) := by decide +kernel
theorem dL_undoes_58 : decode cL_undoes 58 = .ok (.goto 4, 3) := by decide +kernel
theorem dL_undoes_61 : decode cL_undoes 61 = .ok (.iconst 0, 1) := by decide +kernel
theorem dL_undoes_62 : decode cL_undoes 62 = .ok (.ireturn, 1) := by decide +kernel
theorem dL_undoes_63 : decode cL_undoes 63 = .ok (.iload_n 1, 1) := by decide +kernel
theorem dL_undoes_64 : decode cL_undoes 64 = .ok (.iconst 5, 1) := by decide +kernel
theorem dL_undoes_65 : decode cL_undoes 65 = .ok (.if_icmp .ne 76, 3) := by decide +kernel
theorem dL_undoes_68 : decode cL_undoes 68 = .ok (.iload_n 3, 1) := by decide +kernel
theorem dL_undoes_69 : decode cL_undoes 69 = .ok (.iload 7, 2) := by decide +kernel
theorem dL_undoes_71 : decode cL_undoes 71 = .ok (.iconst 1, 1) := by decide +kernel
theorem dL_undoes_72 : decode cL_undoes 72 = .ok (.iadd, 1) := by decide +kernel
theorem dL_undoes_73 : decode cL_undoes 73 = .ok (.irem, 1) := by decide +kernel
theorem dL_undoes_74 : decode cL_undoes 74 = .ok (.istore 8, 2) := by decide +kernel
theorem dL_undoes_76 : decode cL_undoes 76 = .ok (.aload_n 0, 1) := by decide +kernel
theorem dL_undoes_77 : decode cL_undoes 77 = .ok (.iconst 5, 1) := by decide +kernel
theorem dL_undoes_78 : decode cL_undoes 78 = .ok (.iload_n 2, 1) := by decide +kernel
theorem dL_undoes_79 : decode cL_undoes 79 = .ok (.iload 8, 2) := by decide +kernel
theorem dL_undoes_81 : decode cL_undoes 81 = .ok (.iconst 0, 1) := by decide +kernel
theorem dL_undoes_82 : decode cL_undoes 82 = .ok (.invokestatic 96, 3) := by decide +kernel
theorem dL_undoes_85 : decode cL_undoes 85 = .ok (.iload 7, 2) := by decide +kernel
theorem dL_undoes_87 : decode cL_undoes 87 = .ok (.iload 8, 2) := by decide +kernel
theorem dL_undoes_89 : decode cL_undoes 89 = .ok (.isub, 1) := by decide +kernel
theorem dL_undoes_90 : decode cL_undoes 90 = .ok (.if_icmp .ne 49, 3) := by decide +kernel
theorem dL_undoes_93 : decode cL_undoes 93 = .ok (.aload_n 0, 1) := by decide +kernel
theorem dL_undoes_94 : decode cL_undoes 94 = .ok (.iconst 4, 1) := by decide +kernel
theorem dL_undoes_95 : decode cL_undoes 95 = .ok (.iload_n 2, 1) := by decide +kernel
theorem dL_undoes_96 : decode cL_undoes 96 = .ok (.iconst 0, 1) := by decide +kernel
theorem dL_undoes_97 : decode cL_undoes 97 = .ok (.iconst 0, 1) := by decide +kernel
theorem dL_undoes_98 : decode cL_undoes 98 = .ok (.invokestatic 96, 3) := by decide +kernel
theorem dL_undoes_101 : decode cL_undoes 101 = .ok (.iload 8, 2) := by decide +kernel
theorem dL_undoes_103 : decode cL_undoes 103 = .ok (.if_icmp .ne 36, 3) := by decide +kernel
theorem dL_undoes_106 : decode cL_undoes 106 = .ok (.aload_n 0, 1) := by decide +kernel
theorem dL_undoes_107 : decode cL_undoes 107 = .ok (.iconst 5, 1) := by decide +kernel
theorem dL_undoes_108 : decode cL_undoes 108 = .ok (.iload_n 2, 1) := by decide +kernel
theorem dL_undoes_109 : decode cL_undoes 109 = .ok (.iload 8, 2) := by decide +kernel
theorem dL_undoes_111 : decode cL_undoes 111 = .ok (.iconst 1, 1) := by decide +kernel
theorem dL_undoes_112 : decode cL_undoes 112 = .ok (.iadd, 1) := by decide +kernel
theorem dL_undoes_113 : decode cL_undoes 113 = .ok (.iconst 0, 1) := by decide +kernel
theorem dL_undoes_114 : decode cL_undoes 114 = .ok (.invokestatic 96, 3) := by decide +kernel
theorem dL_undoes_117 : decode cL_undoes 117 = .ok (.ldc 51, 2) := by decide +kernel
theorem dL_undoes_119 : decode cL_undoes 119 = .ok (.if_icmp .ne 20, 3) := by decide +kernel
theorem dL_undoes_122 : decode cL_undoes 122 = .ok (.aload_n 0, 1) := by decide +kernel
theorem dL_undoes_123 : decode cL_undoes 123 = .ok (.iconst 5, 1) := by decide +kernel
theorem dL_undoes_124 : decode cL_undoes 124 = .ok (.iload_n 2, 1) := by decide +kernel
theorem dL_undoes_125 : decode cL_undoes 125 = .ok (.iconst (-1), 1) := by decide +kernel
theorem dL_undoes_126 : decode cL_undoes 126 = .ok (.iconst 0, 1) := by decide +kernel
theorem dL_undoes_127 : decode cL_undoes 127 = .ok (.invokestatic 96, 3) := by decide +kernel
theorem dL_undoes_130 : decode cL_undoes 130 = .ok (.ldc 51, 2) := by decide +kernel
theorem dL_undoes_132 : decode cL_undoes 132 = .ok (.if_icmp .ne 7, 3) := by decide +kernel
theorem dL_undoes_135 : decode cL_undoes 135 = .ok (.iconst 1, 1) := by decide +kernel
theorem dL_undoes_136 : decode cL_undoes 136 = .ok (.goto 4, 3) := by decide +kernel
theorem dL_undoes_139 : decode cL_undoes 139 = .ok (.iconst 0, 1) := by decide +kernel
theorem dL_undoes_140 : decode cL_undoes 140 = .ok (.ireturn, 1) := by decide +kernel
theorem dL_undoes_141 : decode cL_undoes 141 = .ok (.aload_n 0, 1) := by decide +kernel
theorem dL_undoes_142 : decode cL_undoes 142 = .ok (.bipush 6, 2) := by decide +kernel
theorem dL_undoes_144 : decode cL_undoes 144 = .ok (.iload_n 2, 1) := by decide +kernel
theorem dL_undoes_145 : decode cL_undoes 145 = .ok (.iconst 0, 1) := by decide +kernel
theorem dL_undoes_146 : decode cL_undoes 146 = .ok (.iconst 0, 1) := by decide +kernel
theorem dL_undoes_147 : decode cL_undoes 147 = .ok (.invokestatic 96, 3) := by decide +kernel
theorem dL_undoes_150 : decode cL_undoes 150 = .ok (.iload 7, 2) := by decide +kernel
theorem dL_undoes_152 : decode cL_undoes 152 = .ok (.if_icmp .ne 7, 3) := by decide +kernel
theorem dL_undoes_155 : decode cL_undoes 155 = .ok (.iconst 1, 1) := by decide +kernel
theorem dL_undoes_156 : decode cL_undoes 156 = .ok (.goto 4, 3) := by decide +kernel
theorem dL_undoes_159 : decode cL_undoes 159 = .ok (.iconst 0, 1) := by decide +kernel
theorem dL_undoes_160 : decode cL_undoes 160 = .ok (.istore 8, 2) := by decide +kernel
theorem dL_undoes_162 : decode cL_undoes 162 = .ok (.aload 4, 2) := by decide +kernel
theorem dL_undoes_164 : decode cL_undoes 164 = .ok (.iload_n 2, 1) := by decide +kernel
theorem dL_undoes_165 : decode cL_undoes 165 = .ok (.dup2, 1) := by decide +kernel
theorem dL_undoes_166 : decode cL_undoes 166 = .ok (.iaload, 1) := by decide +kernel
theorem dL_undoes_167 : decode cL_undoes 167 = .ok (.iconst 2, 1) := by decide +kernel
theorem dL_undoes_168 : decode cL_undoes 168 = .ok (.iadd, 1) := by decide +kernel
theorem dL_undoes_169 : decode cL_undoes 169 = .ok (.iastore, 1) := by decide +kernel
theorem dL_undoes_170 : decode cL_undoes 170 = .ok (.iconst 0, 1) := by decide +kernel
theorem dL_undoes_171 : decode cL_undoes 171 = .ok (.istore 9, 2) := by decide +kernel
theorem dL_undoes_173 : decode cL_undoes 173 = .ok (.iload 9, 2) := by decide +kernel
theorem dL_undoes_175 : decode cL_undoes 175 = .ok (.bipush 12, 2) := by decide +kernel
theorem dL_undoes_177 : decode cL_undoes 177 = .ok (.if_icmp .ge 31, 3) := by decide +kernel
theorem dL_undoes_180 : decode cL_undoes 180 = .ok (.iload 8, 2) := by decide +kernel
theorem dL_undoes_182 : decode cL_undoes 182 = .ok (.ifCond .eq 26, 3) := by decide +kernel
theorem dL_undoes_185 : decode cL_undoes 185 = .ok (.aload_n 0, 1) := by decide +kernel
theorem dL_undoes_186 : decode cL_undoes 186 = .ok (.iload 9, 2) := by decide +kernel
theorem dL_undoes_188 : decode cL_undoes 188 = .ok (.invokevirtual 70, 3) := by decide +kernel
theorem dL_undoes_191 : decode cL_undoes 191 = .ok (.iload_n 2, 1) := by decide +kernel
theorem dL_undoes_192 : decode cL_undoes 192 = .ok (.if_icmp .eq 7, 3) := by decide +kernel
theorem dL_undoes_195 : decode cL_undoes 195 = .ok (.iconst 1, 1) := by decide +kernel
theorem dL_undoes_196 : decode cL_undoes 196 = .ok (.goto 4, 3) := by decide +kernel
theorem dL_undoes_199 : decode cL_undoes 199 = .ok (.iconst 0, 1) := by decide +kernel
theorem dL_undoes_200 : decode cL_undoes 200 = .ok (.istore 8, 2) := by decide +kernel
theorem dL_undoes_202 : decode cL_undoes 202 = .ok (.iinc 9 1, 3) := by decide +kernel
theorem dL_undoes_205 : decode cL_undoes 205 = .ok (.goto (-32), 3) := by decide +kernel
theorem dL_undoes_208 : decode cL_undoes 208 = .ok (.iload 8, 2) := by decide +kernel
theorem dL_undoes_210 : decode cL_undoes 210 = .ok (.ifCond .eq 21, 3) := by decide +kernel
theorem dL_undoes_213 : decode cL_undoes 213 = .ok (.aload_n 0, 1) := by decide +kernel
theorem dL_undoes_214 : decode cL_undoes 214 = .ok (.bipush 6, 2) := by decide +kernel
theorem dL_undoes_216 : decode cL_undoes 216 = .ok (.iload_n 2, 1) := by decide +kernel
theorem dL_undoes_217 : decode cL_undoes 217 = .ok (.iconst 0, 1) := by decide +kernel
theorem dL_undoes_218 : decode cL_undoes 218 = .ok (.iconst 0, 1) := by decide +kernel
theorem dL_undoes_219 : decode cL_undoes 219 = .ok (.invokestatic 96, 3) := by decide +kernel
theorem dL_undoes_222 : decode cL_undoes 222 = .ok (.ldc 48, 2) := by decide +kernel
theorem dL_undoes_224 : decode cL_undoes 224 = .ok (.if_icmp .ne 7, 3) := by decide +kernel
theorem dL_undoes_227 : decode cL_undoes 227 = .ok (.iconst 1, 1) := by decide +kernel
theorem dL_undoes_228 : decode cL_undoes 228 = .ok (.goto 4, 3) := by decide +kernel
theorem dL_undoes_231 : decode cL_undoes 231 = .ok (.iconst 0, 1) := by decide +kernel
theorem dL_undoes_232 : decode cL_undoes 232 = .ok (.ireturn, 1) := by decide +kernel
