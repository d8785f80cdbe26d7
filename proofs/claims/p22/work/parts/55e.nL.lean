/-! printed: decode rows and words of the law's methods -/
set_option maxRecDepth 20000 in
theorem ggL_commits_X5_lockOf : GoodIn wsL_commits wsX5_lockOf := goodIn_ca (goodIn_r _ [7, 8, 9, 10, 6, 11, 12, 13, 14, 15, 16, 17, 18, 19, 20, 21, 22, 23, 24, 25, 26, 27, 28, 29, 30, 31, 32, 33, 34, 35, 36, 37, 38, 39, 40, 41, 42, 43, 44, 45, 46, 47, 48, 49, 272, 273, 274, 275, 276, 277, 278, 279, 280, 281, 282, 283, 284, 285, 286, 287, 288, 289, 290, 291] (by decide +kernel) (by decide +kernel)) (goodIn_sub (fun _ h => List.mem_cons_of_mem _ (List.mem_append_left _ (List.mem_append_left _ (List.mem_append_left _ (List.mem_append_right _ h))))) (by decide +kernel))
set_option maxRecDepth 20000 in
theorem gL_commits_X5_lockOf : GoodIn wsL_commits (wsV RL 70 RX5 yX5_lockOf wsX5_lockOf) := goodIn_app (goodIn_of _ (by decide +kernel)) ggL_commits_X5_lockOf
set_option maxRecDepth 20000 in
theorem ggL_commits_X5_now : GoodIn wsL_commits wsX5_now := goodIn_ca (goodIn_r _ [53, 8, 9, 10, 6, 11, 12, 13, 14, 292, 293, 277, 278, 279, 280, 281, 282, 283, 284] (by decide +kernel) (by decide +kernel)) (goodIn_sub (fun _ h => List.mem_cons_of_mem _ (List.mem_append_left _ (List.mem_append_left _ (List.mem_append_left _ (List.mem_append_right _ h))))) (by decide +kernel))
set_option maxRecDepth 20000 in
theorem gL_commits_X5_now : GoodIn wsL_commits (wsV RL 73 RX5 yX5_now wsX5_now) := goodIn_app (goodIn_of _ (by decide +kernel)) ggL_commits_X5_now
set_option maxRecDepth 20000 in
theorem ggL_commits_X5_versionAt : GoodIn wsL_commits wsX5_versionAt := goodIn_ca (goodIn_ca (goodIn_r _ [57, 8, 9, 10, 6, 11, 12, 13, 14, 58, 59, 60, 61, 62, 63, 64, 65, 66, 67, 68, 19, 20, 21, 22, 23, 24, 25, 26, 27, 28, 29, 30, 31, 32, 33, 34, 35, 36, 37, 38, 39, 40, 41, 42, 43, 44, 45, 46, 47, 48, 49, 69, 70, 71, 72, 73, 74, 75, 76, 77, 78, 79, 80, 81, 277, 278, 279, 280, 281, 282, 283, 284, 289, 290, 291, 285, 286, 287, 288, 272, 273, 274, 275, 276, 292, 293] (by decide +kernel) (by decide +kernel)) (goodIn_sub (fun _ h => List.mem_cons_of_mem _ (List.mem_append_left _ (List.mem_append_left _ (List.mem_append_left _ (List.mem_append_right _ h))))) (by decide +kernel))) (goodIn_sub (fun _ h => List.mem_cons_of_mem _ (List.mem_append_left _ (List.mem_append_left _ (List.mem_append_right _ h)))) (by decide +kernel))
set_option maxRecDepth 20000 in
theorem gL_commits_X5_versionAt : GoodIn wsL_commits (wsV RL 76 RX5 yX5_versionAt wsX5_versionAt) := goodIn_app (goodIn_of _ (by decide +kernel)) ggL_commits_X5_versionAt
set_option maxRecDepth 20000 in
theorem ggL_commits_L_asks : GoodIn wsL_commits wsL_asks := goodIn_ca (goodIn_ca (goodIn_ca (goodIn_ca (goodIn_r _ [85, 86, 87, 88, 89, 90, 2, 91, 92, 93, 94, 95, 6, 96, 97, 98, 99, 100, 101, 74, 64, 21, 22, 23, 24, 25, 26, 102, 103, 104, 105, 106, 107, 77, 108, 109, 110, 111, 112, 113, 114, 115, 116, 43, 117, 118, 119, 120, 121, 122, 123, 124, 125, 126, 127, 128, 129, 130, 131, 132, 133, 134, 135, 136, 137, 138, 139, 140, 141, 142, 143, 144, 145, 146, 147, 148, 149, 150, 151, 152, 153, 154, 155, 156, 157, 158, 159, 160, 161, 162, 163, 164, 165, 166, 167, 62, 63, 168, 169, 170, 171, 172, 45, 19, 173, 174, 175, 176, 12, 13, 177, 27, 28, 29, 30, 31, 32, 33, 34, 35, 36, 37, 38, 39, 40, 41, 42, 8, 9, 10, 11, 14, 178, 179, 180, 181, 182, 183, 184, 185, 15, 16, 17, 18, 20, 44, 46, 47, 48, 49, 186, 187, 188, 189, 190, 191, 192, 193, 194, 195, 196, 197, 198, 199, 200, 201, 202, 203, 204, 205, 206, 207, 208, 209, 210, 211, 212, 213, 214, 215, 216, 217, 218, 219, 220, 221, 222, 223, 72, 224, 225, 226, 227, 228, 229, 230, 231, 232, 233, 234, 235, 236, 237, 65, 66, 67, 68, 69, 70, 71, 73, 75, 76, 78, 79, 80, 81, 238, 239, 240, 241, 58, 59, 60, 61, 242, 243, 244, 245, 246, 247, 248, 249, 250, 251, 252, 253, 254, 255, 256, 257, 258, 259, 260, 261, 262, 263, 264, 265, 266, 267, 268, 277, 278, 279, 280, 281, 282, 283, 284, 272, 273, 274, 275, 276, 289, 290, 291, 292, 293, 285, 286, 287, 288, 294, 295, 296] (by decide +kernel) (by decide +kernel)) (goodIn_sub (fun _ h => List.mem_cons_of_mem _ (List.mem_append_left _ (List.mem_append_right _ h))) (by decide +kernel))) (goodIn_sub (fun _ h => List.mem_cons_of_mem _ (List.mem_append_left _ (List.mem_append_left _ (List.mem_append_right _ h)))) (by decide +kernel))) (goodIn_sub (fun _ h => List.mem_cons_of_mem _ (List.mem_append_left _ (List.mem_append_left _ (List.mem_append_left _ (List.mem_append_right _ h))))) (by decide +kernel))) (goodIn_sub (fun _ h => List.mem_cons_of_mem _ (List.mem_append_right _ h)) (by decide +kernel))
set_option maxRecDepth 20000 in
theorem gL_commits_L_asks : GoodIn wsL_commits (va_wsS RL 96 yL_asks wsL_asks) := goodIn_app (goodIn_of _ (by decide +kernel)) ggL_commits_L_asks
set_option maxRecDepth 20000 in
theorem ggL_commits_L_isActive : GoodIn wsL_commits wsL_isActive := goodIn_r _ [271] (by decide +kernel) (by decide +kernel)
set_option maxRecDepth 20000 in
theorem gL_commits_L_isActive : GoodIn wsL_commits (va_wsS RL 79 yL_isActive wsL_isActive) := goodIn_app (goodIn_of _ (by decide +kernel)) ggL_commits_L_isActive
theorem dL_commits_0 : decode cL_commits 0 = .ok (.bipush 12, 2) := by decide +kernel
theorem dL_commits_2 : decode cL_commits 2 = .ok (.newarray .int, 2) := by decide +kernel
theorem dL_commits_4 : decode cL_commits 4 = .ok (.astore 6, 2) := by decide +kernel
theorem dL_commits_6 : decode cL_commits 6 = .ok (.iconst 0, 1) := by decide +kernel
theorem dL_commits_7 : decode cL_commits 7 = .ok (.istore 7, 2) := by decide +kernel
theorem dL_commits_9 : decode cL_commits 9 = .ok (.iload 7, 2) := by decide +kernel
theorem dL_commits_11 : decode cL_commits 11 = .ok (.bipush 12, 2) := by decide +kernel
theorem dL_commits_13 : decode cL_commits 13 = .ok (.if_icmp .ge 42, 3) := by decide +kernel
theorem dL_commits_16 : decode cL_commits 16 = .ok (.aload 6, 2) := by decide +kernel
theorem dL_commits_18 : decode cL_commits 18 = .ok (.iload 7, 2) := by decide +kernel
theorem dL_commits_20 : decode cL_commits 20 = .ok (.aload_n 0, 1) := by decide +kernel
theorem dL_commits_21 : decode cL_commits 21 = .ok (.iload 7, 2) := by decide +kernel
theorem dL_commits_23 : decode cL_commits 23 = .ok (.invokevirtual 70, 3) := by decide +kernel
theorem dL_commits_26 : decode cL_commits 26 = .ok (.iload_n 1, 1) := by decide +kernel
theorem dL_commits_27 : decode cL_commits 27 = .ok (.if_icmp .ne 12, 3) := by decide +kernel
theorem dL_commits_30 : decode cL_commits 30 = .ok (.aload_n 0, 1) := by decide +kernel
theorem dL_commits_31 : decode cL_commits 31 = .ok (.iload 7, 2) := by decide +kernel
theorem dL_commits_33 : decode cL_commits 33 = .ok (.invokevirtual 73, 3) := by decide +kernel
theorem dL_commits_36 : decode cL_commits 36 = .ok (.goto 12, 3) := by decide +kernel
theorem dL_commits_39 : decode cL_commits 39 = .ok (.aload_n 0, 1) := by decide +kernel
theorem dL_commits_40 : decode cL_commits 40 = .ok (.aload_n 3, 1) := by decide +kernel
theorem dL_commits_41 : decode cL_commits 41 = .ok (.iconst 0, 1) := by decide +kernel
theorem dL_commits_42 : decode cL_commits 42 = .ok (.iaload, 1) := by decide +kernel
theorem dL_commits_43 : decode cL_commits 43 = .ok (.iload 7, 2) := by decide +kernel
theorem dL_commits_45 : decode cL_commits 45 = .ok (.invokevirtual 76, 3) := by decide +kernel
theorem dL_commits_48 : decode cL_commits 48 = .ok (.iastore, 1) := by decide +kernel
theorem dL_commits_49 : decode cL_commits 49 = .ok (.iinc 7 1, 3) := by decide +kernel
theorem dL_commits_52 : decode cL_commits 52 = .ok (.goto (-43), 3) := by decide +kernel
theorem dL_commits_55 : decode cL_commits 55 = .ok (.aload_n 0, 1) := by decide +kernel
theorem dL_commits_56 : decode cL_commits 56 = .ok (.bipush 7, 2) := by decide +kernel
theorem dL_commits_58 : decode cL_commits 58 = .ok (.iload_n 1, 1) := by decide +kernel
theorem dL_commits_59 : decode cL_commits 59 = .ok (.iconst 0, 1) := by decide +kernel
theorem dL_commits_60 : decode cL_commits 60 = .ok (.iconst 0, 1) := by decide +kernel
theorem dL_commits_61 : decode cL_commits 61 = .ok (.invokestatic 96, 3) := by decide +kernel
theorem dL_commits_64 : decode cL_commits 64 = .ok (.istore 7, 2) := by decide +kernel
theorem dL_commits_66 : decode cL_commits 66 = .ok (.aload_n 2, 1) := by decide +kernel
theorem dL_commits_67 : decode cL_commits 67 = .ok (.iload_n 1, 1) := by decide +kernel
theorem dL_commits_68 : decode cL_commits 68 = .ok (.invokestatic 79, 3) := by decide +kernel
theorem dL_commits_71 : decode cL_commits 71 = .ok (.ifCond .ne 16, 3) := by decide +kernel
theorem dL_commits_74 : decode cL_commits 74 = .ok (.iload 7, 2) := by decide +kernel
theorem dL_commits_76 : decode cL_commits 76 = .ok (.ldc 48, 2) := by decide +kernel
theorem dL_commits_78 : decode cL_commits 78 = .ok (.if_icmp .ne 7, 3) := by decide +kernel
theorem dL_commits_81 : decode cL_commits 81 = .ok (.iconst 1, 1) := by decide +kernel
theorem dL_commits_82 : decode cL_commits 82 = .ok (.goto 4, 3) := by decide +kernel
theorem dL_commits_85 : decode cL_commits 85 = .ok (.iconst 0, 1) := by decide +kernel
theorem dL_commits_86 : decode cL_commits 86 = .ok (.ireturn, 1) := by decide +kernel
theorem dL_commits_87 : decode cL_commits 87 = .ok (.aload_n 3, 1) := by decide +kernel
theorem dL_commits_88 : decode cL_commits 88 = .ok (.iconst 0, 1) := by decide +kernel
theorem dL_commits_89 : decode cL_commits 89 = .ok (.dup2, 1) := by decide +kernel
theorem dL_commits_90 : decode cL_commits 90 = .ok (.iaload, 1) := by decide +kernel
theorem dL_commits_91 : decode cL_commits 91 = .ok (.iconst 1, 1) := by decide +kernel
theorem dL_commits_92 : decode cL_commits 92 = .ok (.iadd, 1) := by decide +kernel
theorem dL_commits_93 : decode cL_commits 93 = .ok (.iastore, 1) := by decide +kernel
theorem dL_commits_94 : decode cL_commits 94 = .ok (.aload_n 2, 1) := by decide +kernel
theorem dL_commits_95 : decode cL_commits 95 = .ok (.iload_n 1, 1) := by decide +kernel
theorem dL_commits_96 : decode cL_commits 96 = .ok (.dup2, 1) := by decide +kernel
theorem dL_commits_97 : decode cL_commits 97 = .ok (.iaload, 1) := by decide +kernel
theorem dL_commits_98 : decode cL_commits 98 = .ok (.iconst 1, 1) := by decide +kernel
theorem dL_commits_99 : decode cL_commits 99 = .ok (.iadd, 1) := by decide +kernel
theorem dL_commits_100 : decode cL_commits 100 = .ok (.iastore, 1) := by decide +kernel
theorem dL_commits_101 : decode cL_commits 101 = .ok (.iload 7, 2) := by decide +kernel
theorem dL_commits_103 : decode cL_commits 103 = .ok (.aload_n 3, 1) := by decide +kernel
theorem dL_commits_104 : decode cL_commits 104 = .ok (.iconst 0, 1) := by decide +kernel
theorem dL_commits_105 : decode cL_commits 105 = .ok (.iaload, 1) := by decide +kernel
theorem dL_commits_106 : decode cL_commits 106 = .ok (.if_icmp .ne 7, 3) := by decide +kernel
theorem dL_commits_109 : decode cL_commits 109 = .ok (.iconst 1, 1) := by decide +kernel
theorem dL_commits_110 : decode cL_commits 110 = .ok (.goto 4, 3) := by decide +kernel
theorem dL_commits_113 : decode cL_commits 113 = .ok (.iconst 0, 1) := by decide +kernel
theorem dL_commits_114 : decode cL_commits 114 = .ok (.istore 8, 2) := by decide +kernel
theorem dL_commits_116 : decode cL_commits 116 = .ok (.iconst 0, 1) := by decide +kernel
theorem dL_commits_117 : decode cL_commits 117 = .ok (.istore 9, 2) := by decide +kernel
theorem dL_commits_119 : decode cL_commits 119 = .ok (.iload 9, 2) := by decide +kernel
theorem dL_commits_121 : decode cL_commits 121 = .ok (.bipush 12, 2) := by decide +kernel
theorem dL_commits_123 : decode cL_commits 123 = .ok (.if_icmp .ge 48, 3) := by decide +kernel
theorem dL_commits_126 : decode cL_commits 126 = .ok (.iload 8, 2) := by decide +kernel
theorem dL_commits_128 : decode cL_commits 128 = .ok (.ifCond .eq 43, 3) := by decide +kernel
theorem dL_commits_131 : decode cL_commits 131 = .ok (.aload_n 0, 1) := by decide +kernel
theorem dL_commits_132 : decode cL_commits 132 = .ok (.aload_n 3, 1) := by decide +kernel
theorem dL_commits_133 : decode cL_commits 133 = .ok (.iconst 0, 1) := by decide +kernel
theorem dL_commits_134 : decode cL_commits 134 = .ok (.iaload, 1) := by decide +kernel
theorem dL_commits_135 : decode cL_commits 135 = .ok (.iload 9, 2) := by decide +kernel
theorem dL_commits_137 : decode cL_commits 137 = .ok (.invokevirtual 76, 3) := by decide +kernel
theorem dL_commits_140 : decode cL_commits 140 = .ok (.aload 6, 2) := by decide +kernel
theorem dL_commits_142 : decode cL_commits 142 = .ok (.iload 9, 2) := by decide +kernel
theorem dL_commits_144 : decode cL_commits 144 = .ok (.iaload, 1) := by decide +kernel
theorem dL_commits_145 : decode cL_commits 145 = .ok (.if_icmp .ne 17, 3) := by decide +kernel
theorem dL_commits_148 : decode cL_commits 148 = .ok (.aload_n 0, 1) := by decide +kernel
theorem dL_commits_149 : decode cL_commits 149 = .ok (.iload 9, 2) := by decide +kernel
theorem dL_commits_151 : decode cL_commits 151 = .ok (.invokevirtual 70, 3) := by decide +kernel
theorem dL_commits_154 : decode cL_commits 154 = .ok (.iload_n 1, 1) := by decide +kernel
theorem dL_commits_155 : decode cL_commits 155 = .ok (.if_icmp .eq 7, 3) := by decide +kernel
theorem dL_commits_158 : decode cL_commits 158 = .ok (.iconst 1, 1) := by decide +kernel
theorem dL_commits_159 : decode cL_commits 159 = .ok (.goto 4, 3) := by decide +kernel
theorem dL_commits_162 : decode cL_commits 162 = .ok (.iconst 0, 1) := by decide +kernel
theorem dL_commits_163 : decode cL_commits 163 = .ok (.istore 8, 2) := by decide +kernel
theorem dL_commits_165 : decode cL_commits 165 = .ok (.iinc 9 1, 3) := by decide +kernel
theorem dL_commits_168 : decode cL_commits 168 = .ok (.goto (-49), 3) := by decide +kernel
theorem dL_commits_171 : decode cL_commits 171 = .ok (.aload 4, 2) := by decide +kernel
theorem dL_commits_173 : decode cL_commits 173 = .ok (.aload_n 3, 1) := by decide +kernel
theorem dL_commits_174 : decode cL_commits 174 = .ok (.iconst 0, 1) := by decide +kernel
theorem dL_commits_175 : decode cL_commits 175 = .ok (.iaload, 1) := by decide +kernel
theorem dL_commits_176 : decode cL_commits 176 = .ok (.aload 6, 2) := by decide +kernel
theorem dL_commits_178 : decode cL_commits 178 = .ok (.iload 5, 2) := by decide +kernel
theorem dL_commits_180 : decode cL_commits 180 = .ok (.iaload, 1) := by decide +kernel
theorem dL_commits_181 : decode cL_commits 181 = .ok (.iastore, 1) := by decide +kernel
theorem dL_commits_182 : decode cL_commits 182 = .ok (.iload 8, 2) := by decide +kernel
theorem dL_commits_184 : decode cL_commits 184 = .ok (.ireturn, 1) := by decide +kernel
