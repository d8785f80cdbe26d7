/-! printed: decode rows and words of the law's methods -/
set_option maxRecDepth 20000 in
theorem ggL_writes_X5_lockOf : GoodIn wsL_writes wsX5_lockOf := goodIn_ca (goodIn_r _ [6, 7, 8, 9, 5, 10, 11, 12, 13, 14, 15, 16, 17, 18, 19, 20, 21, 22, 23, 24, 25, 26, 27, 28, 29, 30, 31, 32, 33, 34, 35, 36, 37, 38, 39, 40, 41, 42, 43, 44, 45, 46, 47, 48, 290, 291, 292, 293, 294, 295, 296, 297, 298, 299, 300, 301, 302, 303, 304, 305, 306, 307, 308, 309] (by decide +kernel) (by decide +kernel)) (goodIn_sub (fun _ h => List.mem_cons_of_mem _ (List.mem_append_left _ (List.mem_append_left _ (List.mem_append_left _ (List.mem_append_right _ h))))) (by decide +kernel))
set_option maxRecDepth 20000 in
theorem gL_writes_X5_lockOf : GoodIn wsL_writes (wsV RL 70 RX5 yX5_lockOf wsX5_lockOf) := goodIn_app (goodIn_of _ (by decide +kernel)) ggL_writes_X5_lockOf
set_option maxRecDepth 20000 in
theorem ggL_writes_X5_now : GoodIn wsL_writes wsX5_now := goodIn_ca (goodIn_r _ [52, 7, 8, 9, 5, 10, 11, 12, 13, 310, 311, 295, 296, 297, 298, 299, 300, 301, 302] (by decide +kernel) (by decide +kernel)) (goodIn_sub (fun _ h => List.mem_cons_of_mem _ (List.mem_append_left _ (List.mem_append_left _ (List.mem_append_left _ (List.mem_append_right _ h))))) (by decide +kernel))
set_option maxRecDepth 20000 in
theorem gL_writes_X5_now : GoodIn wsL_writes (wsV RL 73 RX5 yX5_now wsX5_now) := goodIn_app (goodIn_of _ (by decide +kernel)) ggL_writes_X5_now
set_option maxRecDepth 20000 in
theorem ggL_writes_L_dirty : GoodIn wsL_writes wsL_dirty := goodIn_ca (goodIn_r _ [56, 57, 58, 59, 5, 60, 61, 62, 63, 64, 11, 12, 65, 66, 67, 55, 68, 69, 70, 71, 72, 312, 313, 290, 291, 292, 293, 294, 295, 296, 297, 298, 299, 300, 301, 302, 314] (by decide +kernel) (by decide +kernel)) (goodIn_sub (fun _ h => List.mem_cons_of_mem _ (List.mem_append_left _ (List.mem_append_left _ (List.mem_append_left _ (List.mem_append_right _ h))))) (by decide +kernel))
set_option maxRecDepth 20000 in
theorem gL_writes_L_dirty : GoodIn wsL_writes (va_wsS RL 92 yL_dirty wsL_dirty) := goodIn_app (goodIn_of _ (by decide +kernel)) ggL_writes_L_dirty
set_option maxRecDepth 20000 in
theorem ggL_writes_X5_slotOf : GoodIn wsL_writes wsX5_slotOf := goodIn_ca (goodIn_r _ [60, 61, 62, 63, 5, 64, 11, 12, 65, 312, 313, 290, 291, 292, 293, 294, 295, 296, 297, 298, 299, 300, 301, 302, 314] (by decide +kernel) (by decide +kernel)) (goodIn_sub (fun _ h => List.mem_cons_of_mem _ (List.mem_append_left _ (List.mem_append_left _ (List.mem_append_left _ (List.mem_append_right _ h))))) (by decide +kernel))
set_option maxRecDepth 20000 in
theorem gL_writes_X5_slotOf : GoodIn wsL_writes (wsV RL 85 RX5 yX5_slotOf wsX5_slotOf) := goodIn_app (goodIn_of _ (by decide +kernel)) ggL_writes_X5_slotOf
set_option maxRecDepth 20000 in
theorem ggL_writes_L_isActive : GoodIn wsL_writes wsL_isActive := goodIn_r _ [68] (by decide +kernel) (by decide +kernel)
set_option maxRecDepth 20000 in
theorem gL_writes_L_isActive : GoodIn wsL_writes (va_wsS RL 79 yL_isActive wsL_isActive) := goodIn_app (goodIn_of _ (by decide +kernel)) ggL_writes_L_isActive
set_option maxRecDepth 20000 in
theorem ggL_writes_L_asks : GoodIn wsL_writes wsL_asks := goodIn_ca (goodIn_ca (goodIn_ca (goodIn_ca (goodIn_r _ [75, 76, 77, 78, 79, 80, 1, 81, 82, 83, 84, 85, 5, 86, 87, 88, 89, 90, 91, 92, 93, 20, 21, 22, 23, 24, 25, 94, 95, 96, 97, 98, 99, 100, 101, 102, 103, 104, 105, 106, 107, 108, 109, 42, 110, 111, 112, 113, 114, 115, 116, 117, 118, 119, 120, 121, 122, 123, 124, 125, 126, 127, 128, 129, 130, 131, 132, 133, 134, 135, 136, 137, 138, 139, 140, 141, 142, 143, 144, 145, 146, 147, 148, 149, 150, 151, 152, 153, 154, 155, 156, 157, 158, 159, 160, 161, 162, 163, 164, 165, 166, 167, 44, 18, 168, 169, 170, 171, 11, 12, 172, 26, 27, 28, 29, 30, 31, 32, 33, 34, 35, 36, 37, 38, 39, 40, 41, 7, 8, 9, 10, 13, 173, 174, 175, 176, 177, 178, 179, 180, 14, 15, 16, 17, 19, 43, 45, 46, 47, 48, 181, 182, 183, 184, 185, 186, 187, 188, 189, 190, 191, 192, 193, 194, 195, 196, 197, 198, 199, 200, 201, 202, 203, 204, 205, 206, 207, 208, 209, 210, 211, 212, 213, 214, 215, 216, 217, 218, 219, 220, 221, 222, 223, 224, 225, 226, 227, 228, 229, 230, 231, 232, 233, 234, 235, 236, 237, 238, 239, 240, 241, 242, 243, 244, 245, 246, 247, 248, 249, 250, 251, 252, 253, 254, 255, 256, 257, 258, 259, 260, 261, 262, 263, 264, 265, 266, 267, 268, 269, 270, 271, 272, 273, 274, 275, 276, 277, 278, 279, 280, 281, 282, 295, 296, 297, 298, 299, 300, 301, 302, 290, 291, 292, 293, 294, 307, 308, 309, 310, 311, 303, 304, 305, 306, 314, 312, 313] (by decide +kernel) (by decide +kernel)) (goodIn_sub (fun _ h => List.mem_cons_of_mem _ (List.mem_append_left _ (List.mem_append_left _ (List.mem_append_right _ h)))) (by decide +kernel))) (goodIn_sub (fun _ h => List.mem_cons_of_mem _ (List.mem_append_left _ (List.mem_append_right _ h))) (by decide +kernel))) (goodIn_sub (fun _ h => List.mem_cons_of_mem _ (List.mem_append_left _ (List.mem_append_left _ (List.mem_append_left _ (List.mem_append_right _ h))))) (by decide +kernel))) (goodIn_sub (fun _ h => List.mem_cons_of_mem _ (List.mem_append_right _ h)) (by decide +kernel))
set_option maxRecDepth 20000 in
theorem gL_writes_L_asks : GoodIn wsL_writes (va_wsS RL 96 yL_asks wsL_asks) := goodIn_app (goodIn_of _ (by decide +kernel)) ggL_writes_L_asks
set_option maxRecDepth 20000 in
theorem ggL_writes_X5_marked : GoodIn wsL_writes wsX5_marked := goodIn_r _ [286, 208, 295, 296, 297, 298, 299, 300, 301, 302] (by decide +kernel) (by decide +kernel)
set_option maxRecDepth 20000 in
theorem gL_writes_X5_marked : GoodIn wsL_writes (wsV RL 67 RX5 yX5_marked wsX5_marked) := goodIn_app (goodIn_of _ (by decide +kernel)) ggL_writes_X5_marked
set_option maxRecDepth 20000 in
theorem ggL_writes_X5_isMarked : GoodIn wsL_writes wsX5_isMarked := goodIn_ca (goodIn_r _ [72, 61, 62, 63, 5, 64, 11, 12, 65, 312, 313, 295, 296, 297, 298, 299, 300, 301, 302, 314] (by decide +kernel) (by decide +kernel)) (goodIn_sub (fun _ h => List.mem_cons_of_mem _ (List.mem_append_left _ (List.mem_append_left _ (List.mem_append_left _ (List.mem_append_right _ h))))) (by decide +kernel))
set_option maxRecDepth 20000 in
theorem gL_writes_X5_isMarked : GoodIn wsL_writes (wsV RL 88 RX5 yX5_isMarked wsX5_isMarked) := goodIn_app (goodIn_of _ (by decide +kernel)) ggL_writes_X5_isMarked
set_option maxRecDepth 20000 in
theorem ggL_writes_L_isClean : GoodIn wsL_writes wsL_isClean := goodIn_ca (goodIn_r _ [289, 53, 54, 55, 56, 57, 58, 59, 5, 60, 61, 62, 63, 64, 11, 12, 65, 66, 67, 68, 69, 70, 71, 72, 312, 313, 290, 291, 292, 293, 294, 295, 296, 297, 298, 299, 300, 301, 302, 314] (by decide +kernel) (by decide +kernel)) (goodIn_sub (fun _ h => List.mem_cons_of_mem _ (List.mem_append_left _ (List.mem_append_left _ (List.mem_append_left _ (List.mem_append_right _ h))))) (by decide +kernel))
set_option maxRecDepth 20000 in
theorem gL_writes_L_isClean : GoodIn wsL_writes (va_wsS RL 100 yL_isClean wsL_isClean) := goodIn_app (goodIn_of _ (by decide +kernel)) ggL_writes_L_isClean
theorem dL_writes_0 : decode cL_writes 0 = .ok (.aload_n 0, 1) := by decide +kernel
theorem dL_writes_1 : decode cL_writes 1 = .ok (.iload_n 2, 1) := by decide +kernel
theorem dL_writes_2 : decode cL_writes 2 = .ok (.invokevirtual 70, 3) := by decide +kernel
theorem dL_writes_5 : decode cL_writes 5 = .ok (.istore 6, 2) := by decide +kernel
theorem dL_writes_7 : decode cL_writes 7 = .ok (.aload_n 0, 1) := by decide +kernel
theorem dL_writes_8 : decode cL_writes 8 = .ok (.iload_n 2, 1) := by decide +kernel
theorem dL_writes_9 : decode cL_writes 9 = .ok (.invokevirtual 73, 3) := by decide +kernel
theorem dL_writes_12 : decode cL_writes 12 = .ok (.istore 7, 2) := by decide +kernel
theorem dL_writes_14 : decode cL_writes 14 = .ok (.iload_n 2, 1) := by decide +kernel
theorem dL_writes_15 : decode cL_writes 15 = .ok (.iconst 4, 1) := by decide +kernel
theorem dL_writes_16 : decode cL_writes 16 = .ok (.idiv, 1) := by decide +kernel
theorem dL_writes_17 : decode cL_writes 17 = .ok (.istore 8, 2) := by decide +kernel
theorem dL_writes_19 : decode cL_writes 19 = .ok (.aload_n 0, 1) := by decide +kernel
theorem dL_writes_20 : decode cL_writes 20 = .ok (.aload 4, 2) := by decide +kernel
theorem dL_writes_22 : decode cL_writes 22 = .ok (.iload 8, 2) := by decide +kernel
theorem dL_writes_24 : decode cL_writes 24 = .ok (.invokestatic 92, 3) := by decide +kernel
theorem dL_writes_27 : decode cL_writes 27 = .ok (.istore 9, 2) := by decide +kernel
theorem dL_writes_29 : decode cL_writes 29 = .ok (.iconst 0, 1) := by decide +kernel
theorem dL_writes_30 : decode cL_writes 30 = .ok (.istore 10, 2) := by decide +kernel
theorem dL_writes_32 : decode cL_writes 32 = .ok (.iconst 0, 1) := by decide +kernel
theorem dL_writes_33 : decode cL_writes 33 = .ok (.istore 11, 2) := by decide +kernel
theorem dL_writes_35 : decode cL_writes 35 = .ok (.iconst 0, 1) := by decide +kernel
theorem dL_writes_36 : decode cL_writes 36 = .ok (.istore 12, 2) := by decide +kernel
theorem dL_writes_38 : decode cL_writes 38 = .ok (.iload 12, 2) := by decide +kernel
theorem dL_writes_40 : decode cL_writes 40 = .ok (.iconst 2, 1) := by decide +kernel
theorem dL_writes_41 : decode cL_writes 41 = .ok (.if_icmp .ge 65, 3) := by decide +kernel
theorem dL_writes_44 : decode cL_writes 44 = .ok (.aload_n 0, 1) := by decide +kernel
theorem dL_writes_45 : decode cL_writes 45 = .ok (.iload 8, 2) := by decide +kernel
theorem dL_writes_47 : decode cL_writes 47 = .ok (.iload 12, 2) := by decide +kernel
theorem dL_writes_49 : decode cL_writes 49 = .ok (.invokevirtual 85, 3) := by decide +kernel
theorem dL_writes_52 : decode cL_writes 52 = .ok (.istore 13, 2) := by decide +kernel
theorem dL_writes_54 : decode cL_writes 54 = .ok (.iload 11, 2) := by decide +kernel
theorem dL_writes_56 : decode cL_writes 56 = .ok (.ifCond .ne 9, 3) := by decide +kernel
theorem dL_writes_59 : decode cL_writes 59 = .ok (.iload 13, 2) := by decide +kernel
theorem dL_writes_61 : decode cL_writes 61 = .ok (.iload_n 1, 1) := by decide +kernel
theorem dL_writes_62 : decode cL_writes 62 = .ok (.if_icmp .ne 7, 3) := by decide +kernel
theorem dL_writes_65 : decode cL_writes 65 = .ok (.iconst 1, 1) := by decide +kernel
theorem dL_writes_66 : decode cL_writes 66 = .ok (.goto 4, 3) := by decide +kernel
theorem dL_writes_69 : decode cL_writes 69 = .ok (.iconst 0, 1) := by decide +kernel
theorem dL_writes_70 : decode cL_writes 70 = .ok (.istore 11, 2) := by decide +kernel
theorem dL_writes_72 : decode cL_writes 72 = .ok (.iload 10, 2) := by decide +kernel
theorem dL_writes_74 : decode cL_writes 74 = .ok (.ifCond .ne 19, 3) := by decide +kernel
theorem dL_writes_77 : decode cL_writes 77 = .ok (.iload 13, 2) := by decide +kernel
theorem dL_writes_79 : decode cL_writes 79 = .ok (.iconst (-1), 1) := by decide +kernel
theorem dL_writes_80 : decode cL_writes 80 = .ok (.if_icmp .eq 13, 3) := by decide +kernel
theorem dL_writes_83 : decode cL_writes 83 = .ok (.aload 4, 2) := by decide +kernel
theorem dL_writes_85 : decode cL_writes 85 = .ok (.iload 13, 2) := by decide +kernel
theorem dL_writes_87 : decode cL_writes 87 = .ok (.invokestatic 79, 3) := by decide +kernel
theorem dL_writes_90 : decode cL_writes 90 = .ok (.ifCond .ne 7, 3) := by decide +kernel
theorem dL_writes_93 : decode cL_writes 93 = .ok (.iconst 1, 1) := by decide +kernel
theorem dL_writes_94 : decode cL_writes 94 = .ok (.goto 4, 3) := by decide +kernel
theorem dL_writes_97 : decode cL_writes 97 = .ok (.iconst 0, 1) := by decide +kernel
theorem dL_writes_98 : decode cL_writes 98 = .ok (.istore 10, 2) := by decide +kernel
theorem dL_writes_100 : decode cL_writes 100 = .ok (.iinc 12 1, 3) := by decide +kernel
theorem dL_writes_103 : decode cL_writes 103 = .ok (.goto (-65), 3) := by decide +kernel
theorem dL_writes_106 : decode cL_writes 106 = .ok (.aload_n 0, 1) := by decide +kernel
theorem dL_writes_107 : decode cL_writes 107 = .ok (.iconst 1, 1) := by decide +kernel
theorem dL_writes_108 : decode cL_writes 108 = .ok (.iload_n 1, 1) := by decide +kernel
theorem dL_writes_109 : decode cL_writes 109 = .ok (.iload_n 2, 1) := by decide +kernel
theorem dL_writes_110 : decode cL_writes 110 = .ok (.iload_n 3, 1) := by decide +kernel
theorem dL_writes_111 : decode cL_writes 111 = .ok (.invokestatic 96, 3) := by decide +kernel
theorem dL_writes_114 : decode cL_writes 114 = .ok (.istore 12, 2) := by decide +kernel
theorem dL_writes_116 : decode cL_writes 116 = .ok (.aload 4, 2) := by decide +kernel
theorem dL_writes_118 : decode cL_writes 118 = .ok (.iload_n 1, 1) := by decide +kernel
theorem dL_writes_119 : decode cL_writes 119 = .ok (.invokestatic 79, 3) := by decide +kernel
theorem dL_writes_122 : decode cL_writes 122 = .ok (.ifCond .eq 29, 3) := by decide +kernel
theorem dL_writes_125 : decode cL_writes 125 = .ok (.iload 6, 2) := by decide +kernel
theorem dL_writes_127 : decode cL_writes 127 = .ok (.iconst (-1), 1) := by decide +kernel
theorem dL_writes_128 : decode cL_writes 128 = .ok (.if_icmp .eq 9, 3) := by decide +kernel
theorem dL_writes_131 : decode cL_writes 131 = .ok (.iload 6, 2) := by decide +kernel
theorem dL_writes_133 : decode cL_writes 133 = .ok (.iload_n 1, 1) := by decide +kernel
theorem dL_writes_134 : decode cL_writes 134 = .ok (.if_icmp .ne 17, 3) := by decide +kernel
theorem dL_writes_137 : decode cL_writes 137 = .ok (.iload 11, 2) := by decide +kernel
theorem dL_writes_139 : decode cL_writes 139 = .ok (.ifCond .ne 8, 3) := by decide +kernel
theorem dL_writes_142 : decode cL_writes 142 = .ok (.iload 10, 2) := by decide +kernel
theorem dL_writes_144 : decode cL_writes 144 = .ok (.ifCond .eq 7, 3) := by decide +kernel
theorem dL_writes_147 : decode cL_writes 147 = .ok (.iconst 1, 1) := by decide +kernel
theorem dL_writes_148 : decode cL_writes 148 = .ok (.goto 4, 3) := by decide +kernel
theorem dL_writes_151 : decode cL_writes 151 = .ok (.iconst 0, 1) := by decide +kernel
theorem dL_writes_152 : decode cL_writes 152 = .ok (.istore 13, 2) := by decide +kernel
theorem dL_writes_154 : decode cL_writes 154 = .ok (.iload 12, 2) := by decide +kernel
theorem dL_writes_156 : decode cL_writes 156 = .ok (.ldc 48, 2) := by decide +kernel
theorem dL_writes_158 : decode cL_writes 158 = .ok (.if_icmp .ne 56, 3) := by decide +kernel
theorem dL_writes_161 : decode cL_writes 161 = .ok (.iload 13, 2) := by decide +kernel
theorem dL_writes_163 : decode cL_writes 163 = .ok (.ifCond .eq 14, 3) := by decide +kernel
theorem dL_writes_166 : decode cL_writes 166 = .ok (.aload 5, 2) := by decide +kernel
theorem dL_writes_168 : decode cL_writes 168 = .ok (.iconst 2, 1) := by decide +kernel
theorem dL_writes_169 : decode cL_writes 169 = .ok (.iaload, 1) := by decide +kernel
theorem dL_writes_170 : decode cL_writes 170 = .ok (.aload 5, 2) := by decide +kernel
theorem dL_writes_172 : decode cL_writes 172 = .ok (.iconst 5, 1) := by decide +kernel
theorem dL_writes_173 : decode cL_writes 173 = .ok (.iaload, 1) := by decide +kernel
theorem dL_writes_174 : decode cL_writes 174 = .ok (.if_icmp .ne 38, 3) := by decide +kernel
theorem dL_writes_177 : decode cL_writes 177 = .ok (.aload_n 0, 1) := by decide +kernel
theorem dL_writes_178 : decode cL_writes 178 = .ok (.iload_n 2, 1) := by decide +kernel
theorem dL_writes_179 : decode cL_writes 179 = .ok (.invokevirtual 73, 3) := by decide +kernel
theorem dL_writes_182 : decode cL_writes 182 = .ok (.iload 7, 2) := by decide +kernel
theorem dL_writes_184 : decode cL_writes 184 = .ok (.if_icmp .ne 28, 3) := by decide +kernel
theorem dL_writes_187 : decode cL_writes 187 = .ok (.aload_n 0, 1) := by decide +kernel
theorem dL_writes_188 : decode cL_writes 188 = .ok (.iload_n 2, 1) := by decide +kernel
theorem dL_writes_189 : decode cL_writes 189 = .ok (.invokevirtual 70, 3) := by decide +kernel
theorem dL_writes_192 : decode cL_writes 192 = .ok (.iload 6, 2) := by decide +kernel
theorem dL_writes_194 : decode cL_writes 194 = .ok (.if_icmp .ne 18, 3) := by decide +kernel
theorem dL_writes_197 : decode cL_writes 197 = .ok (.aload_n 0, 1) := by decide +kernel
theorem dL_writes_198 : decode cL_writes 198 = .ok (.invokevirtual 67, 3) := by decide +kernel
theorem dL_writes_201 : decode cL_writes 201 = .ok (.aload 5, 2) := by decide +kernel
theorem dL_writes_203 : decode cL_writes 203 = .ok (.iconst 4, 1) := by decide +kernel
theorem dL_writes_204 : decode cL_writes 204 = .ok (.iaload, 1) := by decide +kernel
theorem dL_writes_205 : decode cL_writes 205 = .ok (.if_icmp .ne 7, 3) := by decide +kernel
theorem dL_writes_208 : decode cL_writes 208 = .ok (.iconst 1, 1) := by decide +kernel
theorem dL_writes_209 : decode cL_writes 209 = .ok (.goto 4, 3) := by decide +kernel
theorem dL_writes_212 : decode cL_writes 212 = .ok (.iconst 0, 1) := by decide +kernel
theorem dL_writes_213 : decode cL_writes 213 = .ok (.ireturn, 1) := by decide +kernel
theorem dL_writes_214 : decode cL_writes 214 = .ok (.aload 5, 2) := by decide +kernel
theorem dL_writes_216 : decode cL_writes 216 = .ok (.iconst 3, 1) := by decide +kernel
theorem dL_writes_217 : decode cL_writes 217 = .ok (.dup2, 1) := by decide +kernel
theorem dL_writes_218 : decode cL_writes 218 = .ok (.iaload, 1) := by decide +kernel
theorem dL_writes_219 : decode cL_writes 219 = .ok (.aload 5, 2) := by decide +kernel
theorem dL_writes_221 : decode cL_writes 221 = .ok (.iconst 2, 1) := by decide +kernel
theorem dL_writes_222 : decode cL_writes 222 = .ok (.iaload, 1) := by decide +kernel
theorem dL_writes_223 : decode cL_writes 223 = .ok (.aload 5, 2) := by decide +kernel
theorem dL_writes_225 : decode cL_writes 225 = .ok (.iconst 5, 1) := by decide +kernel
theorem dL_writes_226 : decode cL_writes 226 = .ok (.iaload, 1) := by decide +kernel
theorem dL_writes_227 : decode cL_writes 227 = .ok (.if_icmp .ne 7, 3) := by decide +kernel
theorem dL_writes_230 : decode cL_writes 230 = .ok (.iconst 1, 1) := by decide +kernel
theorem dL_writes_231 : decode cL_writes 231 = .ok (.goto 4, 3) := by decide +kernel
theorem dL_writes_234 : decode cL_writes 234 = .ok (.iconst 0, 1) := by decide +kernel
theorem dL_writes_235 : decode cL_writes 235 = .ok (.iadd, 1) := by decide +kernel
theorem dL_writes_236 : decode cL_writes 236 = .ok (.iastore, 1) := by decide +kernel
theorem dL_writes_237 : decode cL_writes 237 = .ok (.aload 5, 2) := by decide +kernel
theorem dL_writes_239 : decode cL_writes 239 = .ok (.iconst 2, 1) := by decide +kernel
theorem dL_writes_240 : decode cL_writes 240 = .ok (.dup2, 1) := by decide +kernel
theorem dL_writes_241 : decode cL_writes 241 = .ok (.iaload, 1) := by decide +kernel
theorem dL_writes_242 : decode cL_writes 242 = .ok (.aload 5, 2) := by decide +kernel
theorem dL_writes_244 : decode cL_writes 244 = .ok (.iconst 2, 1) := by decide +kernel
theorem dL_writes_245 : decode cL_writes 245 = .ok (.iaload, 1) := by decide +kernel
theorem dL_writes_246 : decode cL_writes 246 = .ok (.aload 5, 2) := by decide +kernel
theorem dL_writes_248 : decode cL_writes 248 = .ok (.iconst 5, 1) := by decide +kernel
theorem dL_writes_249 : decode cL_writes 249 = .ok (.iaload, 1) := by decide +kernel
theorem dL_writes_250 : decode cL_writes 250 = .ok (.if_icmp .ne 7, 3) := by decide +kernel
theorem dL_writes_253 : decode cL_writes 253 = .ok (.iconst 0, 1) := by decide +kernel
theorem dL_writes_254 : decode cL_writes 254 = .ok (.goto 4, 3) := by decide +kernel
theorem dL_writes_257 : decode cL_writes 257 = .ok (.iconst 1, 1) := by decide +kernel
theorem dL_writes_258 : decode cL_writes 258 = .ok (.iadd, 1) := by decide +kernel
theorem dL_writes_259 : decode cL_writes 259 = .ok (.iastore, 1) := by decide +kernel
theorem dL_writes_260 : decode cL_writes 260 = .ok (.aload 5, 2) := by decide +kernel
theorem dL_writes_262 : decode cL_writes 262 = .ok (.iconst 4, 1) := by decide +kernel
theorem dL_writes_263 : decode cL_writes 263 = .ok (.dup2, 1) := by decide +kernel
theorem dL_writes_264 : decode cL_writes 264 = .ok (.iaload, 1) := by decide +kernel
theorem dL_writes_265 : decode cL_writes 265 = .ok (.iload 9, 2) := by decide +kernel
theorem dL_writes_267 : decode cL_writes 267 = .ok (.iadd, 1) := by decide +kernel
theorem dL_writes_268 : decode cL_writes 268 = .ok (.iastore, 1) := by decide +kernel
theorem dL_writes_269 : decode cL_writes 269 = .ok (.aload_n 0, 1) := by decide +kernel
theorem dL_writes_270 : decode cL_writes 270 = .ok (.iload 8, 2) := by decide +kernel
theorem dL_writes_272 : decode cL_writes 272 = .ok (.iconst 0, 1) := by decide +kernel
theorem dL_writes_273 : decode cL_writes 273 = .ok (.invokevirtual 85, 3) := by decide +kernel
theorem dL_writes_276 : decode cL_writes 276 = .ok (.iload_n 1, 1) := by decide +kernel
theorem dL_writes_277 : decode cL_writes 277 = .ok (.if_icmp .ne 7, 3) := by decide +kernel
theorem dL_writes_280 : decode cL_writes 280 = .ok (.iconst 0, 1) := by decide +kernel
theorem dL_writes_281 : decode cL_writes 281 = .ok (.goto 4, 3) := by decide +kernel
theorem dL_writes_284 : decode cL_writes 284 = .ok (.iconst 1, 1) := by decide +kernel
theorem dL_writes_285 : decode cL_writes 285 = .ok (.istore 14, 2) := by decide +kernel
theorem dL_writes_287 : decode cL_writes 287 = .ok (.iload 13, 2) := by decide +kernel
theorem dL_writes_289 : decode cL_writes 289 = .ok (.ifCond .eq 77, 3) := by decide +kernel
theorem dL_writes_292 : decode cL_writes 292 = .ok (.iload 12, 2) := by decide +kernel
theorem dL_writes_294 : decode cL_writes 294 = .ok (.iload 7, 2) := by decide +kernel
theorem dL_writes_296 : decode cL_writes 296 = .ok (.if_icmp .ne 70, 3) := by decide +kernel
theorem dL_writes_299 : decode cL_writes 299 = .ok (.aload_n 0, 1) := by decide +kernel
theorem dL_writes_300 : decode cL_writes 300 = .ok (.iload_n 2, 1) := by decide +kernel
theorem dL_writes_301 : decode cL_writes 301 = .ok (.invokevirtual 73, 3) := by decide +kernel
theorem dL_writes_304 : decode cL_writes 304 = .ok (.iload_n 3, 1) := by decide +kernel
theorem dL_writes_305 : decode cL_writes 305 = .ok (.if_icmp .ne 61, 3) := by decide +kernel
theorem dL_writes_308 : decode cL_writes 308 = .ok (.aload_n 0, 1) := by decide +kernel
theorem dL_writes_309 : decode cL_writes 309 = .ok (.iload_n 2, 1) := by decide +kernel
theorem dL_writes_310 : decode cL_writes 310 = .ok (.invokevirtual 70, 3) := by decide +kernel
theorem dL_writes_313 : decode cL_writes 313 = .ok (.iload_n 1, 1) := by decide +kernel
theorem dL_writes_314 : decode cL_writes 314 = .ok (.if_icmp .ne 52, 3) := by decide +kernel
theorem dL_writes_317 : decode cL_writes 317 = .ok (.aload_n 0, 1) := by decide +kernel
theorem dL_writes_318 : decode cL_writes 318 = .ok (.iload 8, 2) := by decide +kernel
theorem dL_writes_320 : decode cL_writes 320 = .ok (.iload 14, 2) := by decide +kernel
theorem dL_writes_322 : decode cL_writes 322 = .ok (.invokevirtual 85, 3) := by decide +kernel
theorem dL_writes_325 : decode cL_writes 325 = .ok (.iload_n 1, 1) := by decide +kernel
theorem dL_writes_326 : decode cL_writes 326 = .ok (.if_icmp .ne 40, 3) := by decide +kernel
theorem dL_writes_329 : decode cL_writes 329 = .ok (.aload_n 0, 1) := by decide +kernel
theorem dL_writes_330 : decode cL_writes 330 = .ok (.iload 8, 2) := by decide +kernel
theorem dL_writes_332 : decode cL_writes 332 = .ok (.iload 14, 2) := by decide +kernel
theorem dL_writes_334 : decode cL_writes 334 = .ok (.invokevirtual 88, 3) := by decide +kernel
theorem dL_writes_337 : decode cL_writes 337 = .ok (.ifCond .ne 29, 3) := by decide +kernel
theorem dL_writes_340 : decode cL_writes 340 = .ok (.aload_n 0, 1) := by decide +kernel
theorem dL_writes_341 : decode cL_writes 341 = .ok (.aload 4, 2) := by decide +kernel
theorem dL_writes_343 : decode cL_writes 343 = .ok (.iload 8, 2) := by decide +kernel
theorem dL_writes_345 : decode cL_writes 345 = .ok (.invokestatic 100, 3) := by decide +kernel
theorem dL_writes_348 : decode cL_writes 348 = .ok (.ifCond .eq 18, 3) := by decide +kernel
theorem dL_writes_351 : decode cL_writes 351 = .ok (.aload_n 0, 1) := by decide +kernel
theorem dL_writes_352 : decode cL_writes 352 = .ok (.invokevirtual 67, 3) := by decide +kernel
theorem dL_writes_355 : decode cL_writes 355 = .ok (.aload 5, 2) := by decide +kernel
theorem dL_writes_357 : decode cL_writes 357 = .ok (.iconst 4, 1) := by decide +kernel
theorem dL_writes_358 : decode cL_writes 358 = .ok (.iaload, 1) := by decide +kernel
theorem dL_writes_359 : decode cL_writes 359 = .ok (.if_icmp .ne 7, 3) := by decide +kernel
theorem dL_writes_362 : decode cL_writes 362 = .ok (.iconst 1, 1) := by decide +kernel
theorem dL_writes_363 : decode cL_writes 363 = .ok (.goto 4, 3) := by decide +kernel
theorem dL_writes_366 : decode cL_writes 366 = .ok (.iconst 0, 1) := by decide +kernel
theorem dL_writes_367 : decode cL_writes 367 = .ok (.ireturn, 1) := by decide +kernel
