/-! printed: decode rows and words of the law's methods -/
set_option maxRecDepth 20000 in
theorem ggL_isCellar_X5_moment : GoodIn wsL_isCellar wsX5_moment := goodIn_r _ [5, 6, 124, 125, 126, 127, 128, 129, 130, 131] (by decide +kernel) (by decide +kernel)
set_option maxRecDepth 20000 in
theorem gL_isCellar_X5_moment : GoodIn wsL_isCellar (wsV RL 55 RX5 yX5_moment wsX5_moment) := goodIn_app (goodIn_of _ (by decide +kernel)) ggL_isCellar_X5_moment
set_option maxRecDepth 20000 in
theorem ggL_isCellar_X5_transactions : GoodIn wsL_isCellar wsX5_transactions := goodIn_r _ [10, 11, 12, 13, 14, 15, 16, 17, 124, 125, 126, 127, 128, 129, 130, 131, 132, 133, 134] (by decide +kernel) (by decide +kernel)
set_option maxRecDepth 20000 in
theorem gL_isCellar_X5_transactions : GoodIn wsL_isCellar (wsV RL 58 RX5 yX5_transactions wsX5_transactions) := goodIn_app (goodIn_of _ (by decide +kernel)) ggL_isCellar_X5_transactions
set_option maxRecDepth 20000 in
theorem ggL_isCellar_X5_records : GoodIn wsL_isCellar wsX5_records := goodIn_r _ [21, 22, 23, 24, 4, 25, 26, 27, 12, 13, 14, 15, 16, 17, 124, 125, 126, 127, 128, 129, 130, 131, 132, 133, 134] (by decide +kernel) (by decide +kernel)
set_option maxRecDepth 20000 in
theorem gL_isCellar_X5_records : GoodIn wsL_isCellar (wsV RL 61 RX5 yX5_records wsX5_records) := goodIn_app (goodIn_of _ (by decide +kernel)) ggL_isCellar_X5_records
set_option maxRecDepth 20000 in
theorem ggL_isCellar_X5_dropped : GoodIn wsL_isCellar wsX5_dropped := goodIn_r _ [31, 27, 124, 125, 126, 127, 128, 129, 130, 131] (by decide +kernel) (by decide +kernel)
set_option maxRecDepth 20000 in
theorem gL_isCellar_X5_dropped : GoodIn wsL_isCellar (wsV RL 64 RX5 yX5_dropped wsX5_dropped) := goodIn_app (goodIn_of _ (by decide +kernel)) ggL_isCellar_X5_dropped
set_option maxRecDepth 20000 in
theorem ggL_isCellar_X5_marked : GoodIn wsL_isCellar wsX5_marked := goodIn_r _ [35, 36, 124, 125, 126, 127, 128, 129, 130, 131] (by decide +kernel) (by decide +kernel)
set_option maxRecDepth 20000 in
theorem gL_isCellar_X5_marked : GoodIn wsL_isCellar (wsV RL 67 RX5 yX5_marked wsX5_marked) := goodIn_app (goodIn_of _ (by decide +kernel)) ggL_isCellar_X5_marked
set_option maxRecDepth 20000 in
theorem ggL_isCellar_X5_lockOf : GoodIn wsL_isCellar wsX5_lockOf := goodIn_ca (goodIn_r _ [40, 41, 42, 43, 4, 44, 45, 46, 47, 48, 49, 50, 51, 26, 52, 12, 13, 14, 15, 16, 17, 53, 54, 55, 56, 57, 58, 59, 60, 61, 62, 63, 64, 65, 66, 67, 68, 69, 70, 71, 72, 73, 74, 75, 135, 136, 137, 138, 139, 124, 125, 126, 127, 128, 129, 130, 131, 140, 141, 142, 143, 132, 133, 134] (by decide +kernel) (by decide +kernel)) (goodIn_sub (fun _ h => List.mem_cons_of_mem _ (List.mem_append_left _ (List.mem_append_right _ h))) (by decide +kernel))
set_option maxRecDepth 20000 in
theorem gL_isCellar_X5_lockOf : GoodIn wsL_isCellar (wsV RL 70 RX5 yX5_lockOf wsX5_lockOf) := goodIn_app (goodIn_of _ (by decide +kernel)) ggL_isCellar_X5_lockOf
set_option maxRecDepth 20000 in
theorem ggL_isCellar_X5_now : GoodIn wsL_isCellar wsX5_now := goodIn_ca (goodIn_r _ [79, 41, 42, 43, 4, 44, 45, 46, 47, 144, 145, 124, 125, 126, 127, 128, 129, 130, 131] (by decide +kernel) (by decide +kernel)) (goodIn_sub (fun _ h => List.mem_cons_of_mem _ (List.mem_append_left _ (List.mem_append_right _ h))) (by decide +kernel))
set_option maxRecDepth 20000 in
theorem gL_isCellar_X5_now : GoodIn wsL_isCellar (wsV RL 73 RX5 yX5_now wsX5_now) := goodIn_app (goodIn_of _ (by decide +kernel)) ggL_isCellar_X5_now
set_option maxRecDepth 20000 in
theorem ggL_isCellar_X5_versionAt : GoodIn wsL_isCellar wsX5_versionAt := goodIn_ca (goodIn_ca (goodIn_r _ [83, 41, 42, 43, 4, 44, 45, 46, 47, 84, 85, 86, 87, 88, 89, 6, 90, 91, 92, 93, 26, 52, 12, 13, 14, 15, 16, 17, 53, 54, 55, 56, 57, 58, 59, 60, 61, 62, 63, 64, 65, 66, 67, 68, 69, 70, 71, 72, 73, 74, 75, 94, 95, 96, 97, 98, 99, 100, 101, 102, 103, 104, 105, 106, 124, 125, 126, 127, 128, 129, 130, 131, 132, 133, 134, 140, 141, 142, 143, 135, 136, 137, 138, 139, 144, 145] (by decide +kernel) (by decide +kernel)) (goodIn_sub (fun _ h => List.mem_cons_of_mem _ (List.mem_append_left _ (List.mem_append_right _ h))) (by decide +kernel))) (goodIn_sub (fun _ h => List.mem_cons_of_mem _ (List.mem_append_right _ h)) (by decide +kernel))
set_option maxRecDepth 20000 in
theorem gL_isCellar_X5_versionAt : GoodIn wsL_isCellar (wsV RL 76 RX5 yX5_versionAt wsX5_versionAt) := goodIn_app (goodIn_of _ (by decide +kernel)) ggL_isCellar_X5_versionAt
set_option maxRecDepth 20000 in
theorem ggL_isCellar_L_isActive : GoodIn wsL_isCellar wsL_isActive := goodIn_r _ [110] (by decide +kernel) (by decide +kernel)
set_option maxRecDepth 20000 in
theorem gL_isCellar_L_isActive : GoodIn wsL_isCellar (va_wsS RL 79 yL_isActive wsL_isActive) := goodIn_app (goodIn_of _ (by decide +kernel)) ggL_isCellar_L_isActive
set_option maxRecDepth 20000 in
theorem ggL_isCellar_X5_slotOf : GoodIn wsL_isCellar wsX5_slotOf := goodIn_ca (goodIn_r _ [114, 115, 116, 117, 4, 118, 45, 46, 119, 146, 147, 135, 136, 137, 138, 139, 124, 125, 126, 127, 128, 129, 130, 131, 148] (by decide +kernel) (by decide +kernel)) (goodIn_sub (fun _ h => List.mem_cons_of_mem _ (List.mem_append_left _ (List.mem_append_right _ h))) (by decide +kernel))
set_option maxRecDepth 20000 in
theorem gL_isCellar_X5_slotOf : GoodIn wsL_isCellar (wsV RL 85 RX5 yX5_slotOf wsX5_slotOf) := goodIn_app (goodIn_of _ (by decide +kernel)) ggL_isCellar_X5_slotOf
set_option maxRecDepth 20000 in
theorem ggL_isCellar_X5_isMarked : GoodIn wsL_isCellar wsX5_isMarked := goodIn_ca (goodIn_r _ [123, 115, 116, 117, 4, 118, 45, 46, 119, 146, 147, 124, 125, 126, 127, 128, 129, 130, 131, 148] (by decide +kernel) (by decide +kernel)) (goodIn_sub (fun _ h => List.mem_cons_of_mem _ (List.mem_append_left _ (List.mem_append_right _ h))) (by decide +kernel))
set_option maxRecDepth 20000 in
theorem gL_isCellar_X5_isMarked : GoodIn wsL_isCellar (wsV RL 88 RX5 yX5_isMarked wsX5_isMarked) := goodIn_app (goodIn_of _ (by decide +kernel)) ggL_isCellar_X5_isMarked
theorem dL_isCellar_0 : decode cL_isCellar 0 = .ok (.aload_n 0, 1) := by decide +kernel
theorem dL_isCellar_1 : decode cL_isCellar 1 = .ok (.invokevirtual 55, 3) := by decide +kernel
theorem dL_isCellar_4 : decode cL_isCellar 4 = .ok (.aload_n 2, 1) := by decide +kernel
theorem dL_isCellar_5 : decode cL_isCellar 5 = .ok (.iconst 0, 1) := by decide +kernel
theorem dL_isCellar_6 : decode cL_isCellar 6 = .ok (.iaload, 1) := by decide +kernel
theorem dL_isCellar_7 : decode cL_isCellar 7 = .ok (.if_icmp .ne 56, 3) := by decide +kernel
theorem dL_isCellar_10 : decode cL_isCellar 10 = .ok (.aload_n 0, 1) := by decide +kernel
theorem dL_isCellar_11 : decode cL_isCellar 11 = .ok (.invokevirtual 58, 3) := by decide +kernel
theorem dL_isCellar_14 : decode cL_isCellar 14 = .ok (.aload_n 2, 1) := by decide +kernel
theorem dL_isCellar_15 : decode cL_isCellar 15 = .ok (.iconst 1, 1) := by decide +kernel
theorem dL_isCellar_16 : decode cL_isCellar 16 = .ok (.iaload, 1) := by decide +kernel
theorem dL_isCellar_17 : decode cL_isCellar 17 = .ok (.if_icmp .ne 46, 3) := by decide +kernel
theorem dL_isCellar_20 : decode cL_isCellar 20 = .ok (.aload_n 0, 1) := by decide +kernel
theorem dL_isCellar_21 : decode cL_isCellar 21 = .ok (.invokevirtual 61, 3) := by decide +kernel
theorem dL_isCellar_24 : decode cL_isCellar 24 = .ok (.aload_n 2, 1) := by decide +kernel
theorem dL_isCellar_25 : decode cL_isCellar 25 = .ok (.iconst 2, 1) := by decide +kernel
theorem dL_isCellar_26 : decode cL_isCellar 26 = .ok (.iaload, 1) := by decide +kernel
theorem dL_isCellar_27 : decode cL_isCellar 27 = .ok (.if_icmp .ne 36, 3) := by decide +kernel
theorem dL_isCellar_30 : decode cL_isCellar 30 = .ok (.aload_n 0, 1) := by decide +kernel
theorem dL_isCellar_31 : decode cL_isCellar 31 = .ok (.invokevirtual 64, 3) := by decide +kernel
theorem dL_isCellar_34 : decode cL_isCellar 34 = .ok (.aload_n 2, 1) := by decide +kernel
theorem dL_isCellar_35 : decode cL_isCellar 35 = .ok (.iconst 3, 1) := by decide +kernel
theorem dL_isCellar_36 : decode cL_isCellar 36 = .ok (.iaload, 1) := by decide +kernel
theorem dL_isCellar_37 : decode cL_isCellar 37 = .ok (.if_icmp .ne 26, 3) := by decide +kernel
theorem dL_isCellar_40 : decode cL_isCellar 40 = .ok (.aload_n 0, 1) := by decide +kernel
theorem dL_isCellar_41 : decode cL_isCellar 41 = .ok (.invokevirtual 67, 3) := by decide +kernel
theorem dL_isCellar_44 : decode cL_isCellar 44 = .ok (.aload_n 2, 1) := by decide +kernel
theorem dL_isCellar_45 : decode cL_isCellar 45 = .ok (.iconst 4, 1) := by decide +kernel
theorem dL_isCellar_46 : decode cL_isCellar 46 = .ok (.iaload, 1) := by decide +kernel
theorem dL_isCellar_47 : decode cL_isCellar 47 = .ok (.if_icmp .ne 16, 3) := by decide +kernel
theorem dL_isCellar_50 : decode cL_isCellar 50 = .ok (.aload_n 2, 1) := by decide +kernel
theorem dL_isCellar_51 : decode cL_isCellar 51 = .ok (.iconst 2, 1) := by decide +kernel
theorem dL_isCellar_52 : decode cL_isCellar 52 = .ok (.iaload, 1) := by decide +kernel
theorem dL_isCellar_53 : decode cL_isCellar 53 = .ok (.aload_n 2, 1) := by decide +kernel
theorem dL_isCellar_54 : decode cL_isCellar 54 = .ok (.iconst 5, 1) := by decide +kernel
theorem dL_isCellar_55 : decode cL_isCellar 55 = .ok (.iaload, 1) := by decide +kernel
theorem dL_isCellar_56 : decode cL_isCellar 56 = .ok (.if_icmp .gt 7, 3) := by decide +kernel
theorem dL_isCellar_59 : decode cL_isCellar 59 = .ok (.iconst 1, 1) := by decide +kernel
theorem dL_isCellar_60 : decode cL_isCellar 60 = .ok (.goto 4, 3) := by decide +kernel
theorem dL_isCellar_63 : decode cL_isCellar 63 = .ok (.iconst 0, 1) := by decide +kernel
theorem dL_isCellar_64 : decode cL_isCellar 64 = .ok (.istore 5, 2) := by decide +kernel
theorem dL_isCellar_66 : decode cL_isCellar 66 = .ok (.iconst 0, 1) := by decide +kernel
theorem dL_isCellar_67 : decode cL_isCellar 67 = .ok (.istore 6, 2) := by decide +kernel
theorem dL_isCellar_69 : decode cL_isCellar 69 = .ok (.iload 6, 2) := by decide +kernel
theorem dL_isCellar_71 : decode cL_isCellar 71 = .ok (.bipush 12, 2) := by decide +kernel
theorem dL_isCellar_73 : decode cL_isCellar 73 = .ok (.if_icmp .ge 98, 3) := by decide +kernel
theorem dL_isCellar_76 : decode cL_isCellar 76 = .ok (.iload 5, 2) := by decide +kernel
theorem dL_isCellar_78 : decode cL_isCellar 78 = .ok (.ifCond .eq 93, 3) := by decide +kernel
theorem dL_isCellar_81 : decode cL_isCellar 81 = .ok (.aload_n 0, 1) := by decide +kernel
theorem dL_isCellar_82 : decode cL_isCellar 82 = .ok (.iload 6, 2) := by decide +kernel
theorem dL_isCellar_84 : decode cL_isCellar 84 = .ok (.invokevirtual 70, 3) := by decide +kernel
theorem dL_isCellar_87 : decode cL_isCellar 87 = .ok (.istore 7, 2) := by decide +kernel
theorem dL_isCellar_89 : decode cL_isCellar 89 = .ok (.iload 7, 2) := by decide +kernel
theorem dL_isCellar_91 : decode cL_isCellar 91 = .ok (.iconst (-1), 1) := by decide +kernel
theorem dL_isCellar_92 : decode cL_isCellar 92 = .ok (.if_icmp .ne 29, 3) := by decide +kernel
theorem dL_isCellar_95 : decode cL_isCellar 95 = .ok (.aload_n 0, 1) := by decide +kernel
theorem dL_isCellar_96 : decode cL_isCellar 96 = .ok (.iload 6, 2) := by decide +kernel
theorem dL_isCellar_98 : decode cL_isCellar 98 = .ok (.invokevirtual 73, 3) := by decide +kernel
theorem dL_isCellar_101 : decode cL_isCellar 101 = .ok (.aload_n 0, 1) := by decide +kernel
theorem dL_isCellar_102 : decode cL_isCellar 102 = .ok (.aload_n 2, 1) := by decide +kernel
theorem dL_isCellar_103 : decode cL_isCellar 103 = .ok (.iconst 0, 1) := by decide +kernel
theorem dL_isCellar_104 : decode cL_isCellar 104 = .ok (.iaload, 1) := by decide +kernel
theorem dL_isCellar_105 : decode cL_isCellar 105 = .ok (.iload 6, 2) := by decide +kernel
theorem dL_isCellar_107 : decode cL_isCellar 107 = .ok (.invokevirtual 76, 3) := by decide +kernel
theorem dL_isCellar_110 : decode cL_isCellar 110 = .ok (.if_icmp .ne 7, 3) := by decide +kernel
theorem dL_isCellar_113 : decode cL_isCellar 113 = .ok (.iconst 1, 1) := by decide +kernel
theorem dL_isCellar_114 : decode cL_isCellar 114 = .ok (.goto 49, 3) := by decide +kernel
theorem dL_isCellar_117 : decode cL_isCellar 117 = .ok (.iconst 0, 1) := by decide +kernel
theorem dL_isCellar_118 : decode cL_isCellar 118 = .ok (.goto 45, 3) := by decide +kernel
theorem dL_isCellar_121 : decode cL_isCellar 121 = .ok (.aload_n 1, 1) := by decide +kernel
theorem dL_isCellar_122 : decode cL_isCellar 122 = .ok (.iload 7, 2) := by decide +kernel
theorem dL_isCellar_124 : decode cL_isCellar 124 = .ok (.invokestatic 79, 3) := by decide +kernel
theorem dL_isCellar_127 : decode cL_isCellar 127 = .ok (.ifCond .eq 35, 3) := by decide +kernel
theorem dL_isCellar_130 : decode cL_isCellar 130 = .ok (.aload_n 0, 1) := by decide +kernel
theorem dL_isCellar_131 : decode cL_isCellar 131 = .ok (.iload 6, 2) := by decide +kernel
theorem dL_isCellar_133 : decode cL_isCellar 133 = .ok (.iconst 4, 1) := by decide +kernel
theorem dL_isCellar_134 : decode cL_isCellar 134 = .ok (.idiv, 1) := by decide +kernel
theorem dL_isCellar_135 : decode cL_isCellar 135 = .ok (.iconst 0, 1) := by decide +kernel
theorem dL_isCellar_136 : decode cL_isCellar 136 = .ok (.invokevirtual 85, 3) := by decide +kernel
theorem dL_isCellar_139 : decode cL_isCellar 139 = .ok (.iload 7, 2) := by decide +kernel
theorem dL_isCellar_141 : decode cL_isCellar 141 = .ok (.if_icmp .eq 17, 3) := by decide +kernel
theorem dL_isCellar_144 : decode cL_isCellar 144 = .ok (.aload_n 0, 1) := by decide +kernel
theorem dL_isCellar_145 : decode cL_isCellar 145 = .ok (.iload 6, 2) := by decide +kernel
theorem dL_isCellar_147 : decode cL_isCellar 147 = .ok (.iconst 4, 1) := by decide +kernel
theorem dL_isCellar_148 : decode cL_isCellar 148 = .ok (.idiv, 1) := by decide +kernel
theorem dL_isCellar_149 : decode cL_isCellar 149 = .ok (.iconst 1, 1) := by decide +kernel
theorem dL_isCellar_150 : decode cL_isCellar 150 = .ok (.invokevirtual 85, 3) := by decide +kernel
theorem dL_isCellar_153 : decode cL_isCellar 153 = .ok (.iload 7, 2) := by decide +kernel
theorem dL_isCellar_155 : decode cL_isCellar 155 = .ok (.if_icmp .ne 7, 3) := by decide +kernel
theorem dL_isCellar_158 : decode cL_isCellar 158 = .ok (.iconst 1, 1) := by decide +kernel
theorem dL_isCellar_159 : decode cL_isCellar 159 = .ok (.goto 4, 3) := by decide +kernel
theorem dL_isCellar_162 : decode cL_isCellar 162 = .ok (.iconst 0, 1) := by decide +kernel
theorem dL_isCellar_163 : decode cL_isCellar 163 = .ok (.istore 5, 2) := by decide +kernel
theorem dL_isCellar_165 : decode cL_isCellar 165 = .ok (.iinc 6 1, 3) := by decide +kernel
theorem dL_isCellar_168 : decode cL_isCellar 168 = .ok (.goto (-99), 3) := by decide +kernel
theorem dL_isCellar_171 : decode cL_isCellar 171 = .ok (.iconst 0, 1) := by decide +kernel
theorem dL_isCellar_172 : decode cL_isCellar 172 = .ok (.istore 6, 2) := by decide +kernel
theorem dL_isCellar_174 : decode cL_isCellar 174 = .ok (.iload 6, 2) := by decide +kernel
theorem dL_isCellar_176 : decode cL_isCellar 176 = .ok (.bipush 6, 2) := by decide +kernel
theorem dL_isCellar_178 : decode cL_isCellar 178 = .ok (.if_icmp .ge 107, 3) := by decide +kernel
theorem dL_isCellar_181 : decode cL_isCellar 181 = .ok (.iload 5, 2) := by decide +kernel
theorem dL_isCellar_183 : decode cL_isCellar 183 = .ok (.ifCond .eq 102, 3) := by decide +kernel
theorem dL_isCellar_186 : decode cL_isCellar 186 = .ok (.aload_n 0, 1) := by decide +kernel
theorem dL_isCellar_187 : decode cL_isCellar 187 = .ok (.iload 6, 2) := by decide +kernel
theorem dL_isCellar_189 : decode cL_isCellar 189 = .ok (.iconst 2, 1) := by decide +kernel
theorem dL_isCellar_190 : decode cL_isCellar 190 = .ok (.idiv, 1) := by decide +kernel
theorem dL_isCellar_191 : decode cL_isCellar 191 = .ok (.iload 6, 2) := by decide +kernel
theorem dL_isCellar_193 : decode cL_isCellar 193 = .ok (.iconst 2, 1) := by decide +kernel
theorem dL_isCellar_194 : decode cL_isCellar 194 = .ok (.irem, 1) := by decide +kernel
theorem dL_isCellar_195 : decode cL_isCellar 195 = .ok (.invokevirtual 85, 3) := by decide +kernel
theorem dL_isCellar_198 : decode cL_isCellar 198 = .ok (.istore 7, 2) := by decide +kernel
theorem dL_isCellar_200 : decode cL_isCellar 200 = .ok (.aload_n 0, 1) := by decide +kernel
theorem dL_isCellar_201 : decode cL_isCellar 201 = .ok (.iload 6, 2) := by decide +kernel
theorem dL_isCellar_203 : decode cL_isCellar 203 = .ok (.iconst 2, 1) := by decide +kernel
theorem dL_isCellar_204 : decode cL_isCellar 204 = .ok (.idiv, 1) := by decide +kernel
theorem dL_isCellar_205 : decode cL_isCellar 205 = .ok (.iload 6, 2) := by decide +kernel
theorem dL_isCellar_207 : decode cL_isCellar 207 = .ok (.iconst 2, 1) := by decide +kernel
theorem dL_isCellar_208 : decode cL_isCellar 208 = .ok (.irem, 1) := by decide +kernel
theorem dL_isCellar_209 : decode cL_isCellar 209 = .ok (.invokevirtual 88, 3) := by decide +kernel
theorem dL_isCellar_212 : decode cL_isCellar 212 = .ok (.istore 8, 2) := by decide +kernel
theorem dL_isCellar_214 : decode cL_isCellar 214 = .ok (.iload 7, 2) := by decide +kernel
theorem dL_isCellar_216 : decode cL_isCellar 216 = .ok (.iconst (-1), 1) := by decide +kernel
theorem dL_isCellar_217 : decode cL_isCellar 217 = .ok (.if_icmp .lt 59, 3) := by decide +kernel
theorem dL_isCellar_220 : decode cL_isCellar 220 = .ok (.iload 7, 2) := by decide +kernel
theorem dL_isCellar_222 : decode cL_isCellar 222 = .ok (.aload_n 2, 1) := by decide +kernel
theorem dL_isCellar_223 : decode cL_isCellar 223 = .ok (.iconst 1, 1) := by decide +kernel
theorem dL_isCellar_224 : decode cL_isCellar 224 = .ok (.iaload, 1) := by decide +kernel
theorem dL_isCellar_225 : decode cL_isCellar 225 = .ok (.if_icmp .ge 51, 3) := by decide +kernel
theorem dL_isCellar_228 : decode cL_isCellar 228 = .ok (.iload 8, 2) := by decide +kernel
theorem dL_isCellar_230 : decode cL_isCellar 230 = .ok (.ifCond .eq 17, 3) := by decide +kernel
theorem dL_isCellar_233 : decode cL_isCellar 233 = .ok (.iload 7, 2) := by decide +kernel
theorem dL_isCellar_235 : decode cL_isCellar 235 = .ok (.ifCond .lt 41, 3) := by decide +kernel
theorem dL_isCellar_238 : decode cL_isCellar 238 = .ok (.aload_n 1, 1) := by decide +kernel
theorem dL_isCellar_239 : decode cL_isCellar 239 = .ok (.iload 7, 2) := by decide +kernel
theorem dL_isCellar_241 : decode cL_isCellar 241 = .ok (.invokestatic 79, 3) := by decide +kernel
theorem dL_isCellar_244 : decode cL_isCellar 244 = .ok (.ifCond .ne 32, 3) := by decide +kernel
theorem dL_isCellar_247 : decode cL_isCellar 247 = .ok (.iload 7, 2) := by decide +kernel
theorem dL_isCellar_249 : decode cL_isCellar 249 = .ok (.iconst (-1), 1) := by decide +kernel
theorem dL_isCellar_250 : decode cL_isCellar 250 = .ok (.if_icmp .eq 22, 3) := by decide +kernel
theorem dL_isCellar_253 : decode cL_isCellar 253 = .ok (.iload 7, 2) := by decide +kernel
theorem dL_isCellar_255 : decode cL_isCellar 255 = .ok (.aload_n 0, 1) := by decide +kernel
theorem dL_isCellar_256 : decode cL_isCellar 256 = .ok (.iload 6, 2) := by decide +kernel
theorem dL_isCellar_258 : decode cL_isCellar 258 = .ok (.iconst 2, 1) := by decide +kernel
theorem dL_isCellar_259 : decode cL_isCellar 259 = .ok (.idiv, 1) := by decide +kernel
theorem dL_isCellar_260 : decode cL_isCellar 260 = .ok (.iconst 1, 1) := by decide +kernel
theorem dL_isCellar_261 : decode cL_isCellar 261 = .ok (.iload 6, 2) := by decide +kernel
theorem dL_isCellar_263 : decode cL_isCellar 263 = .ok (.iconst 2, 1) := by decide +kernel
theorem dL_isCellar_264 : decode cL_isCellar 264 = .ok (.irem, 1) := by decide +kernel
theorem dL_isCellar_265 : decode cL_isCellar 265 = .ok (.isub, 1) := by decide +kernel
theorem dL_isCellar_266 : decode cL_isCellar 266 = .ok (.invokevirtual 85, 3) := by decide +kernel
theorem dL_isCellar_269 : decode cL_isCellar 269 = .ok (.if_icmp .eq 7, 3) := by decide +kernel
theorem dL_isCellar_272 : decode cL_isCellar 272 = .ok (.iconst 1, 1) := by decide +kernel
theorem dL_isCellar_273 : decode cL_isCellar 273 = .ok (.goto 4, 3) := by decide +kernel
theorem dL_isCellar_276 : decode cL_isCellar 276 = .ok (.iconst 0, 1) := by decide +kernel
theorem dL_isCellar_277 : decode cL_isCellar 277 = .ok (.istore 5, 2) := by decide +kernel
theorem dL_isCellar_279 : decode cL_isCellar 279 = .ok (.iinc 6 1, 3) := by decide +kernel
theorem dL_isCellar_282 : decode cL_isCellar 282 = .ok (.goto (-108), 3) := by decide +kernel
theorem dL_isCellar_285 : decode cL_isCellar 285 = .ok (.iconst 0, 1) := by decide +kernel
theorem dL_isCellar_286 : decode cL_isCellar 286 = .ok (.istore 6, 2) := by decide +kernel
theorem dL_isCellar_288 : decode cL_isCellar 288 = .ok (.iload 6, 2) := by decide +kernel
theorem dL_isCellar_290 : decode cL_isCellar 290 = .ok (.aload_n 2, 1) := by decide +kernel
theorem dL_isCellar_291 : decode cL_isCellar 291 = .ok (.iconst 0, 1) := by decide +kernel
theorem dL_isCellar_292 : decode cL_isCellar 292 = .ok (.iaload, 1) := by decide +kernel
theorem dL_isCellar_293 : decode cL_isCellar 293 = .ok (.if_icmp .gt 36, 3) := by decide +kernel
theorem dL_isCellar_296 : decode cL_isCellar 296 = .ok (.iload 5, 2) := by decide +kernel
theorem dL_isCellar_298 : decode cL_isCellar 298 = .ok (.ifCond .eq 31, 3) := by decide +kernel
theorem dL_isCellar_301 : decode cL_isCellar 301 = .ok (.aload_n 0, 1) := by decide +kernel
theorem dL_isCellar_302 : decode cL_isCellar 302 = .ok (.iload 6, 2) := by decide +kernel
theorem dL_isCellar_304 : decode cL_isCellar 304 = .ok (.iload 4, 2) := by decide +kernel
theorem dL_isCellar_306 : decode cL_isCellar 306 = .ok (.invokevirtual 76, 3) := by decide +kernel
theorem dL_isCellar_309 : decode cL_isCellar 309 = .ok (.aload_n 3, 1) := by decide +kernel
theorem dL_isCellar_310 : decode cL_isCellar 310 = .ok (.iload 6, 2) := by decide +kernel
theorem dL_isCellar_312 : decode cL_isCellar 312 = .ok (.iaload, 1) := by decide +kernel
theorem dL_isCellar_313 : decode cL_isCellar 313 = .ok (.if_icmp .ne 7, 3) := by decide +kernel
theorem dL_isCellar_316 : decode cL_isCellar 316 = .ok (.iconst 1, 1) := by decide +kernel
theorem dL_isCellar_317 : decode cL_isCellar 317 = .ok (.goto 4, 3) := by decide +kernel
theorem dL_isCellar_320 : decode cL_isCellar 320 = .ok (.iconst 0, 1) := by decide +kernel
theorem dL_isCellar_321 : decode cL_isCellar 321 = .ok (.istore 5, 2) := by decide +kernel
theorem dL_isCellar_323 : decode cL_isCellar 323 = .ok (.iinc 6 1, 3) := by decide +kernel
theorem dL_isCellar_326 : decode cL_isCellar 326 = .ok (.goto (-38), 3) := by decide +kernel
theorem dL_isCellar_329 : decode cL_isCellar 329 = .ok (.iload 5, 2) := by decide +kernel
theorem dL_isCellar_331 : decode cL_isCellar 331 = .ok (.ireturn, 1) := by decide +kernel
set_option maxRecDepth 20000 in
theorem ggL_dirty_X5_slotOf : GoodIn wsL_dirty wsX5_slotOf := goodIn_ca (goodIn_r _ [5, 6, 7, 8, 4, 9, 10, 11, 12, 21, 22, 23, 24, 25, 26, 27, 28, 29, 30, 31, 32, 33, 34, 35, 36] (by decide +kernel) (by decide +kernel)) (goodIn_sub (fun _ h => List.mem_cons_of_mem _ (List.mem_append_right _ h)) (by decide +kernel))
set_option maxRecDepth 20000 in
theorem gL_dirty_X5_slotOf : GoodIn wsL_dirty (wsV RL 85 RX5 yX5_slotOf wsX5_slotOf) := goodIn_app (goodIn_of _ (by decide +kernel)) ggL_dirty_X5_slotOf
set_option maxRecDepth 20000 in
theorem ggL_dirty_L_isActive : GoodIn wsL_dirty wsL_isActive := goodIn_r _ [16] (by decide +kernel) (by decide +kernel)
set_option maxRecDepth 20000 in
theorem gL_dirty_L_isActive : GoodIn wsL_dirty (va_wsS RL 79 yL_isActive wsL_isActive) := goodIn_app (goodIn_of _ (by decide +kernel)) ggL_dirty_L_isActive
set_option maxRecDepth 20000 in
theorem ggL_dirty_X5_isMarked : GoodIn wsL_dirty wsX5_isMarked := goodIn_ca (goodIn_r _ [20, 6, 7, 8, 4, 9, 10, 11, 12, 21, 22, 28, 29, 30, 31, 32, 33, 34, 35, 36] (by decide +kernel) (by decide +kernel)) (goodIn_sub (fun _ h => List.mem_cons_of_mem _ (List.mem_append_right _ h)) (by decide +kernel))
set_option maxRecDepth 20000 in
theorem gL_dirty_X5_isMarked : GoodIn wsL_dirty (wsV RL 88 RX5 yX5_isMarked wsX5_isMarked) := goodIn_app (goodIn_of _ (by decide +kernel)) ggL_dirty_X5_isMarked
theorem dL_dirty_0 : decode cL_dirty 0 = .ok (.iconst 0, 1) := by decide +kernel
theorem dL_dirty_1 : decode cL_dirty 1 = .ok (.istore_n 3, 1) := by decide +kernel
theorem dL_dirty_2 : decode cL_dirty 2 = .ok (.iconst 0, 1) := by decide +kernel
theorem dL_dirty_3 : decode cL_dirty 3 = .ok (.istore 4, 2) := by decide +kernel
theorem dL_dirty_5 : decode cL_dirty 5 = .ok (.iload 4, 2) := by decide +kernel
theorem dL_dirty_7 : decode cL_dirty 7 = .ok (.iconst 2, 1) := by decide +kernel
theorem dL_dirty_8 : decode cL_dirty 8 = .ok (.if_icmp .ge 50, 3) := by decide +kernel
theorem dL_dirty_11 : decode cL_dirty 11 = .ok (.aload_n 0, 1) := by decide +kernel
theorem dL_dirty_12 : decode cL_dirty 12 = .ok (.iload_n 2, 1) := by decide +kernel
theorem dL_dirty_13 : decode cL_dirty 13 = .ok (.iload 4, 2) := by decide +kernel
theorem dL_dirty_15 : decode cL_dirty 15 = .ok (.invokevirtual 85, 3) := by decide +kernel
theorem dL_dirty_18 : decode cL_dirty 18 = .ok (.istore 5, 2) := by decide +kernel
theorem dL_dirty_20 : decode cL_dirty 20 = .ok (.iload_n 3, 1) := by decide +kernel
theorem dL_dirty_21 : decode cL_dirty 21 = .ok (.iload 5, 2) := by decide +kernel
theorem dL_dirty_23 : decode cL_dirty 23 = .ok (.ifCond .lt 26, 3) := by decide +kernel
theorem dL_dirty_26 : decode cL_dirty 26 = .ok (.aload_n 1, 1) := by decide +kernel
theorem dL_dirty_27 : decode cL_dirty 27 = .ok (.iload 5, 2) := by decide +kernel
theorem dL_dirty_29 : decode cL_dirty 29 = .ok (.invokestatic 79, 3) := by decide +kernel
theorem dL_dirty_32 : decode cL_dirty 32 = .ok (.ifCond .ne 17, 3) := by decide +kernel
theorem dL_dirty_35 : decode cL_dirty 35 = .ok (.aload_n 0, 1) := by decide +kernel
theorem dL_dirty_36 : decode cL_dirty 36 = .ok (.iload_n 2, 1) := by decide +kernel
theorem dL_dirty_37 : decode cL_dirty 37 = .ok (.iload 4, 2) := by decide +kernel
theorem dL_dirty_39 : decode cL_dirty 39 = .ok (.invokevirtual 88, 3) := by decide +kernel
theorem dL_dirty_42 : decode cL_dirty 42 = .ok (.ifCond .ne 7, 3) := by decide +kernel
theorem dL_dirty_45 : decode cL_dirty 45 = .ok (.iconst 1, 1) := by decide +kernel
theorem dL_dirty_46 : decode cL_dirty 46 = .ok (.goto 4, 3) := by decide +kernel
theorem dL_dirty_49 : decode cL_dirty 49 = .ok (.iconst 0, 1) := by decide +kernel
theorem dL_dirty_50 : decode cL_dirty 50 = .ok (.iadd, 1) := by decide +kernel
theorem dL_dirty_51 : decode cL_dirty 51 = .ok (.istore_n 3, 1) := by decide +kernel
theorem dL_dirty_52 : decode cL_dirty 52 = .ok (.iinc 4 1, 3) := by decide +kernel
theorem dL_dirty_55 : decode cL_dirty 55 = .ok (.goto (-50), 3) := by decide +kernel
theorem dL_dirty_58 : decode cL_dirty 58 = .ok (.iload_n 3, 1) := by decide +kernel
theorem dL_dirty_59 : decode cL_dirty 59 = .ok (.ireturn, 1) := by decide +kernel
set_option maxRecDepth 20000 in
theorem ggL_isClean_L_dirty : GoodIn wsL_isClean wsL_dirty := goodIn_ca (goodIn_r _ [4, 5, 6, 7, 8, 9, 10, 11, 12, 13, 14, 15, 16, 17, 18, 3, 19, 20, 21, 22, 23, 24, 25, 26, 27, 28, 29, 30, 31, 32, 33, 34, 35, 36, 37, 38, 39] (by decide +kernel) (by decide +kernel)) (goodIn_sub (fun _ h => List.mem_cons_of_mem _ (List.mem_append_right _ h)) (by decide +kernel))
set_option maxRecDepth 20000 in
theorem gL_isClean_L_dirty : GoodIn wsL_isClean (va_wsS RL 92 yL_dirty wsL_dirty) := goodIn_app (goodIn_of _ (by decide +kernel)) ggL_isClean_L_dirty
theorem dL_isClean_0 : decode cL_isClean 0 = .ok (.aload_n 0, 1) := by decide +kernel
theorem dL_isClean_1 : decode cL_isClean 1 = .ok (.aload_n 1, 1) := by decide +kernel
theorem dL_isClean_2 : decode cL_isClean 2 = .ok (.iload_n 2, 1) := by decide +kernel
theorem dL_isClean_3 : decode cL_isClean 3 = .ok (.invokestatic 92, 3) := by decide +kernel
theorem dL_isClean_6 : decode cL_isClean 6 = .ok (.ifCond .ne 7, 3) := by decide +kernel
theorem dL_isClean_9 : decode cL_isClean 9 = .ok (.iconst 1, 1) := by decide +kernel
theorem dL_isClean_10 : decode cL_isClean 10 = .ok (.goto 4, 3) := by decide +kernel
theorem dL_isClean_13 : decode cL_isClean 13 = .ok (.iconst 0, 1) := by decide +kernel
theorem dL_isClean_14 : decode cL_isClean 14 = .ok (.ireturn, 1) := by decide +kernel
