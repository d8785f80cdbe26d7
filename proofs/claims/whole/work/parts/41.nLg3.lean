/-! printed: the words of what the law calls among its own-/
set_option maxRecDepth 20000 in
theorem ggL_law_X5_moment : GoodIn wsL_law wsX5_moment := goodIn_r _ [438, 23, 537, 538, 539, 540, 541, 542, 543, 544] (by decide +kernel) (by decide +kernel)
set_option maxRecDepth 20000 in
theorem gL_law_X5_moment : GoodIn wsL_law (wsV RL 104 RX5 yX5_moment wsX5_moment) := goodIn_app (goodIn_of _ (by decide +kernel)) ggL_law_X5_moment
set_option maxRecDepth 20000 in
theorem ggL_law_X6_moment : GoodIn wsL_law wsX6_moment := goodIn_r _ [442, 115, 195, 545, 546, 547, 548, 549, 550, 551, 552, 553, 554, 555, 556, 557, 558, 559, 560, 561, 562] (by decide +kernel) (by decide +kernel)
set_option maxRecDepth 20000 in
theorem gL_law_X6_moment : GoodIn wsL_law (wsV RL 107 RX6 yX6_moment wsX6_moment) := goodIn_app (goodIn_of _ (by decide +kernel)) ggL_law_X6_moment
set_option maxRecDepth 20000 in
theorem ggL_law_X5_transactions : GoodIn wsL_law wsX5_transactions := goodIn_r _ [446, 20, 97, 98, 99, 19, 100, 101, 537, 538, 539, 540, 541, 542, 543, 544, 563, 564, 565] (by decide +kernel) (by decide +kernel)
set_option maxRecDepth 20000 in
theorem gL_law_X5_transactions : GoodIn wsL_law (wsV RL 108 RX5 yX5_transactions wsX5_transactions) := goodIn_app (goodIn_of _ (by decide +kernel)) ggL_law_X5_transactions
set_option maxRecDepth 20000 in
theorem ggL_law_X6_transactions : GoodIn wsL_law wsX6_transactions := goodIn_r _ [450, 115, 194, 545, 546, 547, 548, 549, 550, 551, 552, 553, 554, 555, 556, 557, 558, 559, 560, 561, 562] (by decide +kernel) (by decide +kernel)
set_option maxRecDepth 20000 in
theorem gL_law_X6_transactions : GoodIn wsL_law (wsV RL 111 RX6 yX6_transactions wsX6_transactions) := goodIn_app (goodIn_of _ (by decide +kernel)) ggL_law_X6_transactions
set_option maxRecDepth 20000 in
theorem ggL_law_L_now : GoodIn wsL_law wsL_now := goodIn_ca (goodIn_r _ [453, 199, 454, 455, 456, 2, 457, 232, 233, 234, 235, 213, 214, 16, 567, 568, 537, 538, 539, 540, 541, 542, 543, 544] (by decide +kernel) (by decide +kernel)) (goodIn_sub (fun _ h => List.mem_append_left _ (List.mem_append_right _ h)) (by decide +kernel))
set_option maxRecDepth 20000 in
theorem gL_law_L_now : GoodIn wsL_law (va_wsS RL 112 yL_now wsL_now) := goodIn_app (goodIn_of _ (by decide +kernel)) ggL_law_L_now
set_option maxRecDepth 20000 in
theorem ggL_law_X6_now : GoodIn wsL_law wsX6_now := goodIn_r _ [461, 67, 296, 297, 5, 298, 108, 109, 110, 111, 112, 113, 114, 115, 545, 546, 547, 548, 549, 550, 551, 552, 553, 554, 555, 556, 557, 558, 559, 560, 561, 562] (by decide +kernel) (by decide +kernel)
set_option maxRecDepth 20000 in
theorem gL_law_X6_now : GoodIn wsL_law (wsV RL 114 RX6 yX6_now wsX6_now) := goodIn_app (goodIn_of _ (by decide +kernel)) ggL_law_X6_now
set_option maxRecDepth 20000 in
theorem ggL_law_L_versionAt : GoodIn wsL_law wsL_versionAt := goodIn_ca (goodIn_ca (goodIn_r _ [464, 199, 83, 465, 466, 467, 2, 468, 232, 233, 234, 235, 213, 214, 16, 364, 365, 366, 367, 89, 90, 23, 334, 335, 336, 337, 21, 248, 97, 98, 99, 19, 100, 101, 216, 217, 218, 219, 220, 221, 222, 223, 224, 225, 226, 227, 228, 229, 230, 231, 34, 249, 208, 250, 251, 252, 253, 338, 339, 340, 281, 341, 129, 342, 343, 134, 344, 345, 346, 347, 537, 538, 539, 540, 541, 542, 543, 544, 563, 564, 565, 576, 577, 578, 579, 571, 572, 573, 574, 575, 567, 568] (by decide +kernel) (by decide +kernel)) (goodIn_sub (fun _ h => List.mem_append_left _ (List.mem_append_right _ h)) (by decide +kernel))) (goodIn_sub (fun _ h => List.mem_append_left _ (List.mem_append_left _ (List.mem_append_left _ (List.mem_append_right _ h)))) (by decide +kernel))
set_option maxRecDepth 20000 in
theorem gL_law_L_versionAt : GoodIn wsL_law (va_wsS RL 115 yL_versionAt wsL_versionAt) := goodIn_app (goodIn_of _ (by decide +kernel)) ggL_law_L_versionAt
set_option maxRecDepth 20000 in
theorem ggL_law_X6_versionAt : GoodIn wsL_law wsX6_versionAt := goodIn_r _ [472, 195, 296, 297, 5, 298, 108, 109, 110, 111, 112, 113, 114, 115, 353, 354, 355, 356, 67, 352, 106, 73, 76, 72, 69, 71, 74, 107, 545, 546, 547, 548, 549, 550, 551, 552, 553, 554, 555, 556, 557, 558, 559, 560, 561, 562] (by decide +kernel) (by decide +kernel)
set_option maxRecDepth 20000 in
theorem gL_law_X6_versionAt : GoodIn wsL_law (wsV RL 117 RX6 yX6_versionAt wsX6_versionAt) := goodIn_app (goodIn_of _ (by decide +kernel)) ggL_law_X6_versionAt
set_option maxRecDepth 20000 in
theorem ggL_law_L_lockOf : GoodIn wsL_law wsL_lockOf := goodIn_ca (goodIn_r _ [475, 199, 476, 477, 478, 2, 479, 232, 233, 234, 235, 213, 214, 16, 244, 245, 246, 247, 21, 248, 97, 98, 99, 19, 100, 101, 216, 217, 218, 219, 220, 221, 222, 223, 224, 225, 226, 227, 228, 229, 230, 231, 34, 249, 208, 250, 251, 252, 253, 571, 572, 573, 574, 575, 537, 538, 539, 540, 541, 542, 543, 544, 576, 577, 578, 579, 563, 564, 565] (by decide +kernel) (by decide +kernel)) (goodIn_sub (fun _ h => List.mem_append_left _ (List.mem_append_right _ h)) (by decide +kernel))
set_option maxRecDepth 20000 in
theorem gL_law_L_lockOf : GoodIn wsL_law (va_wsS RL 118 yL_lockOf wsL_lockOf) := goodIn_app (goodIn_of _ (by decide +kernel)) ggL_law_L_lockOf
set_option maxRecDepth 20000 in
theorem ggL_law_X6_lockOf : GoodIn wsL_law wsX6_lockOf := goodIn_r _ [483, 296, 297, 5, 298, 108, 109, 110, 111, 112, 113, 114, 115, 303, 304, 305, 306, 106, 73, 76, 72, 299, 300, 301, 302, 69, 545, 546, 547, 548, 549, 550, 551, 552, 553, 554, 555, 556, 557, 558, 559, 560, 561, 562] (by decide +kernel) (by decide +kernel)
set_option maxRecDepth 20000 in
theorem gL_law_X6_lockOf : GoodIn wsL_law (wsV RL 120 RX6 yX6_lockOf wsX6_lockOf) := goodIn_app (goodIn_of _ (by decide +kernel)) ggL_law_X6_lockOf
set_option maxRecDepth 20000 in
theorem ggL_law_L_slotOf : GoodIn wsL_law wsL_slotOf := goodIn_ca (goodIn_r _ [486, 199, 487, 488, 489, 2, 490, 491, 492, 493, 494, 213, 214, 14, 569, 570, 571, 572, 573, 574, 575, 537, 538, 539, 540, 541, 542, 543, 544, 566] (by decide +kernel) (by decide +kernel)) (goodIn_sub (fun _ h => List.mem_append_left _ (List.mem_append_right _ h)) (by decide +kernel))
