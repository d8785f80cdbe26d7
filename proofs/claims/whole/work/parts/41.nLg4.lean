/-! printed: the words of what the law calls among its own-/
set_option maxRecDepth 20000 in
theorem gL_law_L_slotOf : GoodIn wsL_law (va_wsS RL 121 yL_slotOf wsL_slotOf) := goodIn_app (goodIn_of _ (by decide +kernel)) ggL_law_L_slotOf
set_option maxRecDepth 20000 in
theorem ggL_law_X6_slotOf : GoodIn wsL_law wsX6_slotOf := goodIn_r _ [498, 77, 499, 500, 5, 501, 108, 109, 110, 111, 112, 113, 114, 115, 545, 546, 547, 548, 549, 550, 551, 552, 553, 554, 555, 556, 557, 558, 559, 560, 561, 562] (by decide +kernel) (by decide +kernel)
set_option maxRecDepth 20000 in
theorem gL_law_X6_slotOf : GoodIn wsL_law (wsV RL 123 RX6 yX6_slotOf wsX6_slotOf) := goodIn_app (goodIn_of _ (by decide +kernel)) ggL_law_X6_slotOf
set_option maxRecDepth 20000 in
theorem ggL_law_L_isMarked : GoodIn wsL_law wsL_isMarked := goodIn_ca (goodIn_r _ [504, 199, 505, 506, 507, 2, 508, 491, 492, 493, 494, 213, 214, 14, 569, 570, 537, 538, 539, 540, 541, 542, 543, 544, 566] (by decide +kernel) (by decide +kernel)) (goodIn_sub (fun _ h => List.mem_append_left _ (List.mem_append_right _ h)) (by decide +kernel))
set_option maxRecDepth 20000 in
theorem gL_law_L_isMarked : GoodIn wsL_law (va_wsS RL 124 yL_isMarked wsL_isMarked) := goodIn_app (goodIn_of _ (by decide +kernel)) ggL_law_L_isMarked
set_option maxRecDepth 20000 in
theorem ggL_law_X6_isMarked : GoodIn wsL_law wsX6_isMarked := goodIn_r _ [512, 78, 499, 500, 5, 501, 108, 109, 110, 111, 112, 113, 114, 115, 545, 546, 547, 548, 549, 550, 551, 552, 553, 554, 555, 556, 557, 558, 559, 560, 561, 562] (by decide +kernel) (by decide +kernel)
set_option maxRecDepth 20000 in
theorem gL_law_X6_isMarked : GoodIn wsL_law (wsV RL 126 RX6 yX6_isMarked wsX6_isMarked) := goodIn_app (goodIn_of _ (by decide +kernel)) ggL_law_X6_isMarked
set_option maxRecDepth 20000 in
theorem ggL_law_X5_marked : GoodIn wsL_law wsX5_marked := goodIn_r _ [516, 24, 537, 538, 539, 540, 541, 542, 543, 544] (by decide +kernel) (by decide +kernel)
set_option maxRecDepth 20000 in
theorem gL_law_X5_marked : GoodIn wsL_law (wsV RL 127 RX5 yX5_marked wsX5_marked) := goodIn_app (goodIn_of _ (by decide +kernel)) ggL_law_X5_marked
set_option maxRecDepth 20000 in
theorem ggL_law_X6_marked : GoodIn wsL_law wsX6_marked := goodIn_r _ [520, 115, 319, 545, 546, 547, 548, 549, 550, 551, 552, 553, 554, 555, 556, 557, 558, 559, 560, 561, 562] (by decide +kernel) (by decide +kernel)
set_option maxRecDepth 20000 in
theorem gL_law_X6_marked : GoodIn wsL_law (wsV RL 130 RX6 yX6_marked wsX6_marked) := goodIn_app (goodIn_of _ (by decide +kernel)) ggL_law_X6_marked
set_option maxRecDepth 20000 in
theorem ggL_law_X5_records : GoodIn wsL_law wsX5_records := goodIn_r _ [524, 93, 94, 95, 2, 96, 21, 25, 97, 98, 99, 19, 100, 101, 537, 538, 539, 540, 541, 542, 543, 544, 563, 564, 565] (by decide +kernel) (by decide +kernel)
set_option maxRecDepth 20000 in
theorem gL_law_X5_records : GoodIn wsL_law (wsV RL 131 RX5 yX5_records wsX5_records) := goodIn_app (goodIn_of _ (by decide +kernel)) ggL_law_X5_records
set_option maxRecDepth 20000 in
theorem ggL_law_X6_records : GoodIn wsL_law wsX6_records := goodIn_r _ [528, 115, 106, 107, 545, 546, 547, 548, 549, 550, 551, 552, 553, 554, 555, 556, 557, 558, 559, 560, 561, 562] (by decide +kernel) (by decide +kernel)
set_option maxRecDepth 20000 in
theorem gL_law_X6_records : GoodIn wsL_law (wsV RL 134 RX6 yX6_records wsX6_records) := goodIn_app (goodIn_of _ (by decide +kernel)) ggL_law_X6_records
set_option maxRecDepth 20000 in
theorem ggL_law_X5_dropped : GoodIn wsL_law wsX5_dropped := goodIn_r _ [532, 25, 537, 538, 539, 540, 541, 542, 543, 544] (by decide +kernel) (by decide +kernel)
set_option maxRecDepth 20000 in
theorem gL_law_X5_dropped : GoodIn wsL_law (wsV RL 135 RX5 yX5_dropped wsX5_dropped) := goodIn_app (goodIn_of _ (by decide +kernel)) ggL_law_X5_dropped
set_option maxRecDepth 20000 in
theorem ggL_law_X6_dropped : GoodIn wsL_law wsX6_dropped := goodIn_r _ [536, 115, 107, 545, 546, 547, 548, 549, 550, 551, 552, 553, 554, 555, 556, 557, 558, 559, 560, 561, 562] (by decide +kernel) (by decide +kernel)
set_option maxRecDepth 20000 in
theorem gL_law_X6_dropped : GoodIn wsL_law (wsV RL 138 RX6 yX6_dropped wsX6_dropped) := goodIn_app (goodIn_of _ (by decide +kernel)) ggL_law_X6_dropped
