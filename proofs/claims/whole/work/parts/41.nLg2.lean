/-! printed: the words of what the law calls among its own-/
set_option maxRecDepth 20000 in
theorem gL_law_X6_read : GoodIn wsL_law (wsV RL 88 RX6 yX6_read wsX6_read) := goodIn_app (goodIn_of _ (by decide +kernel)) ggL_law_X6_read
set_option maxRecDepth 20000 in
theorem ggL_law_L_readAt : GoodIn wsL_law wsL_readAt := goodIn_ca (goodIn_ca (goodIn_ca (goodIn_r _ [359, 199, 83, 323, 360, 361, 362, 2, 363, 232, 233, 234, 235, 213, 214, 16, 364, 365, 366, 367, 89, 90, 23, 328, 329, 330, 331, 332, 333, 25, 334, 335, 336, 337, 21, 248, 97, 98, 99, 19, 100, 101, 216, 217, 218, 219, 220, 221, 222, 223, 224, 225, 226, 227, 228, 229, 230, 231, 34, 249, 208, 250, 251, 252, 253, 338, 339, 340, 281, 341, 129, 342, 343, 134, 268, 269, 270, 271, 24, 272, 27, 273, 274, 49, 265, 51, 266, 267, 55, 344, 345, 346, 347, 537, 538, 539, 540, 541, 542, 543, 544, 567, 568, 563, 564, 565, 576, 577, 578, 579, 571, 572, 573, 574, 575, 566, 569, 570] (by decide +kernel) (by decide +kernel)) (goodIn_sub (fun _ h => List.mem_append_left _ (List.mem_append_right _ h)) (by decide +kernel))) (goodIn_sub (fun _ h => List.mem_append_left _ (List.mem_append_left _ (List.mem_append_left _ (List.mem_append_right _ h)))) (by decide +kernel))) (goodIn_sub (fun _ h => List.mem_append_right _ h) (by decide +kernel))
set_option maxRecDepth 20000 in
theorem gL_law_L_readAt : GoodIn wsL_law (va_wsS RL 89 yL_readAt wsL_readAt) := goodIn_app (goodIn_of _ (by decide +kernel)) ggL_law_L_readAt
set_option maxRecDepth 20000 in
theorem ggL_law_X6_readAt : GoodIn wsL_law wsX6_readAt := goodIn_r _ [371, 195, 352, 296, 297, 5, 298, 108, 109, 110, 111, 112, 113, 114, 115, 353, 354, 355, 356, 67, 106, 73, 76, 72, 69, 71, 74, 107, 315, 316, 317, 318, 77, 78, 319, 299, 300, 301, 302, 545, 546, 547, 548, 549, 550, 551, 552, 553, 554, 555, 556, 557, 558, 559, 560, 561, 562] (by decide +kernel) (by decide +kernel)
set_option maxRecDepth 20000 in
theorem gL_law_X6_readAt : GoodIn wsL_law (wsV RL 91 RX6 yX6_readAt wsX6_readAt) := goodIn_app (goodIn_of _ (by decide +kernel)) ggL_law_X6_readAt
set_option maxRecDepth 20000 in
theorem ggL_law_L_save : GoodIn wsL_law wsL_save := goodIn_ca (goodIn_ca (goodIn_r _ [374, 199, 84, 375, 376, 377, 2, 378, 209, 210, 211, 212, 213, 214, 20, 215, 97, 98, 99, 19, 100, 101, 216, 217, 218, 219, 220, 221, 222, 223, 224, 225, 226, 227, 228, 229, 230, 231, 34, 236, 237, 238, 239, 91, 92, 571, 572, 573, 574, 575, 537, 538, 539, 540, 541, 542, 543, 544, 563, 564, 565] (by decide +kernel) (by decide +kernel)) (goodIn_sub (fun _ h => List.mem_append_left _ (List.mem_append_right _ h)) (by decide +kernel))) (goodIn_sub (fun _ h => List.mem_append_left _ (List.mem_append_left _ (List.mem_append_right _ h))) (by decide +kernel))
set_option maxRecDepth 20000 in
theorem gL_law_L_save : GoodIn wsL_law (va_wsS RL 92 yL_save wsL_save) := goodIn_app (goodIn_of _ (by decide +kernel)) ggL_law_L_save
set_option maxRecDepth 20000 in
theorem ggL_law_X6_save : GoodIn wsL_law wsX6_save := goodIn_r _ [382, 383, 384, 385, 5, 386, 292, 293, 294, 295, 194, 108, 109, 110, 299, 300, 301, 302, 69, 111, 112, 113, 114, 115, 387, 388, 389, 390, 106, 72, 76, 545, 546, 547, 548, 549, 550, 551, 552, 553, 554, 555, 556, 557, 558, 559, 560, 561, 562] (by decide +kernel) (by decide +kernel)
set_option maxRecDepth 20000 in
theorem gL_law_X6_save : GoodIn wsL_law (wsV RL 94 RX6 yX6_save wsX6_save) := goodIn_app (goodIn_of _ (by decide +kernel)) ggL_law_X6_save
set_option maxRecDepth 20000 in
theorem ggL_law_L_undoTo : GoodIn wsL_law wsL_undoTo := goodIn_ca (goodIn_ca (goodIn_ca (goodIn_r _ [393, 199, 84, 83, 394, 395, 396, 2, 397, 89, 90, 209, 210, 211, 212, 213, 214, 20, 215, 97, 98, 99, 19, 100, 101, 216, 217, 218, 219, 220, 221, 222, 223, 224, 225, 226, 227, 228, 229, 230, 231, 34, 236, 237, 238, 239, 91, 92, 398, 399, 400, 401, 21, 248, 402, 208, 403, 404, 252, 282, 253, 281, 571, 572, 573, 574, 575, 537, 538, 539, 540, 541, 542, 543, 544, 563, 564, 565, 576, 577, 578, 579, 567, 568] (by decide +kernel) (by decide +kernel)) (goodIn_sub (fun _ h => List.mem_append_left _ (List.mem_append_left _ (List.mem_append_left _ (List.mem_append_right _ h)))) (by decide +kernel))) (goodIn_sub (fun _ h => List.mem_append_left _ (List.mem_append_right _ h)) (by decide +kernel))) (goodIn_sub (fun _ h => List.mem_append_left _ (List.mem_append_left _ (List.mem_append_right _ h))) (by decide +kernel))
set_option maxRecDepth 20000 in
theorem gL_law_L_undoTo : GoodIn wsL_law (va_wsS RL 95 yL_undoTo wsL_undoTo) := goodIn_app (goodIn_of _ (by decide +kernel)) ggL_law_L_undoTo
set_option maxRecDepth 20000 in
theorem ggL_law_X6_undoTo : GoodIn wsL_law wsX6_undoTo := goodIn_r _ [408, 383, 384, 385, 5, 386, 292, 293, 294, 295, 194, 108, 109, 110, 299, 300, 301, 302, 69, 111, 112, 113, 114, 115, 387, 388, 389, 390, 106, 72, 76, 409, 410, 411, 412, 67, 73, 74, 545, 546, 547, 548, 549, 550, 551, 552, 553, 554, 555, 556, 557, 558, 559, 560, 561, 562] (by decide +kernel) (by decide +kernel)
set_option maxRecDepth 20000 in
theorem gL_law_X6_undoTo : GoodIn wsL_law (wsV RL 97 RX6 yX6_undoTo wsX6_undoTo) := goodIn_app (goodIn_of _ (by decide +kernel)) ggL_law_X6_undoTo
set_option maxRecDepth 20000 in
theorem ggL_law_L_undo : GoodIn wsL_law wsL_undo := goodIn_ca (goodIn_ca (goodIn_r _ [415, 199, 84, 416, 417, 418, 2, 419, 209, 210, 211, 212, 213, 214, 20, 215, 97, 98, 99, 19, 100, 101, 216, 217, 218, 219, 220, 221, 222, 223, 224, 225, 226, 227, 228, 229, 230, 231, 34, 236, 237, 238, 239, 91, 92, 398, 399, 400, 401, 21, 248, 402, 208, 403, 404, 252, 282, 253, 281, 571, 572, 573, 574, 575, 537, 538, 539, 540, 541, 542, 543, 544, 563, 564, 565, 576, 577, 578, 579, 567, 568] (by decide +kernel) (by decide +kernel)) (goodIn_sub (fun _ h => List.mem_append_left _ (List.mem_append_right _ h)) (by decide +kernel))) (goodIn_sub (fun _ h => List.mem_append_left _ (List.mem_append_left _ (List.mem_append_right _ h))) (by decide +kernel))
set_option maxRecDepth 20000 in
theorem gL_law_L_undo : GoodIn wsL_law (va_wsS RL 98 yL_undo wsL_undo) := goodIn_app (goodIn_of _ (by decide +kernel)) ggL_law_L_undo
set_option maxRecDepth 20000 in
theorem ggL_law_X6_undo : GoodIn wsL_law wsX6_undo := goodIn_r _ [423, 69, 383, 384, 385, 5, 386, 292, 293, 294, 295, 194, 108, 109, 110, 299, 300, 301, 302, 111, 112, 113, 114, 115, 387, 388, 389, 390, 106, 72, 76, 409, 410, 411, 412, 67, 73, 74, 545, 546, 547, 548, 549, 550, 551, 552, 553, 554, 555, 556, 557, 558, 559, 560, 561, 562] (by decide +kernel) (by decide +kernel)
set_option maxRecDepth 20000 in
theorem gL_law_X6_undo : GoodIn wsL_law (wsV RL 100 RX6 yX6_undo wsX6_undo) := goodIn_app (goodIn_of _ (by decide +kernel)) ggL_law_X6_undo
set_option maxRecDepth 20000 in
theorem ggL_law_L_commit : GoodIn wsL_law wsL_commit := goodIn_ca (goodIn_ca (goodIn_r _ [426, 199, 84, 427, 428, 429, 2, 430, 23, 209, 210, 211, 212, 213, 214, 20, 215, 97, 98, 99, 19, 100, 101, 216, 217, 218, 219, 220, 221, 222, 223, 224, 225, 226, 227, 228, 229, 230, 231, 34, 236, 237, 238, 239, 91, 92, 537, 538, 539, 540, 541, 542, 543, 544, 571, 572, 573, 574, 575, 563, 564, 565] (by decide +kernel) (by decide +kernel)) (goodIn_sub (fun _ h => List.mem_append_left _ (List.mem_append_right _ h)) (by decide +kernel))) (goodIn_sub (fun _ h => List.mem_append_left _ (List.mem_append_left _ (List.mem_append_right _ h))) (by decide +kernel))
set_option maxRecDepth 20000 in
theorem gL_law_L_commit : GoodIn wsL_law (va_wsS RL 101 yL_commit wsL_commit) := goodIn_app (goodIn_of _ (by decide +kernel)) ggL_law_L_commit
set_option maxRecDepth 20000 in
theorem ggL_law_X6_commit : GoodIn wsL_law wsX6_commit := goodIn_r _ [434, 195, 69, 71, 383, 384, 385, 5, 386, 292, 293, 294, 295, 194, 108, 109, 110, 299, 300, 301, 302, 111, 112, 113, 114, 115, 545, 546, 547, 548, 549, 550, 551, 552, 553, 554, 555, 556, 557, 558, 559, 560, 561, 562] (by decide +kernel) (by decide +kernel)
set_option maxRecDepth 20000 in
theorem gL_law_X6_commit : GoodIn wsL_law (wsV RL 103 RX6 yX6_commit wsX6_commit) := goodIn_app (goodIn_of _ (by decide +kernel)) ggL_law_X6_commit
