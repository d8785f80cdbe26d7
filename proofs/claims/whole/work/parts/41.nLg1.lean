/-! printed: the words of what the law calls among its own-/
set_option maxRecDepth 20000 in
theorem ggL_law_X5_init : GoodIn wsL_law wsX5_init := goodIn_r _ [9, 10, 11, 12, 13, 14, 15, 16, 17, 18, 19, 20, 21, 22, 23, 24, 25, 26, 27, 28, 29, 30, 31, 32, 33, 34, 35, 36, 37, 38, 39, 40, 41, 42, 43, 44, 45, 46, 47, 48, 49, 50, 51, 52, 53, 54, 55, 56, 57, 58, 59, 60, 61, 537, 538, 539, 540, 541, 542, 543, 544, 563, 564, 565, 566, 567, 568, 569, 570] (by decide +kernel) (by decide +kernel)
set_option maxRecDepth 20000 in
theorem gL_law_X5_init : GoodIn wsL_law (wsX5_init) := ggL_law_X5_init
set_option maxRecDepth 20000 in
theorem ggL_law_X6_init : GoodIn wsL_law wsX6_init := goodIn_r _ [64, 65, 11, 12, 66, 67, 68, 69, 70, 71, 72, 73, 74, 75, 76, 77, 78, 545, 546, 547, 548, 549, 550, 551, 552, 553, 554, 555, 556, 557, 558, 559, 560, 561, 562] (by decide +kernel) (by decide +kernel)
set_option maxRecDepth 20000 in
theorem gL_law_X6_init : GoodIn wsL_law (wsX6_init) := ggL_law_X6_init
set_option maxRecDepth 20000 in
theorem ggL_law_L_setSpace : GoodIn wsL_law wsL_setSpace := goodIn_ca (goodIn_ca (goodIn_r _ [82, 83, 84, 85, 86, 87, 2, 88, 89, 90, 91, 92, 22, 93, 94, 95, 96, 21, 25, 97, 98, 99, 19, 100, 101, 537, 538, 539, 540, 541, 542, 543, 544, 563, 564, 565] (by decide +kernel) (by decide +kernel)) (goodIn_sub (fun _ h => List.mem_append_left _ (List.mem_append_left _ (List.mem_append_left _ (List.mem_append_right _ h)))) (by decide +kernel))) (goodIn_sub (fun _ h => List.mem_append_left _ (List.mem_append_left _ (List.mem_append_right _ h))) (by decide +kernel))
set_option maxRecDepth 20000 in
theorem gL_law_L_setSpace : GoodIn wsL_law (va_wsS RL 68 yL_setSpace wsL_setSpace) := goodIn_app (goodIn_of _ (by decide +kernel)) ggL_law_L_setSpace
set_option maxRecDepth 20000 in
theorem ggL_law_X6_setSpace : GoodIn wsL_law wsX6_setSpace := goodIn_r _ [105, 106, 107, 68, 108, 109, 5, 110, 111, 112, 113, 114, 115, 545, 546, 547, 548, 549, 550, 551, 552, 553, 554, 555, 556, 557, 558, 559, 560, 561, 562] (by decide +kernel) (by decide +kernel)
set_option maxRecDepth 20000 in
theorem gL_law_X6_setSpace : GoodIn wsL_law (wsV RL 73 RX6 yX6_setSpace wsX6_setSpace) := goodIn_app (goodIn_of _ (by decide +kernel)) ggL_law_X6_setSpace
set_option maxRecDepth 20000 in
theorem ggL_law_X6_thrown : GoodIn wsL_law wsX6_thrown := goodIn_r _ [119, 115, 545, 546, 547, 548, 549, 550, 551, 552, 553, 554, 555, 556, 557, 558, 559, 560, 561, 562] (by decide +kernel) (by decide +kernel)
set_option maxRecDepth 20000 in
theorem gL_law_X6_thrown : GoodIn wsL_law (wsV RL 74 RX6 yX6_thrown wsX6_thrown) := goodIn_app (goodIn_of _ (by decide +kernel)) ggL_law_X6_thrown
set_option maxRecDepth 20000 in
theorem ggL_law_L_begin : GoodIn wsL_law wsL_begin := goodIn_ca (goodIn_r _ [122, 84, 123, 124, 125, 2, 126, 91, 92, 20, 127, 128, 129, 23, 97, 98, 99, 19, 100, 101, 130, 131, 132, 11, 12, 133, 134, 135, 136, 137, 138, 139, 140, 141, 142, 143, 34, 144, 145, 146, 147, 148, 149, 150, 151, 152, 153, 154, 155, 33, 156, 157, 158, 159, 160, 161, 162, 163, 164, 165, 166, 167, 168, 169, 170, 171, 172, 173, 174, 175, 176, 177, 178, 179, 180, 181, 182, 183, 184, 185, 186, 187, 188, 189, 537, 538, 539, 540, 541, 542, 543, 544, 571, 572, 573, 574, 575, 563, 564, 565] (by decide +kernel) (by decide +kernel)) (goodIn_sub (fun _ h => List.mem_append_left _ (List.mem_append_left _ (List.mem_append_right _ h))) (by decide +kernel))
set_option maxRecDepth 20000 in
theorem gL_law_L_begin : GoodIn wsL_law (va_wsS RL 77 yL_begin wsL_begin) := goodIn_app (goodIn_of _ (by decide +kernel)) ggL_law_L_begin
set_option maxRecDepth 20000 in
theorem ggL_law_X6_begin : GoodIn wsL_law wsX6_begin := goodIn_r _ [193, 194, 70, 195, 111, 112, 113, 5, 114, 115, 545, 546, 547, 548, 549, 550, 551, 552, 553, 554, 555, 556, 557, 558, 559, 560, 561, 562] (by decide +kernel) (by decide +kernel)
set_option maxRecDepth 20000 in
theorem gL_law_X6_begin : GoodIn wsL_law (wsV RL 80 RX6 yX6_begin wsX6_begin) := goodIn_app (goodIn_of _ (by decide +kernel)) ggL_law_X6_begin
set_option maxRecDepth 20000 in
theorem ggL_law_L_write : GoodIn wsL_law wsL_write := goodIn_ca (goodIn_ca (goodIn_ca (goodIn_r _ [198, 199, 83, 84, 200, 201, 202, 2, 203, 89, 90, 91, 92, 204, 205, 25, 206, 207, 208, 21, 209, 210, 211, 212, 213, 214, 20, 215, 97, 98, 99, 19, 100, 101, 216, 217, 218, 219, 220, 221, 222, 223, 224, 225, 226, 227, 228, 229, 230, 231, 34, 232, 233, 234, 235, 16, 236, 237, 238, 239, 240, 241, 242, 243, 244, 245, 246, 247, 248, 249, 250, 251, 252, 253, 254, 255, 256, 257, 258, 259, 260, 261, 22, 93, 94, 95, 96, 262, 27, 263, 264, 49, 265, 51, 266, 267, 55, 268, 269, 270, 271, 24, 272, 273, 274, 275, 276, 277, 56, 278, 279, 280, 11, 12, 281, 282, 138, 139, 140, 141, 142, 143, 144, 145, 146, 147, 148, 149, 150, 151, 152, 153, 154, 155, 33, 156, 157, 158, 159, 160, 161, 162, 163, 164, 165, 166, 167, 168, 169, 170, 171, 172, 173, 174, 175, 176, 177, 178, 179, 180, 181, 182, 183, 184, 185, 186, 187, 188, 189, 283, 284, 285, 567, 568, 537, 538, 539, 540, 541, 542, 543, 544, 576, 577, 578, 579, 563, 564, 565, 571, 572, 573, 574, 575, 566, 569, 570] (by decide +kernel) (by decide +kernel)) (goodIn_sub (fun _ h => List.mem_append_left _ (List.mem_append_left _ (List.mem_append_left _ (List.mem_append_right _ h)))) (by decide +kernel))) (goodIn_sub (fun _ h => List.mem_append_left _ (List.mem_append_left _ (List.mem_append_right _ h))) (by decide +kernel))) (goodIn_sub (fun _ h => List.mem_append_left _ (List.mem_append_right _ h)) (by decide +kernel))
set_option maxRecDepth 20000 in
theorem gL_law_L_write : GoodIn wsL_law (va_wsS RL 81 yL_write wsL_write) := goodIn_app (goodIn_of _ (by decide +kernel)) ggL_law_L_write
set_option maxRecDepth 20000 in
theorem ggL_law_X6_write : GoodIn wsL_law wsX6_write := goodIn_r _ [289, 290, 291, 67, 77, 78, 107, 106, 68, 72, 73, 74, 292, 293, 294, 5, 295, 194, 108, 109, 110, 296, 297, 298, 299, 300, 301, 302, 69, 303, 304, 305, 306, 76, 307, 308, 309, 310, 311, 312, 313, 314, 111, 112, 113, 114, 115, 315, 316, 317, 318, 319, 545, 546, 547, 548, 549, 550, 551, 552, 553, 554, 555, 556, 557, 558, 559, 560, 561, 562] (by decide +kernel) (by decide +kernel)
set_option maxRecDepth 20000 in
theorem gL_law_X6_write : GoodIn wsL_law (wsV RL 84 RX6 yX6_write wsX6_write) := goodIn_app (goodIn_of _ (by decide +kernel)) ggL_law_X6_write
set_option maxRecDepth 20000 in
theorem ggL_law_L_read : GoodIn wsL_law wsL_read := goodIn_ca (goodIn_ca (goodIn_ca (goodIn_r _ [322, 199, 84, 323, 324, 325, 326, 2, 327, 209, 210, 211, 212, 213, 214, 20, 215, 97, 98, 99, 19, 100, 101, 216, 217, 218, 219, 220, 221, 222, 223, 224, 225, 226, 227, 228, 229, 230, 231, 34, 232, 233, 234, 235, 16, 236, 237, 238, 239, 91, 92, 328, 329, 330, 331, 332, 333, 25, 334, 335, 336, 337, 21, 248, 249, 208, 250, 251, 252, 253, 338, 339, 340, 281, 341, 129, 342, 343, 134, 268, 269, 270, 271, 24, 272, 27, 273, 274, 49, 265, 51, 266, 267, 55, 344, 345, 346, 347, 571, 572, 573, 574, 575, 537, 538, 539, 540, 541, 542, 543, 544, 563, 564, 565, 567, 568, 576, 577, 578, 579, 566, 569, 570] (by decide +kernel) (by decide +kernel)) (goodIn_sub (fun _ h => List.mem_append_left _ (List.mem_append_right _ h)) (by decide +kernel))) (goodIn_sub (fun _ h => List.mem_append_left _ (List.mem_append_left _ (List.mem_append_right _ h))) (by decide +kernel))) (goodIn_sub (fun _ h => List.mem_append_right _ h) (by decide +kernel))
set_option maxRecDepth 20000 in
theorem gL_law_L_read : GoodIn wsL_law (va_wsS RL 85 yL_read wsL_read) := goodIn_app (goodIn_of _ (by decide +kernel)) ggL_law_L_read
set_option maxRecDepth 20000 in
theorem ggL_law_X6_read : GoodIn wsL_law wsX6_read := goodIn_r _ [351, 70, 352, 292, 293, 294, 5, 295, 194, 108, 109, 110, 296, 297, 298, 299, 300, 301, 302, 69, 111, 112, 113, 114, 115, 353, 354, 355, 356, 67, 106, 73, 76, 72, 71, 74, 107, 315, 316, 317, 318, 77, 78, 319, 545, 546, 547, 548, 549, 550, 551, 552, 553, 554, 555, 556, 557, 558, 559, 560, 561, 562] (by decide +kernel) (by decide +kernel)
