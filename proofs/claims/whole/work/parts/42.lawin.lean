/-! the law's words in the tables, by their places -/
theorem sub_at {big ws : List Cond} (ps : List Nat) (hp : ws = ps.filterMap (fun i => big[i]?)) : ∀ w ∈ ws, w ∈ big := by
  intro w hw
  rw [hp] at hw
  obtain ⟨i, -, hi⟩ := List.mem_filterMap.mp hw
  exact List.mem_of_getElem? hi
set_option maxRecDepth 20000 in
theorem lwi0 : ∀ w ∈ wsL_law0_r1, w ∈ lw_tbl := sub_at [63, 64, 40, 646, 647, 47, 844, 65, 66, 67, 68, 69, 70, 71, 144, 73, 145, 75, 76, 43, 146, 147, 148, 149] (by decide +kernel)
set_option maxRecDepth 20000 in
theorem lwi1 : ∀ w ∈ wsL_law0_r2, w ∈ lw_tbl := sub_at [150, 151, 101, 44, 129, 46, 77, 78, 79, 87, 89, 80, 81, 42, 82, 91, 83, 84, 41, 85, 86, 103, 104, 105] (by decide +kernel)
set_option maxRecDepth 20000 in
theorem lwi2 : ∀ w ∈ wsL_law0_r3, w ∈ lw_tbl := sub_at [106, 124, 108, 45, 110, 111, 112, 113, 116, 131, 132, 133, 136, 134, 648, 649, 650, 651, 707, 652, 653, 656, 657, 658] (by decide +kernel)
set_option maxRecDepth 20000 in
theorem lwi3 : ∀ w ∈ wsL_law0_r4, w ∈ lw_tbl := sub_at [660, 661, 662, 708, 663, 665, 666, 197, 198, 39, 199, 200, 201, 202, 203, 204, 205, 206, 51, 275, 52, 189, 191, 0] (by decide +kernel)
set_option maxRecDepth 20000 in
theorem lwi4 : ∀ w ∈ wsL_law0_r5, w ∈ lw_tbl := sub_at [192, 177, 178, 179, 180, 90, 713, 714, 715, 716, 659, 664, 717, 718, 719, 720, 722, 28, 723, 669, 709, 710, 711, 712] (by decide +kernel)
set_option maxRecDepth 20000 in
theorem lwi5 : ∀ w ∈ wsL_law0_r6, w ∈ lw_tbl := sub_at [291, 292, 293, 294, 295, 296, 297, 299, 300, 53, 302, 303, 304, 309, 312, 314, 305, 307, 328, 329, 330, 331, 92, 93] (by decide +kernel)
set_option maxRecDepth 20000 in
theorem lwi6 : ∀ w ∈ wsL_law0_r7, w ∈ lw_tbl := sub_at [332, 334, 2, 335, 336, 338, 3, 339, 340, 342, 4, 343, 385, 348, 55, 349, 386, 344, 345, 54, 346, 347, 350, 351] (by decide +kernel)
set_option maxRecDepth 20000 in
theorem lwi7 : ∀ w ∈ wsL_law0_r8, w ∈ lw_tbl := sub_at [352, 353, 354, 355, 56, 356, 357, 861, 358, 372, 373, 374, 375, 376, 378, 379, 380, 381, 382, 384, 383, 57, 724, 725] (by decide +kernel)
set_option maxRecDepth 20000 in
theorem lwi8 : ∀ w ∈ wsL_law0_r9, w ∈ lw_tbl := sub_at [726, 727, 655, 654, 387, 388, 389, 390, 391, 392, 393, 394, 434, 435, 450, 454, 61, 395, 397, 5, 398, 399, 58, 299] (by decide +kernel)
set_option maxRecDepth 20000 in
theorem lwi9 : ∀ w ∈ wsL_law0_r10, w ∈ lw_tbl := sub_at [415, 416, 417, 418, 419, 420, 59, 421, 422, 423, 60, 424, 425, 426, 427, 428, 429, 431, 6, 432, 437, 439, 7, 440] (by decide +kernel)
set_option maxRecDepth 20000 in
theorem lwi10 : ∀ w ∈ wsL_law0_r11, w ∈ lw_tbl := sub_at [442, 444, 8, 445, 446, 448, 9, 449, 450, 453, 10, 455, 494, 497, 457, 459, 11, 460, 462, 464, 12, 465, 469, 13] (by decide +kernel)
set_option maxRecDepth 20000 in
theorem lwi11 : ∀ w ∈ wsL_law0_r12, w ∈ lw_tbl := sub_at [470, 473, 14, 474, 476, 478, 15, 479, 482, 16, 483, 486, 17, 487, 489, 490, 491, 492, 495, 510, 18, 511, 728, 729] (by decide +kernel)
set_option maxRecDepth 20000 in
theorem lwi12 : ∀ w ∈ wsL_law0_r13, w ∈ lw_tbl := sub_at [730, 731, 739, 740, 732, 734, 29, 735, 736, 737, 738, 741, 743, 30, 744, 745, 747, 31, 748, 749, 751, 32, 752, 753] (by decide +kernel)
set_option maxRecDepth 20000 in
theorem lwi13 : ∀ w ∈ wsL_law0_r14, w ∈ lw_tbl := sub_at [755, 33, 756, 757, 759, 34, 760, 667, 512, 513, 514, 515, 516, 517, 518, 519, 520, 522, 19, 523, 536, 62, 524, 526] (by decide +kernel)
set_option maxRecDepth 20000 in
theorem lwi14 : ∀ w ∈ wsL_law0_r15, w ∈ lw_tbl := sub_at [20, 527, 530, 21, 531, 534, 22, 535, 552, 554, 23, 555, 761, 762, 763, 764, 668, 765, 767, 35, 768, 556, 557, 558] (by decide +kernel)
set_option maxRecDepth 20000 in
theorem lwi15 : ∀ w ∈ wsL_law0_r16, w ∈ lw_tbl := sub_at [559, 560, 561, 562, 563, 565, 24, 566, 769, 770, 771, 772, 568, 569, 570, 571, 572, 573, 574, 773, 774, 775, 776, 777] (by decide +kernel)
set_option maxRecDepth 20000 in
theorem lwi16 : ∀ w ∈ wsL_law0_r17, w ∈ lw_tbl := sub_at [779, 36, 780, 781, 783, 37, 784, 575, 576, 577, 578, 579, 580, 581, 583, 585, 25, 586, 589, 26, 590, 785, 786, 787] (by decide +kernel)
set_option maxRecDepth 20000 in
theorem lwi17 : ∀ w ∈ wsL_law0_r18, w ∈ lw_tbl := sub_at [788, 789, 791, 38, 792, 591, 592, 593, 594, 595, 596, 597, 793, 794, 795, 796, 598, 599, 600, 601, 602, 603, 604, 797] (by decide +kernel)
set_option maxRecDepth 20000 in
theorem lwi18 : ∀ w ∈ wsL_law0_r19, w ∈ lw_tbl := sub_at [798, 799, 800, 169, 170, 171, 172, 801, 802, 803, 804, 173, 174, 175, 176, 805, 806, 807, 808, 605, 606, 607, 608, 609] (by decide +kernel)
set_option maxRecDepth 20000 in
theorem lwi19 : ∀ w ∈ wsL_law0_r20, w ∈ lw_tbl := sub_at [610, 611, 809, 810, 811, 812, 612, 613, 614, 615, 616, 617, 618, 813, 814, 815, 816, 619, 620, 621, 622, 623, 624, 625] (by decide +kernel)
set_option maxRecDepth 20000 in
theorem lwi20 : ∀ w ∈ wsL_law0_r21, w ∈ lw_tbl := sub_at [817, 818, 819, 820, 626, 627, 628, 629, 630, 631, 632, 633, 635, 27, 636, 821, 822, 823, 824, 825, 826, 827, 639, 640] (by decide +kernel)
set_option maxRecDepth 20000 in
theorem lwi21 : ∀ w ∈ wsL_law0_r22, w ∈ lw_tbl := sub_at [641, 642, 643, 644, 645, 828, 829, 830, 831, 181, 182, 183, 184, 832, 833, 834, 835, 185, 186, 187, 188, 836, 837, 838] (by decide +kernel)
set_option maxRecDepth 20000 in
theorem lwi22 : ∀ w ∈ wsL_law0_r23, w ∈ lw_tbl := sub_at [839, 193, 194, 195, 196, 840, 841, 842, 843] (by decide +kernel)
set_option maxRecDepth 20000 in
theorem lwi23 : ∀ w ∈ wsX50, w ∈ lw_tbl := sub_at [152, 154, 156, 158, 160, 162, 164, 166] (by decide +kernel)
set_option maxRecDepth 20000 in
theorem lwi24 : ∀ w ∈ wsX60, w ∈ lw_tbl := sub_at [670, 672, 674, 676, 678, 680, 682, 684, 686, 688, 690, 692, 694, 696, 698, 700, 702, 704] (by decide +kernel)
set_option maxRecDepth 20000 in
theorem lwi25 : ∀ w ∈ wsJx4a65c0, w ∈ lw_tbl := sub_at [98, 94, 96] (by decide +kernel)
set_option maxRecDepth 20000 in
theorem lwi26 : ∀ w ∈ wsX00, w ∈ lw_tbl := sub_at [126] (by decide +kernel)
set_option maxRecDepth 20000 in
theorem lwi27 : ∀ w ∈ wsX20, w ∈ lw_tbl := sub_at [139, 141] (by decide +kernel)
set_option maxRecDepth 20000 in
theorem lwi28 : ∀ w ∈ wsX30, w ∈ lw_tbl := sub_at [119, 121] (by decide +kernel)
set_option maxRecDepth 20000 in
theorem lwi29 : ∀ w ∈ wsX40, w ∈ lw_tbl := sub_at [317, 319, 321, 323, 325] (by decide +kernel)
set_option maxRecDepth 20000 in
theorem lwi30 : ∀ w ∈ wsX10, w ∈ lw_tbl := sub_at [499, 501, 503, 505] (by decide +kernel)
set_option maxRecDepth 20000 in
theorem lwi31 : ∀ w ∈ ((vx_atS RX5 52 "java/lang/IllegalArgumentException" ["java/lang/RuntimeException", "java/lang/Exception"]).filter goodWord), w ∈ lw_tbl := sub_at [48, 228, 237, 242, 245, 247, 229, 230, 69, 70, 231, 236, 243, 263, 218, 264, 220, 265, 222, 232, 234, 224, 259, 260, 262, 224, 250, 251, 252, 253, 253, 254, 255, 256, 256, 257, 258, 259, 249, 207, 215, 216, 217, 219, 221, 223, 227, 226, 225] (by decide +kernel)
set_option maxRecDepth 20000 in
theorem lwi32 : ∀ w ∈ ((vx_atS RX5 63 "java/lang/IllegalStateException" ["java/lang/RuntimeException", "java/lang/Exception"]).filter goodWord), w ∈ lw_tbl := sub_at [48, 228, 237, 242, 245, 247, 229, 230, 69, 70, 231, 236, 243, 263, 218, 264, 220, 265, 222, 232, 234, 224, 259, 260, 262, 224, 286, 287, 288, 253, 253, 254, 255, 256, 256, 257, 258, 259, 285, 276, 278, 239, 279, 280, 281, 282, 227, 226, 283] (by decide +kernel)
set_option maxRecDepth 20000 in
theorem lwi33 : ∀ w ∈ ((vx_atS RX5 193 "java/lang/IndexOutOfBoundsException" ["java/lang/RuntimeException", "java/lang/Exception"]).filter goodWord), w ∈ lw_tbl := sub_at [48, 228, 237, 242, 245, 247, 229, 230, 69, 70, 231, 236, 243, 263, 218, 264, 220, 265, 222, 232, 234, 224, 259, 260, 262, 224, 410, 411, 412, 253, 253, 254, 255, 256, 256, 257, 258, 259, 409, 400, 402, 240, 403, 404, 405, 406, 227, 226, 407] (by decide +kernel)
set_option maxRecDepth 20000 in
theorem lwi34 : ∀ w ∈ ((kWN RX5).filter goodWord), w ∈ lw_tbl := sub_at [48, 228, 237, 242, 245, 247, 229, 230, 69, 70, 231, 236, 243, 263, 218, 264, 220, 265, 222, 232, 234, 224, 259, 260, 262, 224, 547, 253, 253, 254, 255, 256, 256, 257, 258, 259, 546, 537, 539, 241, 540, 541, 542, 543, 227, 226, 544, 547, 548, 549, 253] (by decide +kernel)
theorem lwiR : ∀ w ∈ (wsL_law0_r1 ++ (wsL_law0_r2 ++ (wsL_law0_r3 ++ (wsL_law0_r4 ++ (wsL_law0_r5 ++ (wsL_law0_r6 ++ (wsL_law0_r7 ++ (wsL_law0_r8 ++ (wsL_law0_r9 ++ (wsL_law0_r10 ++ (wsL_law0_r11 ++ (wsL_law0_r12 ++ (wsL_law0_r13 ++ (wsL_law0_r14 ++ (wsL_law0_r15 ++ (wsL_law0_r16 ++ (wsL_law0_r17 ++ (wsL_law0_r18 ++ (wsL_law0_r19 ++ (wsL_law0_r20 ++ (wsL_law0_r21 ++ (wsL_law0_r22 ++ (wsL_law0_r23))))))))))))))))))))))), w ∈ lw_tbl := List.forall_mem_append.mpr ⟨lwi0, List.forall_mem_append.mpr ⟨lwi1, List.forall_mem_append.mpr ⟨lwi2, List.forall_mem_append.mpr ⟨lwi3, List.forall_mem_append.mpr ⟨lwi4, List.forall_mem_append.mpr ⟨lwi5, List.forall_mem_append.mpr ⟨lwi6, List.forall_mem_append.mpr ⟨lwi7, List.forall_mem_append.mpr ⟨lwi8, List.forall_mem_append.mpr ⟨lwi9, List.forall_mem_append.mpr ⟨lwi10, List.forall_mem_append.mpr ⟨lwi11, List.forall_mem_append.mpr ⟨lwi12, List.forall_mem_append.mpr ⟨lwi13, List.forall_mem_append.mpr ⟨lwi14, List.forall_mem_append.mpr ⟨lwi15, List.forall_mem_append.mpr ⟨lwi16, List.forall_mem_append.mpr ⟨lwi17, List.forall_mem_append.mpr ⟨lwi18, List.forall_mem_append.mpr ⟨lwi19, List.forall_mem_append.mpr ⟨lwi20, List.forall_mem_append.mpr ⟨lwi21, lwi22⟩⟩⟩⟩⟩⟩⟩⟩⟩⟩⟩⟩⟩⟩⟩⟩⟩⟩⟩⟩⟩⟩
theorem wsL_law_in0 : ∀ w ∈ wsL_law0, w ∈ lw_tbl := List.forall_mem_append.mpr ⟨List.forall_mem_append.mpr ⟨List.forall_mem_append.mpr ⟨List.forall_mem_append.mpr ⟨List.forall_mem_append.mpr ⟨List.forall_mem_append.mpr ⟨List.forall_mem_append.mpr ⟨List.forall_mem_append.mpr ⟨List.forall_mem_append.mpr ⟨lwiR, lwi23⟩, lwi24⟩, lwi25⟩, lwi26⟩, lwi27⟩, lwi28⟩, lwi29⟩, lwi30⟩, fun _ h => absurd h List.not_mem_nil⟩
theorem wsL_law_in : ∀ w ∈ wsL_law, w ∈ lw_tbl := List.forall_mem_append.mpr ⟨List.forall_mem_append.mpr ⟨List.forall_mem_append.mpr ⟨List.forall_mem_append.mpr ⟨wsL_law_in0, lwi31⟩, lwi32⟩, lwi33⟩, lwi34⟩
theorem inX5 : ∀ w ∈ wsX50, w ∈ lw_tbl := lwi23
theorem inX6 : ∀ w ∈ wsX60, w ∈ lw_tbl := lwi24
theorem inJx4a65c : ∀ w ∈ wsJx4a65c0, w ∈ lw_tbl := lwi25
theorem inX0 : ∀ w ∈ wsX00, w ∈ lw_tbl := lwi26
theorem inX2 : ∀ w ∈ wsX20, w ∈ lw_tbl := lwi27
theorem inX3 : ∀ w ∈ wsX30, w ∈ lw_tbl := lwi28
theorem inX4 : ∀ w ∈ wsX40, w ∈ lw_tbl := lwi29
theorem inX1 : ∀ w ∈ wsX10, w ∈ lw_tbl := lwi30
theorem inlX5 : ∀ w ∈ wsX50, w ∈ wsL_law := fun _ h => List.mem_append_left _ (List.mem_append_left _ (List.mem_append_left _ (List.mem_append_left _ (List.mem_append_left _ (List.mem_append_left _ (List.mem_append_left _ (List.mem_append_left _ (List.mem_append_left _ (List.mem_append_left _ (List.mem_append_left _ (List.mem_append_left _ (List.mem_append_right _ h))))))))))))
theorem inlX6 : ∀ w ∈ wsX60, w ∈ wsL_law := fun _ h => List.mem_append_left _ (List.mem_append_left _ (List.mem_append_left _ (List.mem_append_left _ (List.mem_append_left _ (List.mem_append_left _ (List.mem_append_left _ (List.mem_append_left _ (List.mem_append_left _ (List.mem_append_left _ (List.mem_append_left _ (List.mem_append_right _ h)))))))))))
