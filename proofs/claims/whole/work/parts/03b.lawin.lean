theorem in_of {big : List Cond} (ws : List Cond) (ps : List Nat) (hp : ws = ps.filterMap (fun i => big[i]?)) : ∀ w ∈ ws, w ∈ big := by
  intro w hw
  rw [hp] at hw
  obtain ⟨i, -, hi⟩ := List.mem_filterMap.mp hw
  first | exact List.mem_of_getElem? hi | exact List.getElem?_mem hi
set_option maxRecDepth 20000 in
theorem wsL_law0_r1_in : ∀ w ∈ wsL_law0_r1, w ∈ lw_tbl := in_of _ [64, 65, 51, 558, 559, 55, 807, 66, 67, 68, 69, 70, 71, 94, 96, 72, 73, 52, 97, 98, 99, 100, 101, 102] (by decide +kernel)
set_option maxRecDepth 20000 in
theorem wsL_law0_r2_in : ∀ w ∈ wsL_law0_r2, w ∈ lw_tbl := in_of _ [95, 103, 104, 105, 106, 107, 74, 75, 76, 77, 78, 79, 53, 80, 81, 82, 83, 87, 88, 84, 85, 54, 86, 560] (by decide +kernel)
set_option maxRecDepth 20000 in
theorem wsL_law0_r3_in : ∀ w ∈ wsL_law0_r3, w ∈ lw_tbl := in_of _ [561, 562, 563, 566, 567, 568, 569, 570, 571, 572, 574, 575, 576, 180, 181, 50, 182, 183, 184, 185, 186, 187, 188, 263] (by decide +kernel)
set_option maxRecDepth 20000 in
theorem wsL_law0_r4_in : ∀ w ∈ wsL_law0_r4, w ∈ lw_tbl := in_of _ [60, 189, 190, 191, 192, 193, 194, 195, 59, 137, 139, 0, 140, 141, 143, 1, 144, 279, 281, 8, 282, 283, 285, 9] (by decide +kernel)
set_option maxRecDepth 20000 in
theorem wsL_law0_r5_in : ∀ w ∈ wsL_law0_r5, w ∈ lw_tbl := in_of _ [286, 287, 288, 289, 290, 291, 292, 293, 294, 295, 296, 298, 10, 299, 608, 609, 610, 611, 564, 612, 613, 614, 615, 617] (by decide +kernel)
set_option maxRecDepth 20000 in
theorem wsL_law0_r6_in : ∀ w ∈ wsL_law0_r6, w ∈ lw_tbl := in_of _ [29, 618, 619, 621, 30, 622, 623, 625, 31, 626, 604, 605, 606, 607, 300, 301, 302, 303, 304, 305, 306, 308, 310, 11] (by decide +kernel)
set_option maxRecDepth 20000 in
theorem wsL_law0_r7_in : ∀ w ∈ wsL_law0_r7, w ∈ lw_tbl := in_of _ [311, 313, 315, 12, 316, 157, 159, 4, 160, 161, 162, 163, 164, 317, 318, 61, 319, 320, 322, 13, 323, 324, 325, 326] (by decide +kernel)
set_option maxRecDepth 20000 in
theorem wsL_law0_r8_in : ∀ w ∈ wsL_law0_r8, w ∈ lw_tbl := in_of _ [627, 628, 629, 630, 631, 633, 32, 634, 573, 635, 637, 33, 638, 639, 640, 641, 642, 643, 644, 645, 647, 34, 648, 649] (by decide +kernel)
set_option maxRecDepth 20000 in
theorem wsL_law0_r9_in : ∀ w ∈ wsL_law0_r9, w ∈ lw_tbl := in_of _ [650, 651, 327, 328, 329, 330, 331, 332, 333, 334, 336, 14, 337, 652, 653, 654, 655, 656, 658, 35, 659, 338, 339, 340] (by decide +kernel)
set_option maxRecDepth 20000 in
theorem wsL_law0_r10_in : ∀ w ∈ wsL_law0_r10, w ∈ lw_tbl := in_of _ [341, 342, 343, 344, 345, 347, 15, 348, 349, 351, 16, 352, 353, 355, 17, 356, 660, 661, 662, 663, 664, 666, 36, 667] (by decide +kernel)
set_option maxRecDepth 20000 in
theorem wsL_law0_r11_in : ∀ w ∈ wsL_law0_r11, w ∈ lw_tbl := in_of _ [668, 670, 37, 671, 133, 134, 135, 136, 672, 673, 674, 675, 357, 358, 359, 360, 361, 362, 363, 676, 677, 678, 679, 364] (by decide +kernel)
set_option maxRecDepth 20000 in
theorem wsL_law0_r12_in : ∀ w ∈ wsL_law0_r12, w ∈ lw_tbl := in_of _ [365, 366, 367, 368, 369, 370, 680, 681, 682, 683, 371, 372, 373, 374, 375, 376, 377, 684, 685, 686, 687, 378, 379, 380] (by decide +kernel)
set_option maxRecDepth 20000 in
theorem wsL_law0_r13_in : ∀ w ∈ wsL_law0_r13, w ∈ lw_tbl := in_of _ [381, 382, 383, 384, 688, 689, 690, 691, 385, 386, 387, 388, 389, 390, 391, 692, 693, 694, 695, 392, 393, 394, 395, 396] (by decide +kernel)
set_option maxRecDepth 20000 in
theorem wsL_law0_r14_in : ∀ w ∈ wsL_law0_r14, w ∈ lw_tbl := in_of _ [397, 398, 399, 401, 18, 402, 696, 697, 698, 699, 700, 702, 38, 703, 403, 404, 405, 406, 407, 408, 409, 410, 412, 19] (by decide +kernel)
set_option maxRecDepth 20000 in
theorem wsL_law0_r15_in : ∀ w ∈ wsL_law0_r15, w ∈ lw_tbl := in_of _ [413, 414, 416, 20, 417, 704, 705, 706, 707, 708, 710, 39, 711, 418, 419, 420, 421, 422, 423, 424, 425, 427, 21, 428] (by decide +kernel)
set_option maxRecDepth 20000 in
theorem wsL_law0_r16_in : ∀ w ∈ wsL_law0_r16, w ∈ lw_tbl := in_of _ [176, 177, 178, 179, 166, 167, 712, 713, 714, 715, 716, 718, 40, 719, 429, 430, 431, 432, 433, 434, 435, 436, 438, 22] (by decide +kernel)
set_option maxRecDepth 20000 in
theorem wsL_law0_r17_in : ∀ w ∈ wsL_law0_r17, w ∈ lw_tbl := in_of _ [439, 440, 442, 23, 443, 444, 446, 24, 447, 448, 450, 25, 451, 720, 721, 722, 723, 724, 726, 41, 727, 728, 730, 42] (by decide +kernel)
set_option maxRecDepth 20000 in
theorem wsL_law0_r18_in : ∀ w ∈ wsL_law0_r18, w ∈ lw_tbl := in_of _ [731, 452, 453, 454, 455, 456, 457, 458, 459, 461, 26, 462, 149, 151, 2, 152, 153, 155, 3, 156, 165, 168, 170, 5] (by decide +kernel)
set_option maxRecDepth 20000 in
theorem wsL_law0_r19_in : ∀ w ∈ wsL_law0_r19, w ∈ lw_tbl := in_of _ [171, 172, 174, 6, 175, 732, 733, 734, 735, 736, 738, 43, 739, 740, 742, 44, 743, 744, 746, 45, 747, 748, 750, 46] (by decide +kernel)
set_option maxRecDepth 20000 in
theorem wsL_law0_r20_in : ∀ w ∈ wsL_law0_r20, w ∈ lw_tbl := in_of _ [751, 752, 754, 47, 755, 463, 464, 465, 466, 467, 468, 469, 756, 757, 758, 759, 760, 762, 48, 763, 470, 471, 472, 473] (by decide +kernel)
set_option maxRecDepth 20000 in
theorem wsL_law0_r21_in : ∀ w ∈ wsL_law0_r21, w ∈ lw_tbl := in_of _ [474, 475, 476, 764, 765, 766, 767, 477, 478, 479, 480, 481, 482, 483, 484, 485, 62, 768, 769, 770, 771, 501, 502, 503] (by decide +kernel)
set_option maxRecDepth 20000 in
theorem wsL_law0_r22_in : ∀ w ∈ wsL_law0_r22, w ∈ lw_tbl := in_of _ [504, 505, 506, 507, 772, 773, 774, 775, 565, 508, 509, 510, 511, 512, 513, 514, 776, 777, 778, 779, 780, 782, 49, 783] (by decide +kernel)
set_option maxRecDepth 20000 in
theorem wsL_law0_r23_in : ∀ w ∈ wsL_law0_r23, w ∈ lw_tbl := in_of _ [515, 516, 517, 518, 519, 520, 521, 784, 785, 786, 787, 522, 523, 524, 525, 526, 527, 528, 788, 789, 790, 791, 529, 530] (by decide +kernel)
set_option maxRecDepth 20000 in
theorem wsL_law0_r24_in : ∀ w ∈ wsL_law0_r24, w ∈ lw_tbl := in_of _ [531, 532, 533, 534, 535, 792, 793, 794, 795, 145, 146, 147, 148, 796, 797, 798, 799, 536, 537, 538, 539, 540, 541, 542] (by decide +kernel)
set_option maxRecDepth 20000 in
theorem wsL_law0_r25_in : ∀ w ∈ wsL_law0_r25, w ∈ lw_tbl := in_of _ [543, 545, 27, 546, 547, 548, 549, 550, 551, 553, 552, 63, 554, 556, 28, 557, 800, 801, 802, 803, 804, 805, 806] (by decide +kernel)
theorem wl_x20 : ∀ w ∈ wsX20, w ∈ lw_tbl := by decide +kernel
theorem wl_x30 : ∀ w ∈ wsX30, w ∈ lw_tbl := by decide +kernel
theorem wl_x10 : ∀ w ∈ wsX10, w ∈ lw_tbl := by decide +kernel
set_option maxRecDepth 20000 in
theorem wsL_law_in0 : ∀ w ∈ wsL_law0, w ∈ lw_tbl := fun w h => (List.mem_append.mp h).elim (fun h => (List.mem_append.mp h).elim (fun h => (List.mem_append.mp h).elim (fun h => (List.mem_append.mp h).elim (fun h => (List.mem_append.mp h).elim (fun h => wsL_law0_r1_in w h) (fun h => (List.mem_append.mp h).elim (fun h => wsL_law0_r2_in w h) (fun h => (List.mem_append.mp h).elim (fun h => wsL_law0_r3_in w h) (fun h => (List.mem_append.mp h).elim (fun h => wsL_law0_r4_in w h) (fun h => (List.mem_append.mp h).elim (fun h => wsL_law0_r5_in w h) (fun h => (List.mem_append.mp h).elim (fun h => wsL_law0_r6_in w h) (fun h => (List.mem_append.mp h).elim (fun h => wsL_law0_r7_in w h) (fun h => (List.mem_append.mp h).elim (fun h => wsL_law0_r8_in w h) (fun h => (List.mem_append.mp h).elim (fun h => wsL_law0_r9_in w h) (fun h => (List.mem_append.mp h).elim (fun h => wsL_law0_r10_in w h) (fun h => (List.mem_append.mp h).elim (fun h => wsL_law0_r11_in w h) (fun h => (List.mem_append.mp h).elim (fun h => wsL_law0_r12_in w h) (fun h => (List.mem_append.mp h).elim (fun h => wsL_law0_r13_in w h) (fun h => (List.mem_append.mp h).elim (fun h => wsL_law0_r14_in w h) (fun h => (List.mem_append.mp h).elim (fun h => wsL_law0_r15_in w h) (fun h => (List.mem_append.mp h).elim (fun h => wsL_law0_r16_in w h) (fun h => (List.mem_append.mp h).elim (fun h => wsL_law0_r17_in w h) (fun h => (List.mem_append.mp h).elim (fun h => wsL_law0_r18_in w h) (fun h => (List.mem_append.mp h).elim (fun h => wsL_law0_r19_in w h) (fun h => (List.mem_append.mp h).elim (fun h => wsL_law0_r20_in w h) (fun h => (List.mem_append.mp h).elim (fun h => wsL_law0_r21_in w h) (fun h => (List.mem_append.mp h).elim (fun h => wsL_law0_r22_in w h) (fun h => (List.mem_append.mp h).elim (fun h => wsL_law0_r23_in w h) (fun h => (List.mem_append.mp h).elim (fun h => wsL_law0_r24_in w h) (fun h => wsL_law0_r25_in w h))))))))))))))))))))))))) (fun h => wl_x20 w h)) (fun h => wl_x30 w h)) (fun h => wl_x10 w h)) (fun h => absurd h List.not_mem_nil)
theorem wsL_law_x0 : ∀ w ∈ (vx_atS RX2 65 "java/lang/IllegalStateException" ["java/lang/RuntimeException", "java/lang/Exception"]).filter goodWord, w ∈ lw_tbl := by decide +kernel
theorem wsL_law_x1 : ∀ w ∈ (vx_atS RX2 146 "java/lang/IllegalArgumentException" ["java/lang/RuntimeException", "java/lang/Exception"]).filter goodWord, w ∈ lw_tbl := by decide +kernel
theorem wsL_law_x2 : ∀ w ∈ (vx_atS RX2 126 "java/lang/IndexOutOfBoundsException" ["java/lang/RuntimeException", "java/lang/Exception"]).filter goodWord, w ∈ lw_tbl := by decide +kernel
theorem wsL_law_in : ∀ w ∈ wsL_law, w ∈ lw_tbl := fun w h => (List.mem_append.mp h).elim (fun h => (List.mem_append.mp h).elim (fun h => (List.mem_append.mp h).elim (fun h => wsL_law_in0 w h) (fun h => wsL_law_x0 w h)) (fun h => wsL_law_x1 w h)) (fun h => wsL_law_x2 w h)
theorem inX0 : ∀ w ∈ wsX00, w ∈ lw_tbl := by decide +kernel
theorem inlX1 : ∀ w ∈ wsX10, w ∈ wsL_law := fun _ h => List.mem_append_left _ (List.mem_append_left _ (List.mem_append_left _ (List.mem_append_left _ (List.mem_append_right _ h))))
theorem inX1 : ∀ w ∈ wsX10, w ∈ lw_tbl := fun w h => wsL_law_in w (inlX1 w h)
theorem inlX2 : ∀ w ∈ wsX20, w ∈ wsL_law := fun _ h => List.mem_append_left _ (List.mem_append_left _ (List.mem_append_left _ (List.mem_append_left _ (List.mem_append_left _ (List.mem_append_left _ (List.mem_append_right _ h))))))
theorem inX2 : ∀ w ∈ wsX20, w ∈ lw_tbl := fun w h => wsL_law_in w (inlX2 w h)
theorem inlX3 : ∀ w ∈ wsX30, w ∈ wsL_law := fun _ h => List.mem_append_left _ (List.mem_append_left _ (List.mem_append_left _ (List.mem_append_left _ (List.mem_append_left _ (List.mem_append_right _ h)))))
theorem inX3 : ∀ w ∈ wsX30, w ∈ lw_tbl := fun w h => wsL_law_in w (inlX3 w h)
theorem inJx145de : ∀ w ∈ wsJx145de0, w ∈ lw_tbl := by decide +kernel
theorem inJ9 : ∀ w ∈ wsJ90, w ∈ lw_tbl := by decide +kernel
theorem inJ0 : ∀ w ∈ wsJ00, w ∈ lw_tbl := by decide +kernel
theorem inJ10 : ∀ w ∈ wsJ100, w ∈ lw_tbl := by decide +kernel
theorem inJ7 : ∀ w ∈ wsJ70, w ∈ lw_tbl := by decide +kernel
theorem dX0_onward_0 : decode cX0_onward 0 = .ok (.iload_n 0, 1) := by decide +kernel
theorem dX0_onward_1 : decode cX0_onward 1 = .ok (.iload_n 1, 1) := by decide +kernel
theorem dX0_onward_2 : decode cX0_onward 2 = .ok (.iadd, 1) := by decide +kernel
theorem dX0_onward_3 : decode cX0_onward 3 = .ok (.bipush 63, 2) := by decide +kernel
theorem dX0_onward_5 : decode cX0_onward 5 = .ok (.iand, 1) := by decide +kernel
theorem dX0_onward_6 : decode cX0_onward 6 = .ok (.ireturn, 1) := by decide +kernel
set_option maxRecDepth 20000 in
theorem ggX0_fingerStart_X0_onward : GoodIn wsX0_fingerStart wsX0_onward := goodIn_r _ [4] (by decide +kernel) (by decide +kernel)
set_option maxRecDepth 20000 in
theorem gX0_fingerStart_X0_onward : GoodIn wsX0_fingerStart (va_wsS RX0 11 yX0_onward wsX0_onward) := goodIn_app (goodIn_of _ (by decide +kernel)) ggX0_fingerStart_X0_onward
theorem dX0_fingerStart_0 : decode cX0_fingerStart 0 = .ok (.iload_n 0, 1) := by decide +kernel
theorem dX0_fingerStart_1 : decode cX0_fingerStart 1 = .ok (.iconst 1, 1) := by decide +kernel
theorem dX0_fingerStart_2 : decode cX0_fingerStart 2 = .ok (.iload_n 1, 1) := by decide +kernel
theorem dX0_fingerStart_3 : decode cX0_fingerStart 3 = .ok (.ishl, 1) := by decide +kernel
theorem dX0_fingerStart_4 : decode cX0_fingerStart 4 = .ok (.invokestatic 11, 3) := by decide +kernel
theorem dX0_fingerStart_7 : decode cX0_fingerStart 7 = .ok (.ireturn, 1) := by decide +kernel
theorem dX0_isUpTo_0 : decode cX0_isUpTo 0 = .ok (.iload_n 0, 1) := by decide +kernel
theorem dX0_isUpTo_1 : decode cX0_isUpTo 1 = .ok (.iload_n 1, 1) := by decide +kernel
theorem dX0_isUpTo_2 : decode cX0_isUpTo 2 = .ok (.isub, 1) := by decide +kernel
theorem dX0_isUpTo_3 : decode cX0_isUpTo 3 = .ok (.iconst 1, 1) := by decide +kernel
theorem dX0_isUpTo_4 : decode cX0_isUpTo 4 = .ok (.isub, 1) := by decide +kernel
theorem dX0_isUpTo_5 : decode cX0_isUpTo 5 = .ok (.bipush 63, 2) := by decide +kernel
theorem dX0_isUpTo_7 : decode cX0_isUpTo 7 = .ok (.iand, 1) := by decide +kernel
theorem dX0_isUpTo_8 : decode cX0_isUpTo 8 = .ok (.iload_n 2, 1) := by decide +kernel
theorem dX0_isUpTo_9 : decode cX0_isUpTo 9 = .ok (.iload_n 1, 1) := by decide +kernel
theorem dX0_isUpTo_10 : decode cX0_isUpTo 10 = .ok (.isub, 1) := by decide +kernel
theorem dX0_isUpTo_11 : decode cX0_isUpTo 11 = .ok (.iconst 1, 1) := by decide +kernel
theorem dX0_isUpTo_12 : decode cX0_isUpTo 12 = .ok (.isub, 1) := by decide +kernel
theorem dX0_isUpTo_13 : decode cX0_isUpTo 13 = .ok (.bipush 63, 2) := by decide +kernel
theorem dX0_isUpTo_15 : decode cX0_isUpTo 15 = .ok (.iand, 1) := by decide +kernel
theorem dX0_isUpTo_16 : decode cX0_isUpTo 16 = .ok (.if_icmp .gt 7, 3) := by decide +kernel
theorem dX0_isUpTo_19 : decode cX0_isUpTo 19 = .ok (.iconst 1, 1) := by decide +kernel
theorem dX0_isUpTo_20 : decode cX0_isUpTo 20 = .ok (.goto 4, 3) := by decide +kernel
theorem dX0_isUpTo_23 : decode cX0_isUpTo 23 = .ok (.iconst 0, 1) := by decide +kernel
theorem dX0_isUpTo_24 : decode cX0_isUpTo 24 = .ok (.ireturn, 1) := by decide +kernel
theorem dX0_isBetween_0 : decode cX0_isBetween 0 = .ok (.iload_n 0, 1) := by decide +kernel
theorem dX0_isBetween_1 : decode cX0_isBetween 1 = .ok (.iload_n 1, 1) := by decide +kernel
theorem dX0_isBetween_2 : decode cX0_isBetween 2 = .ok (.isub, 1) := by decide +kernel
theorem dX0_isBetween_3 : decode cX0_isBetween 3 = .ok (.iconst 1, 1) := by decide +kernel
theorem dX0_isBetween_4 : decode cX0_isBetween 4 = .ok (.isub, 1) := by decide +kernel
theorem dX0_isBetween_5 : decode cX0_isBetween 5 = .ok (.bipush 63, 2) := by decide +kernel
theorem dX0_isBetween_7 : decode cX0_isBetween 7 = .ok (.iand, 1) := by decide +kernel
theorem dX0_isBetween_8 : decode cX0_isBetween 8 = .ok (.iload_n 2, 1) := by decide +kernel
theorem dX0_isBetween_9 : decode cX0_isBetween 9 = .ok (.iload_n 1, 1) := by decide +kernel
theorem dX0_isBetween_10 : decode cX0_isBetween 10 = .ok (.isub, 1) := by decide +kernel
theorem dX0_isBetween_11 : decode cX0_isBetween 11 = .ok (.iconst 1, 1) := by decide +kernel
theorem dX0_isBetween_12 : decode cX0_isBetween 12 = .ok (.isub, 1) := by decide +kernel
theorem dX0_isBetween_13 : decode cX0_isBetween 13 = .ok (.bipush 63, 2) := by decide +kernel
theorem dX0_isBetween_15 : decode cX0_isBetween 15 = .ok (.iand, 1) := by decide +kernel
theorem dX0_isBetween_16 : decode cX0_isBetween 16 = .ok (.if_icmp .ge 7, 3) := by decide +kernel
theorem dX0_isBetween_19 : decode cX0_isBetween 19 = .ok (.iconst 1, 1) := by decide +kernel
theorem dX0_isBetween_20 : decode cX0_isBetween 20 = .ok (.goto 4, 3) := by decide +kernel
theorem dX0_isBetween_23 : decode cX0_isBetween 23 = .ok (.iconst 0, 1) := by decide +kernel
theorem dX0_isBetween_24 : decode cX0_isBetween 24 = .ok (.ireturn, 1) := by decide +kernel
set_option maxRecDepth 20000 in
theorem ggX1_init_J7_fill_53178 : GoodIn wsX1_init wsJ7_fill_53178 := goodIn_r _ [17] (by decide +kernel) (by decide +kernel)
set_option maxRecDepth 20000 in
theorem gX1_init_J7_fill_53178 : GoodIn wsX1_init (va_wsS RX1 28 yJ7_fill_53178 wsJ7_fill_53178) := goodIn_app (goodIn_of _ (by decide +kernel)) ggX1_init_J7_fill_53178
theorem dX1_init_0 : decode cX1_init 0 = .ok (.aload_n 0, 1) := by decide +kernel
theorem dX1_init_1 : decode cX1_init 1 = .ok (.invokespecial 3, 3) := by decide +kernel
theorem dX1_init_4 : decode cX1_init 4 = .ok (.aload_n 0, 1) := by decide +kernel
theorem dX1_init_5 : decode cX1_init 5 = .ok (.iconst 1, 1) := by decide +kernel
theorem dX1_init_6 : decode cX1_init 6 = .ok (.iload_n 1, 1) := by decide +kernel
theorem dX1_init_7 : decode cX1_init 7 = .ok (.bipush 64, 2) := by decide +kernel
theorem dX1_init_9 : decode cX1_init 9 = .ok (.invokestatic 9, 3) := by decide +kernel
theorem dX1_init_12 : decode cX1_init 12 = .ok (.invokestatic 15, 3) := by decide +kernel
theorem dX1_init_15 : decode cX1_init 15 = .ok (.putfield 18, 3) := by decide +kernel
theorem dX1_init_18 : decode cX1_init 18 = .ok (.aload_n 0, 1) := by decide +kernel
theorem dX1_init_19 : decode cX1_init 19 = .ok (.bipush 64, 2) := by decide +kernel
theorem dX1_init_21 : decode cX1_init 21 = .ok (.aload_n 0, 1) := by decide +kernel
theorem dX1_init_22 : decode cX1_init 22 = .ok (.getfield 18, 3) := by decide +kernel
theorem dX1_init_25 : decode cX1_init 25 = .ok (.imul, 1) := by decide +kernel
theorem dX1_init_26 : decode cX1_init 26 = .ok (.newarray .int, 2) := by decide +kernel
theorem dX1_init_28 : decode cX1_init 28 = .ok (.putfield 24, 3) := by decide +kernel
theorem dX1_init_31 : decode cX1_init 31 = .ok (.aload_n 0, 1) := by decide +kernel
theorem dX1_init_32 : decode cX1_init 32 = .ok (.getfield 24, 3) := by decide +kernel
theorem dX1_init_35 : decode cX1_init 35 = .ok (.iconst (-1), 1) := by decide +kernel
theorem dX1_init_36 : decode cX1_init 36 = .ok (.invokestatic 28, 3) := by decide +kernel
theorem dX1_init_39 : decode cX1_init 39 = .ok (.return_, 1) := by decide +kernel
theorem dX1_at_0 : decode cX1_at 0 = .ok (.iload_n 1, 1) := by decide +kernel
theorem dX1_at_1 : decode cX1_at 1 = .ok (.ifCond .lt 21, 3) := by decide +kernel
theorem dX1_at_4 : decode cX1_at 4 = .ok (.iload_n 1, 1) := by decide +kernel
theorem dX1_at_5 : decode cX1_at 5 = .ok (.bipush 64, 2) := by decide +kernel
theorem dX1_at_7 : decode cX1_at 7 = .ok (.if_icmp .ge 15, 3) := by decide +kernel
theorem dX1_at_10 : decode cX1_at 10 = .ok (.iload_n 2, 1) := by decide +kernel
theorem dX1_at_11 : decode cX1_at 11 = .ok (.ifCond .lt 11, 3) := by decide +kernel
theorem dX1_at_14 : decode cX1_at 14 = .ok (.iload_n 2, 1) := by decide +kernel
theorem dX1_at_15 : decode cX1_at 15 = .ok (.aload_n 0, 1) := by decide +kernel
theorem dX1_at_16 : decode cX1_at 16 = .ok (.getfield 18, 3) := by decide +kernel
theorem dX1_at_19 : decode cX1_at 19 = .ok (.if_icmp .lt 5, 3) := by decide +kernel
theorem dX1_at_22 : decode cX1_at 22 = .ok (.iconst (-1), 1) := by decide +kernel
theorem dX1_at_23 : decode cX1_at 23 = .ok (.ireturn, 1) := by decide +kernel
theorem dX1_at_24 : decode cX1_at 24 = .ok (.iload_n 1, 1) := by decide +kernel
theorem dX1_at_25 : decode cX1_at 25 = .ok (.aload_n 0, 1) := by decide +kernel
theorem dX1_at_26 : decode cX1_at 26 = .ok (.getfield 18, 3) := by decide +kernel
theorem dX1_at_29 : decode cX1_at 29 = .ok (.imul, 1) := by decide +kernel
theorem dX1_at_30 : decode cX1_at 30 = .ok (.iload_n 2, 1) := by decide +kernel
theorem dX1_at_31 : decode cX1_at 31 = .ok (.iadd, 1) := by decide +kernel
theorem dX1_at_32 : decode cX1_at 32 = .ok (.istore_n 3, 1) := by decide +kernel
theorem dX1_at_33 : decode cX1_at 33 = .ok (.iload_n 3, 1) := by decide +kernel
theorem dX1_at_34 : decode cX1_at 34 = .ok (.aload_n 0, 1) := by decide +kernel
theorem dX1_at_35 : decode cX1_at 35 = .ok (.getfield 24, 3) := by decide +kernel
theorem dX1_at_38 : decode cX1_at 38 = .ok (.arraylength, 1) := by decide +kernel
theorem dX1_at_39 : decode cX1_at 39 = .ok (.if_icmp .ge 12, 3) := by decide +kernel
theorem dX1_at_42 : decode cX1_at 42 = .ok (.aload_n 0, 1) := by decide +kernel
theorem dX1_at_43 : decode cX1_at 43 = .ok (.getfield 24, 3) := by decide +kernel
theorem dX1_at_46 : decode cX1_at 46 = .ok (.iload_n 3, 1) := by decide +kernel
theorem dX1_at_47 : decode cX1_at 47 = .ok (.iaload, 1) := by decide +kernel
theorem dX1_at_48 : decode cX1_at 48 = .ok (.goto 4, 3) := by decide +kernel
theorem dX1_at_51 : decode cX1_at 51 = .ok (.iconst (-1), 1) := by decide +kernel
theorem dX1_at_52 : decode cX1_at 52 = .ok (.ireturn, 1) := by decide +kernel
theorem dX1_set_0 : decode cX1_set 0 = .ok (.iload_n 1, 1) := by decide +kernel
theorem dX1_set_1 : decode cX1_set 1 = .ok (.ifCond .lt 21, 3) := by decide +kernel
theorem dX1_set_4 : decode cX1_set 4 = .ok (.iload_n 1, 1) := by decide +kernel
theorem dX1_set_5 : decode cX1_set 5 = .ok (.bipush 64, 2) := by decide +kernel
theorem dX1_set_7 : decode cX1_set 7 = .ok (.if_icmp .ge 15, 3) := by decide +kernel
theorem dX1_set_10 : decode cX1_set 10 = .ok (.iload_n 2, 1) := by decide +kernel
theorem dX1_set_11 : decode cX1_set 11 = .ok (.ifCond .lt 11, 3) := by decide +kernel
theorem dX1_set_14 : decode cX1_set 14 = .ok (.iload_n 2, 1) := by decide +kernel
theorem dX1_set_15 : decode cX1_set 15 = .ok (.aload_n 0, 1) := by decide +kernel
theorem dX1_set_16 : decode cX1_set 16 = .ok (.getfield 18, 3) := by decide +kernel
theorem dX1_set_19 : decode cX1_set 19 = .ok (.if_icmp .lt 4, 3) := by decide +kernel
theorem dX1_set_22 : decode cX1_set 22 = .ok (.return_, 1) := by decide +kernel
theorem dX1_set_23 : decode cX1_set 23 = .ok (.iload_n 1, 1) := by decide +kernel
theorem dX1_set_24 : decode cX1_set 24 = .ok (.aload_n 0, 1) := by decide +kernel
theorem dX1_set_25 : decode cX1_set 25 = .ok (.getfield 18, 3) := by decide +kernel
theorem dX1_set_28 : decode cX1_set 28 = .ok (.imul, 1) := by decide +kernel
theorem dX1_set_29 : decode cX1_set 29 = .ok (.iload_n 2, 1) := by decide +kernel
theorem dX1_set_30 : decode cX1_set 30 = .ok (.iadd, 1) := by decide +kernel
theorem dX1_set_31 : decode cX1_set 31 = .ok (.istore 4, 2) := by decide +kernel
theorem dX1_set_33 : decode cX1_set 33 = .ok (.iload 4, 2) := by decide +kernel
theorem dX1_set_35 : decode cX1_set 35 = .ok (.aload_n 0, 1) := by decide +kernel
theorem dX1_set_36 : decode cX1_set 36 = .ok (.getfield 24, 3) := by decide +kernel
theorem dX1_set_39 : decode cX1_set 39 = .ok (.arraylength, 1) := by decide +kernel
theorem dX1_set_40 : decode cX1_set 40 = .ok (.if_icmp .ge 11, 3) := by decide +kernel
theorem dX1_set_43 : decode cX1_set 43 = .ok (.aload_n 0, 1) := by decide +kernel
theorem dX1_set_44 : decode cX1_set 44 = .ok (.getfield 24, 3) := by decide +kernel
theorem dX1_set_47 : decode cX1_set 47 = .ok (.iload 4, 2) := by decide +kernel
theorem dX1_set_49 : decode cX1_set 49 = .ok (.iload_n 3, 1) := by decide +kernel
theorem dX1_set_50 : decode cX1_set 50 = .ok (.iastore, 1) := by decide +kernel
theorem dX1_set_51 : decode cX1_set 51 = .ok (.return_, 1) := by decide +kernel
set_option maxRecDepth 20000 in
theorem ggX1_clear_X1_set : GoodIn wsX1_clear wsX1_set := goodIn_r _ [6, 1, 7, 8, 9] (by decide +kernel) (by decide +kernel)
set_option maxRecDepth 20000 in
theorem gX1_clear_X1_set : GoodIn wsX1_clear (wsV RX1 34 RX1 yX1_set wsX1_set) := goodIn_app (goodIn_of _ (by decide +kernel)) ggX1_clear_X1_set
theorem dX1_clear_0 : decode cX1_clear 0 = .ok (.iconst 0, 1) := by decide +kernel
theorem dX1_clear_1 : decode cX1_clear 1 = .ok (.istore_n 2, 1) := by decide +kernel
theorem dX1_clear_2 : decode cX1_clear 2 = .ok (.iload_n 2, 1) := by decide +kernel
theorem dX1_clear_3 : decode cX1_clear 3 = .ok (.aload_n 0, 1) := by decide +kernel
theorem dX1_clear_4 : decode cX1_clear 4 = .ok (.getfield 18, 3) := by decide +kernel
theorem dX1_clear_7 : decode cX1_clear 7 = .ok (.if_icmp .ge 16, 3) := by decide +kernel
theorem dX1_clear_10 : decode cX1_clear 10 = .ok (.aload_n 0, 1) := by decide +kernel
theorem dX1_clear_11 : decode cX1_clear 11 = .ok (.iload_n 1, 1) := by decide +kernel
theorem dX1_clear_12 : decode cX1_clear 12 = .ok (.iload_n 2, 1) := by decide +kernel
theorem dX1_clear_13 : decode cX1_clear 13 = .ok (.iconst (-1), 1) := by decide +kernel
theorem dX1_clear_14 : decode cX1_clear 14 = .ok (.invokevirtual 34, 3) := by decide +kernel
theorem dX1_clear_17 : decode cX1_clear 17 = .ok (.iinc 2 1, 3) := by decide +kernel
theorem dX1_clear_20 : decode cX1_clear 20 = .ok (.goto (-18), 3) := by decide +kernel
theorem dX1_clear_23 : decode cX1_clear 23 = .ok (.return_, 1) := by decide +kernel
theorem dX1_copyFrom_0 : decode cX1_copyFrom 0 = .ok (.aload_n 1, 1) := by decide +kernel
theorem dX1_copyFrom_1 : decode cX1_copyFrom 1 = .ok (.ifnull 29, 3) := by decide +kernel
theorem dX1_copyFrom_4 : decode cX1_copyFrom 4 = .ok (.aload_n 1, 1) := by decide +kernel
theorem dX1_copyFrom_5 : decode cX1_copyFrom 5 = .ok (.getfield 24, 3) := by decide +kernel
theorem dX1_copyFrom_8 : decode cX1_copyFrom 8 = .ok (.iconst 0, 1) := by decide +kernel
theorem dX1_copyFrom_9 : decode cX1_copyFrom 9 = .ok (.aload_n 0, 1) := by decide +kernel
theorem dX1_copyFrom_10 : decode cX1_copyFrom 10 = .ok (.getfield 24, 3) := by decide +kernel
theorem dX1_copyFrom_13 : decode cX1_copyFrom 13 = .ok (.iconst 0, 1) := by decide +kernel
theorem dX1_copyFrom_14 : decode cX1_copyFrom 14 = .ok (.aload_n 1, 1) := by decide +kernel
theorem dX1_copyFrom_15 : decode cX1_copyFrom 15 = .ok (.getfield 24, 3) := by decide +kernel
theorem dX1_copyFrom_18 : decode cX1_copyFrom 18 = .ok (.arraylength, 1) := by decide +kernel
theorem dX1_copyFrom_19 : decode cX1_copyFrom 19 = .ok (.aload_n 0, 1) := by decide +kernel
theorem dX1_copyFrom_20 : decode cX1_copyFrom 20 = .ok (.getfield 24, 3) := by decide +kernel
theorem dX1_copyFrom_23 : decode cX1_copyFrom 23 = .ok (.arraylength, 1) := by decide +kernel
theorem dX1_copyFrom_24 : decode cX1_copyFrom 24 = .ok (.invokestatic 9, 3) := by decide +kernel
theorem dX1_copyFrom_27 : decode cX1_copyFrom 27 = .ok (.invokestatic 38, 3) := by decide +kernel
theorem dX1_copyFrom_30 : decode cX1_copyFrom 30 = .ok (.return_, 1) := by decide +kernel
