/-! the words of the law among those of the tables, by their places (in the stead of one long row) -/
theorem mem_r {big : List Cond} (ws : List Cond) (ps : List Nat) (hp : ws = ps.filterMap (fun i => big[i]?)) : ∀ w ∈ ws, w ∈ big := by
  intro w hw
  rw [hp] at hw
  obtain ⟨i, -, hi⟩ := List.mem_filterMap.mp hw
  exact List.mem_of_getElem? hi
set_option maxRecDepth 20000 in
theorem wsL_law_m1 : ∀ w ∈ wsL_law0_r1, w ∈ lw_tbl := mem_r _ [38, 39, 22, 668, 669, 31, 914, 40, 41, 42, 43, 44, 45, 46, 47, 23, 175, 80, 81, 27, 176, 112, 113, 28] (by decide +kernel)
set_option maxRecDepth 20000 in
theorem wsL_law_m2 : ∀ w ∈ wsL_law0_r2, w ∈ lw_tbl := mem_r _ [177, 126, 127, 29, 178, 156, 157, 30, 179, 173, 53, 24, 180, 181, 182, 48, 49, 50, 51, 52, 73, 74, 54, 55] (by decide +kernel)
set_option maxRecDepth 20000 in
theorem wsL_law_m3 : ∀ w ∈ wsL_law0_r3, w ∈ lw_tbl := mem_r _ [56, 57, 58, 59, 25, 60, 68, 64, 61, 62, 26, 63, 69, 70, 71, 72, 83, 84, 85, 86, 88, 90, 92, 94] (by decide +kernel)
set_option maxRecDepth 20000 in
theorem wsL_law_m4 : ∀ w ∈ wsL_law0_r4, w ∈ lw_tbl := mem_r _ [95, 97, 87, 114, 115, 116, 117, 125, 118, 119, 129, 130, 131, 132, 134, 135, 136, 138, 140, 142, 133, 159, 160, 161] (by decide +kernel)
set_option maxRecDepth 20000 in
theorem wsL_law_m5 : ∀ w ∈ wsL_law0_r5, w ∈ lw_tbl := mem_r _ [162, 164, 166, 163, 174, 670, 671, 672, 673, 675, 676, 677, 678, 679, 680, 681, 682, 687, 688, 689, 690, 692, 272, 273] (by decide +kernel)
set_option maxRecDepth 20000 in
theorem wsL_law_m6 : ∀ w ∈ wsL_law0_r6, w ∈ lw_tbl := mem_r _ [21, 274, 275, 276, 277, 278, 279, 286, 35, 280, 281, 282, 283, 284, 285, 355, 356, 357, 358, 359, 221, 222, 223, 739] (by decide +kernel)
set_option maxRecDepth 20000 in
theorem wsL_law_m7 : ∀ w ∈ wsL_law0_r7, w ∈ lw_tbl := mem_r _ [740, 741, 742, 743, 744, 745, 746, 747, 748, 749, 751, 8, 752, 674, 753, 755, 9, 756, 735, 736, 737, 738, 360, 361] (by decide +kernel)
set_option maxRecDepth 20000 in
theorem wsL_law_m8 : ∀ w ∈ wsL_law0_r8, w ∈ lw_tbl := mem_r _ [362, 363, 364, 365, 366, 367, 368, 369, 370, 371, 373, 2, 374, 757, 758, 759, 760, 761, 763, 10, 764, 377, 378, 379] (by decide +kernel)
set_option maxRecDepth 20000 in
theorem wsL_law_m9 : ∀ w ∈ wsL_law0_r9, w ∈ lw_tbl := mem_r _ [380, 381, 382, 383, 384, 385, 386, 387, 388, 389, 390, 391, 393, 3, 394, 765, 766, 767, 768, 769, 771, 11, 772, 395] (by decide +kernel)
set_option maxRecDepth 20000 in
theorem wsL_law_m10 : ∀ w ∈ wsL_law0_r10, w ∈ lw_tbl := mem_r _ [396, 397, 398, 399, 400, 401, 402, 403, 404, 405, 773, 774, 775, 776, 777, 779, 12, 780, 406, 407, 408, 409, 410, 411] (by decide +kernel)
set_option maxRecDepth 20000 in
theorem wsL_law_m11 : ∀ w ∈ wsL_law0_r11, w ∈ lw_tbl := mem_r _ [412, 413, 418, 36, 414, 415, 416, 417, 434, 435, 436, 437, 438, 781, 782, 783, 784, 683, 785, 787, 13, 788, 439, 440] (by decide +kernel)
set_option maxRecDepth 20000 in
theorem wsL_law_m12 : ∀ w ∈ wsL_law0_r12, w ∈ lw_tbl := mem_r _ [441, 442, 443, 444, 445, 446, 447, 37, 233, 234, 235, 236, 237, 238, 239, 240, 241, 242, 243, 244, 245, 463, 464, 465] (by decide +kernel)
set_option maxRecDepth 20000 in
theorem wsL_law_m13 : ∀ w ∈ wsL_law0_r13, w ∈ lw_tbl := mem_r _ [466, 467, 468, 469, 470, 471, 472, 473, 789, 790, 791, 792, 793, 795, 14, 796, 797, 799, 15, 800, 200, 201, 202, 203] (by decide +kernel)
set_option maxRecDepth 20000 in
theorem wsL_law_m14 : ∀ w ∈ wsL_law0_r14, w ∈ lw_tbl := mem_r _ [801, 802, 803, 804, 474, 475, 476, 477, 478, 479, 480, 482, 483, 484, 485, 220, 805, 806, 807, 808, 204, 205, 206, 207] (by decide +kernel)
set_option maxRecDepth 20000 in
theorem wsL_law_m15 : ∀ w ∈ wsL_law0_r15, w ∈ lw_tbl := mem_r _ [809, 810, 811, 812, 684, 486, 487, 488, 489, 490, 491, 492, 493, 494, 495, 498, 500, 4, 501, 502, 503, 504, 505, 506] (by decide +kernel)
set_option maxRecDepth 20000 in
theorem wsL_law_m16 : ∀ w ∈ wsL_law0_r16, w ∈ lw_tbl := mem_r _ [507, 508, 509, 510, 511, 512, 513, 514, 515, 516, 517, 518, 267, 519, 520, 521, 522, 523, 524, 525, 526, 527, 528, 813] (by decide +kernel)
set_option maxRecDepth 20000 in
theorem wsL_law_m17 : ∀ w ∈ wsL_law0_r17, w ∈ lw_tbl := mem_r _ [814, 815, 816, 685, 693, 817, 819, 16, 820, 529, 530, 531, 532, 533, 534, 535, 537, 538, 539, 540, 821, 822, 823, 824] (by decide +kernel)
set_option maxRecDepth 20000 in
theorem wsL_law_m18 : ∀ w ∈ wsL_law0_r18, w ∈ lw_tbl := mem_r _ [686, 208, 209, 210, 211, 212, 213, 214, 215, 224, 216, 218, 0, 219, 825, 826, 827, 828, 829, 831, 17, 832, 833, 225] (by decide +kernel)
set_option maxRecDepth 20000 in
theorem wsL_law_m19 : ∀ w ∈ wsL_law0_r19, w ∈ lw_tbl := mem_r _ [226, 227, 228, 834, 835, 836, 837, 541, 542, 543, 544, 545, 546, 547, 548, 549, 550, 551, 553, 554, 555, 556, 557, 559] (by decide +kernel)
set_option maxRecDepth 20000 in
theorem wsL_law_m20 : ∀ w ∈ wsL_law0_r20, w ∈ lw_tbl := mem_r _ [5, 560, 561, 562, 563, 564, 565, 566, 567, 568, 569, 571, 6, 572, 573, 574, 575, 576, 577, 579, 7, 580, 581, 582] (by decide +kernel)
set_option maxRecDepth 20000 in
theorem wsL_law_m21 : ∀ w ∈ wsL_law0_r21, w ∈ lw_tbl := mem_r _ [583, 584, 585, 586, 587, 588, 589, 838, 839, 840, 841, 691, 842, 844, 18, 845, 846, 848, 19, 849, 850, 852, 20, 853] (by decide +kernel)
set_option maxRecDepth 20000 in
theorem wsL_law_m22 : ∀ w ∈ wsL_law0_r22, w ∈ lw_tbl := mem_r _ [590, 591, 592, 593, 594, 595, 596, 597, 854, 855, 856, 857, 598, 599, 600, 601, 602, 603, 604, 858, 859, 860, 861, 605] (by decide +kernel)
set_option maxRecDepth 20000 in
theorem wsL_law_m23 : ∀ w ∈ wsL_law0_r23, w ∈ lw_tbl := mem_r _ [606, 607, 608, 609, 610, 611, 862, 863, 864, 865, 612, 613, 614, 615, 616, 617, 618, 619, 866, 867, 868, 869, 620, 621] (by decide +kernel)
set_option maxRecDepth 20000 in
theorem wsL_law_m24 : ∀ w ∈ wsL_law0_r24, w ∈ lw_tbl := mem_r _ [622, 623, 624, 625, 626, 870, 871, 872, 873, 628, 629, 630, 631, 632, 633, 634, 874, 875, 876, 877, 636, 637, 638, 639] (by decide +kernel)
set_option maxRecDepth 20000 in
theorem wsL_law_m25 : ∀ w ∈ wsL_law0_r25, w ∈ lw_tbl := mem_r _ [640, 641, 642, 878, 879, 880, 881, 644, 645, 646, 647, 648, 649, 650, 651, 882, 883, 884, 885, 652, 653, 654, 655, 656] (by decide +kernel)
set_option maxRecDepth 20000 in
theorem wsL_law_m26 : ∀ w ∈ wsL_law0_r26, w ∈ lw_tbl := mem_r _ [657, 658, 659, 886, 887, 888, 889, 229, 230, 231, 232, 890, 891, 892, 893, 246, 247, 248, 249, 894, 895, 896, 897, 660] (by decide +kernel)
set_option maxRecDepth 20000 in
theorem wsL_law_m27 : ∀ w ∈ wsL_law0_r27, w ∈ lw_tbl := mem_r _ [661, 662, 663, 664, 665, 666, 898, 899, 900, 901, 250, 251, 252, 253, 254, 255, 256, 257, 258, 902, 903, 904, 905, 259] (by decide +kernel)
set_option maxRecDepth 20000 in
theorem wsL_law_m28 : ∀ w ∈ wsL_law0_r28, w ∈ lw_tbl := mem_r _ [260, 261, 262, 263, 264, 265, 266, 906, 907, 908, 909, 268, 269, 270, 271, 910, 911, 912, 913] (by decide +kernel)
set_option maxRecDepth 20000 in
theorem wsL_law_f6 : ∀ w ∈ wsX60, w ∈ lw_tbl := mem_r _ [183, 185, 187, 189, 191, 193, 195, 197] (by decide +kernel)
set_option maxRecDepth 20000 in
theorem wsL_law_f7 : ∀ w ∈ wsX70, w ∈ lw_tbl := mem_r _ [694, 696, 698, 700, 702, 704, 706, 708, 710, 712, 714, 716, 718, 720, 722, 724, 726, 728, 730, 732] (by decide +kernel)
set_option maxRecDepth 20000 in
theorem wsL_law_f0 : ∀ w ∈ wsX00, w ∈ lw_tbl := mem_r _ [75, 77] (by decide +kernel)
set_option maxRecDepth 20000 in
theorem wsL_law_f2 : ∀ w ∈ wsX20, w ∈ lw_tbl := mem_r _ [99, 101, 103, 105, 107, 109] (by decide +kernel)
set_option maxRecDepth 20000 in
theorem wsL_law_f4 : ∀ w ∈ wsX40, w ∈ lw_tbl := mem_r _ [120, 122] (by decide +kernel)
set_option maxRecDepth 20000 in
theorem wsL_law_f3 : ∀ w ∈ wsX30, w ∈ lw_tbl := mem_r _ [143, 145, 147, 149, 151, 153] (by decide +kernel)
set_option maxRecDepth 20000 in
theorem wsL_law_f5 : ∀ w ∈ wsX50, w ∈ lw_tbl := mem_r _ [168, 170] (by decide +kernel)
set_option maxRecDepth 20000 in
theorem wsL_law_f1 : ∀ w ∈ wsX10, w ∈ lw_tbl := mem_r _ [65] (by decide +kernel)
theorem wsL_law_in0 : ∀ w ∈ wsL_law0, w ∈ lw_tbl := (fun w h => (List.mem_append.mp h).elim ((fun w h => (List.mem_append.mp h).elim ((fun w h => (List.mem_append.mp h).elim ((fun w h => (List.mem_append.mp h).elim ((fun w h => (List.mem_append.mp h).elim ((fun w h => (List.mem_append.mp h).elim ((fun w h => (List.mem_append.mp h).elim ((fun w h => (List.mem_append.mp h).elim ((fun w h => (List.mem_append.mp h).elim ((fun w h => (List.mem_append.mp h).elim (wsL_law_m1 w) ((fun w h => (List.mem_append.mp h).elim (wsL_law_m2 w) ((fun w h => (List.mem_append.mp h).elim (wsL_law_m3 w) ((fun w h => (List.mem_append.mp h).elim (wsL_law_m4 w) ((fun w h => (List.mem_append.mp h).elim (wsL_law_m5 w) ((fun w h => (List.mem_append.mp h).elim (wsL_law_m6 w) ((fun w h => (List.mem_append.mp h).elim (wsL_law_m7 w) ((fun w h => (List.mem_append.mp h).elim (wsL_law_m8 w) ((fun w h => (List.mem_append.mp h).elim (wsL_law_m9 w) ((fun w h => (List.mem_append.mp h).elim (wsL_law_m10 w) ((fun w h => (List.mem_append.mp h).elim (wsL_law_m11 w) ((fun w h => (List.mem_append.mp h).elim (wsL_law_m12 w) ((fun w h => (List.mem_append.mp h).elim (wsL_law_m13 w) ((fun w h => (List.mem_append.mp h).elim (wsL_law_m14 w) ((fun w h => (List.mem_append.mp h).elim (wsL_law_m15 w) ((fun w h => (List.mem_append.mp h).elim (wsL_law_m16 w) ((fun w h => (List.mem_append.mp h).elim (wsL_law_m17 w) ((fun w h => (List.mem_append.mp h).elim (wsL_law_m18 w) ((fun w h => (List.mem_append.mp h).elim (wsL_law_m19 w) ((fun w h => (List.mem_append.mp h).elim (wsL_law_m20 w) ((fun w h => (List.mem_append.mp h).elim (wsL_law_m21 w) ((fun w h => (List.mem_append.mp h).elim (wsL_law_m22 w) ((fun w h => (List.mem_append.mp h).elim (wsL_law_m23 w) ((fun w h => (List.mem_append.mp h).elim (wsL_law_m24 w) ((fun w h => (List.mem_append.mp h).elim (wsL_law_m25 w) ((fun w h => (List.mem_append.mp h).elim (wsL_law_m26 w) ((fun w h => (List.mem_append.mp h).elim (wsL_law_m27 w) ((wsL_law_m28) w)) w)) w)) w)) w)) w)) w)) w)) w)) w)) w)) w)) w)) w)) w)) w)) w)) w)) w)) w)) w)) w)) w)) w)) w)) w)) w)) w) (wsL_law_f6 w)) w) (wsL_law_f7 w)) w) (wsL_law_f0 w)) w) (wsL_law_f2 w)) w) (wsL_law_f4 w)) w) (wsL_law_f3 w)) w) (wsL_law_f5 w)) w) (wsL_law_f1 w)) w) (fun h => absurd h List.not_mem_nil))
theorem wsL_law_x0 : ∀ w ∈ (vx_atS RX6 74 "java/lang/IndexOutOfBoundsException" ["java/lang/RuntimeException", "java/lang/Exception"]).filter goodWord, w ∈ lw_tbl := by decide +kernel
theorem wsL_law_x1 : ∀ w ∈ (vx_atS RX6 100 "java/lang/IllegalStateException" ["java/lang/RuntimeException", "java/lang/Exception"]).filter goodWord, w ∈ lw_tbl := by decide +kernel
theorem wsL_law_x2 : ∀ w ∈ (vx_atS RX6 111 "java/lang/IllegalArgumentException" ["java/lang/RuntimeException", "java/lang/Exception"]).filter goodWord, w ∈ lw_tbl := by decide +kernel
theorem wsL_law_in : ∀ w ∈ wsL_law, w ∈ lw_tbl := fun w h => (List.mem_append.mp h).elim (fun h => (List.mem_append.mp h).elim (fun h => (List.mem_append.mp h).elim (fun h => wsL_law_in0 w h) (fun h => wsL_law_x0 w h)) (fun h => wsL_law_x1 w h)) (fun h => wsL_law_x2 w h)
theorem inlX0 : ∀ w ∈ wsX00, w ∈ wsL_law := fun _ h => List.mem_append_left _ (List.mem_append_left _ (List.mem_append_left _ (List.mem_append_left _ (List.mem_append_left _ (List.mem_append_left _ (List.mem_append_left _ (List.mem_append_left _ (List.mem_append_left _ (List.mem_append_right _ h)))))))))
theorem inX0 : ∀ w ∈ wsX00, w ∈ lw_tbl := fun w h => wsL_law_in w (inlX0 w h)
theorem inlX1 : ∀ w ∈ wsX10, w ∈ wsL_law := fun _ h => List.mem_append_left _ (List.mem_append_left _ (List.mem_append_left _ (List.mem_append_left _ (List.mem_append_right _ h))))
theorem inX1 : ∀ w ∈ wsX10, w ∈ lw_tbl := fun w h => wsL_law_in w (inlX1 w h)
theorem inlX2 : ∀ w ∈ wsX20, w ∈ wsL_law := fun _ h => List.mem_append_left _ (List.mem_append_left _ (List.mem_append_left _ (List.mem_append_left _ (List.mem_append_left _ (List.mem_append_left _ (List.mem_append_left _ (List.mem_append_left _ (List.mem_append_right _ h))))))))
theorem inX2 : ∀ w ∈ wsX20, w ∈ lw_tbl := fun w h => wsL_law_in w (inlX2 w h)
theorem inlX3 : ∀ w ∈ wsX30, w ∈ wsL_law := fun _ h => List.mem_append_left _ (List.mem_append_left _ (List.mem_append_left _ (List.mem_append_left _ (List.mem_append_left _ (List.mem_append_left _ (List.mem_append_right _ h))))))
theorem inX3 : ∀ w ∈ wsX30, w ∈ lw_tbl := fun w h => wsL_law_in w (inlX3 w h)
theorem inlX4 : ∀ w ∈ wsX40, w ∈ wsL_law := fun _ h => List.mem_append_left _ (List.mem_append_left _ (List.mem_append_left _ (List.mem_append_left _ (List.mem_append_left _ (List.mem_append_left _ (List.mem_append_left _ (List.mem_append_right _ h)))))))
theorem inX4 : ∀ w ∈ wsX40, w ∈ lw_tbl := fun w h => wsL_law_in w (inlX4 w h)
theorem inlX5 : ∀ w ∈ wsX50, w ∈ wsL_law := fun _ h => List.mem_append_left _ (List.mem_append_left _ (List.mem_append_left _ (List.mem_append_left _ (List.mem_append_left _ (List.mem_append_right _ h)))))
theorem inX5 : ∀ w ∈ wsX50, w ∈ lw_tbl := fun w h => wsL_law_in w (inlX5 w h)
theorem inlX6 : ∀ w ∈ wsX60, w ∈ wsL_law := fun _ h => List.mem_append_left _ (List.mem_append_left _ (List.mem_append_left _ (List.mem_append_left _ (List.mem_append_left _ (List.mem_append_left _ (List.mem_append_left _ (List.mem_append_left _ (List.mem_append_left _ (List.mem_append_left _ (List.mem_append_left _ (List.mem_append_right _ h)))))))))))
theorem inX6 : ∀ w ∈ wsX60, w ∈ lw_tbl := fun w h => wsL_law_in w (inlX6 w h)
theorem inlX7 : ∀ w ∈ wsX70, w ∈ wsL_law := fun _ h => List.mem_append_left _ (List.mem_append_left _ (List.mem_append_left _ (List.mem_append_left _ (List.mem_append_left _ (List.mem_append_left _ (List.mem_append_left _ (List.mem_append_left _ (List.mem_append_left _ (List.mem_append_left _ (List.mem_append_right _ h))))))))))
theorem inX7 : ∀ w ∈ wsX70, w ∈ lw_tbl := fun w h => wsL_law_in w (inlX7 w h)
theorem inJx145de : ∀ w ∈ wsJx145de0, w ∈ lw_tbl := by decide +kernel
theorem inJ9 : ∀ w ∈ wsJ90, w ∈ lw_tbl := by decide +kernel
theorem inJ0 : ∀ w ∈ wsJ00, w ∈ lw_tbl := by decide +kernel
theorem inJ7 : ∀ w ∈ wsJ70, w ∈ lw_tbl := by decide +kernel
