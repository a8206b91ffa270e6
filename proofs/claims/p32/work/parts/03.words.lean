/-! the words of the law among those of the tables, by their places (in the stead of one long row) -/
theorem mem_r {big : List Cond} (ws : List Cond) (ps : List Nat) (hp : ws = ps.filterMap (fun i => big[i]?)) : ∀ w ∈ ws, w ∈ big := by
  intro w hw
  rw [hp] at hw
  obtain ⟨i, -, hi⟩ := List.mem_filterMap.mp hw
  exact List.mem_of_getElem? hi
set_option maxRecDepth 20000 in
theorem wsL_law_m1 : ∀ w ∈ wsL_law0_r1, w ∈ lw_tbl := mem_r _ [24, 25, 9, 505, 26, 27, 28, 29, 30, 31, 32, 33, 10, 161, 66, 67, 14, 162, 98, 99, 15, 163, 112, 113] (by decide +kernel)
set_option maxRecDepth 20000 in
theorem wsL_law_m2 : ∀ w ∈ wsL_law0_r2, w ∈ lw_tbl := mem_r _ [16, 164, 142, 143, 17, 165, 159, 39, 11, 166, 167, 168, 34, 35, 36, 37, 38, 59, 60, 40, 41, 42, 43, 44] (by decide +kernel)
set_option maxRecDepth 20000 in
theorem wsL_law_m3 : ∀ w ∈ wsL_law0_r3, w ∈ lw_tbl := mem_r _ [45, 12, 46, 54, 50, 47, 48, 13, 49, 55, 56, 57, 58, 69, 70, 71, 72, 74, 76, 78, 80, 81, 83, 73] (by decide +kernel)
set_option maxRecDepth 20000 in
theorem wsL_law_m4 : ∀ w ∈ wsL_law0_r4, w ∈ lw_tbl := mem_r _ [100, 101, 102, 103, 111, 104, 105, 115, 116, 117, 118, 120, 121, 122, 124, 126, 128, 119, 145, 146, 147, 148, 150, 152] (by decide +kernel)
set_option maxRecDepth 20000 in
theorem wsL_law_m5 : ∀ w ∈ wsL_law0_r5, w ∈ lw_tbl := mem_r _ [149, 160, 186, 187, 8, 188, 193, 194, 195, 189, 190, 191, 192, 196, 197, 198, 199, 200, 201, 202, 203, 204, 205, 212] (by decide +kernel)
set_option maxRecDepth 20000 in
theorem wsL_law_m6 : ∀ w ∈ wsL_law0_r6, w ∈ lw_tbl := mem_r _ [21, 206, 207, 208, 209, 210, 211, 281, 282, 283, 284, 285, 286, 287, 288, 289, 290, 291, 292, 297, 22, 293, 294, 295] (by decide +kernel)
set_option maxRecDepth 20000 in
theorem wsL_law_m7 : ∀ w ∈ wsL_law0_r7, w ∈ lw_tbl := mem_r _ [296, 313, 314, 315, 316, 317, 318, 319, 320, 321, 322, 23, 338, 339, 340, 341, 342, 343, 344, 345, 346, 347, 348, 349] (by decide +kernel)
set_option maxRecDepth 20000 in
theorem wsL_law_m8 : ∀ w ∈ wsL_law0_r8, w ∈ lw_tbl := mem_r _ [350, 351, 352, 353, 354, 355, 356, 357, 358, 359, 360, 361, 362, 363, 364, 365, 366, 367, 368, 370, 371, 372, 373, 374] (by decide +kernel)
set_option maxRecDepth 20000 in
theorem wsL_law_m9 : ∀ w ∈ wsL_law0_r9, w ∈ lw_tbl := mem_r _ [376, 378, 1, 379, 380, 381, 382, 383, 384, 385, 386, 387, 392, 393, 394, 388, 390, 2, 391, 395, 397, 3, 398, 399] (by decide +kernel)
set_option maxRecDepth 20000 in
theorem wsL_law_m10 : ∀ w ∈ wsL_law0_r10, w ∈ lw_tbl := mem_r _ [400, 401, 402, 403, 404, 405, 406, 407, 408, 409, 410, 411, 412, 413, 414, 415, 416, 417, 418, 419, 420, 421, 422, 423] (by decide +kernel)
set_option maxRecDepth 20000 in
theorem wsL_law_m11 : ∀ w ∈ wsL_law0_r11, w ∈ lw_tbl := mem_r _ [424, 425, 426, 429, 430, 431, 432, 433, 434, 435, 436, 438, 439, 440, 441, 442, 443, 444, 445, 446, 447, 448, 449, 451] (by decide +kernel)
set_option maxRecDepth 20000 in
theorem wsL_law_m12 : ∀ w ∈ wsL_law0_r12, w ∈ lw_tbl := mem_r _ [452, 453, 454, 455, 457, 4, 458, 459, 460, 461, 462, 463, 464, 465, 466, 467, 469, 5, 470, 471, 472, 473, 474, 475] (by decide +kernel)
set_option maxRecDepth 20000 in
theorem wsL_law_m13 : ∀ w ∈ wsL_law0_r13, w ∈ lw_tbl := mem_r _ [477, 6, 478, 479, 480, 481, 482, 487, 483, 485, 7, 486, 488, 489, 490, 491, 492, 493, 494, 495, 496, 497, 498, 499] (by decide +kernel)
set_option maxRecDepth 20000 in
theorem wsL_law_m14 : ∀ w ∈ wsL_law0_r14, w ∈ lw_tbl := mem_r _ [500, 501, 502, 503, 506, 507, 508, 509, 510, 511, 512, 513, 514, 515, 516, 517, 519, 520, 521, 522, 523, 524, 525, 526] (by decide +kernel)
set_option maxRecDepth 20000 in
theorem wsL_law_m15 : ∀ w ∈ wsL_law0_r15, w ∈ lw_tbl := mem_r _ [527, 528, 529, 530, 531, 532, 533, 534, 535, 536, 537, 538, 539, 540, 541, 542, 543, 544, 545, 546, 547, 548, 549, 550] (by decide +kernel)
set_option maxRecDepth 20000 in
theorem wsL_law_m16 : ∀ w ∈ wsL_law0_r16, w ∈ lw_tbl := mem_r _ [551, 552, 553, 554, 555, 556, 557, 558, 559, 560, 561, 562, 563, 564, 565, 566, 567, 568, 569, 570, 571, 572, 573, 574] (by decide +kernel)
set_option maxRecDepth 20000 in
theorem wsL_law_m17 : ∀ w ∈ wsL_law0_r17, w ∈ lw_tbl := mem_r _ [575, 576, 577, 578, 579, 580, 581, 582, 583, 584, 585, 586, 587, 588, 589, 591, 592, 593, 594, 603, 604, 605, 606, 607] (by decide +kernel)
set_option maxRecDepth 20000 in
theorem wsL_law_m18 : ∀ w ∈ wsL_law0_r18, w ∈ lw_tbl := mem_r _ [608, 609, 610, 611, 612, 613, 614, 615, 616, 617, 618, 619, 620, 621, 622, 596, 597, 598, 599, 600, 601, 602, 624, 625] (by decide +kernel)
set_option maxRecDepth 20000 in
theorem wsL_law_m19 : ∀ w ∈ wsL_law0_r19, w ∈ lw_tbl := mem_r _ [626] (by decide +kernel)
set_option maxRecDepth 20000 in
theorem wsL_law_f6 : ∀ w ∈ wsX60, w ∈ lw_tbl := mem_r _ [169, 171, 173, 175, 177, 179, 181, 183] (by decide +kernel)
set_option maxRecDepth 20000 in
theorem wsL_law_f0 : ∀ w ∈ wsX00, w ∈ lw_tbl := mem_r _ [61, 63] (by decide +kernel)
set_option maxRecDepth 20000 in
theorem wsL_law_f2 : ∀ w ∈ wsX20, w ∈ lw_tbl := mem_r _ [85, 87, 89, 91, 93, 95] (by decide +kernel)
set_option maxRecDepth 20000 in
theorem wsL_law_f4 : ∀ w ∈ wsX40, w ∈ lw_tbl := mem_r _ [106, 108] (by decide +kernel)
set_option maxRecDepth 20000 in
theorem wsL_law_f3 : ∀ w ∈ wsX30, w ∈ lw_tbl := mem_r _ [129, 131, 133, 135, 137, 139] (by decide +kernel)
set_option maxRecDepth 20000 in
theorem wsL_law_f5 : ∀ w ∈ wsX50, w ∈ lw_tbl := mem_r _ [154, 156] (by decide +kernel)
set_option maxRecDepth 20000 in
theorem wsL_law_f1 : ∀ w ∈ wsX10, w ∈ lw_tbl := mem_r _ [51] (by decide +kernel)
theorem wsL_law_in0 : ∀ w ∈ wsL_law0, w ∈ lw_tbl := (fun w h => (List.mem_append.mp h).elim ((fun w h => (List.mem_append.mp h).elim ((fun w h => (List.mem_append.mp h).elim ((fun w h => (List.mem_append.mp h).elim ((fun w h => (List.mem_append.mp h).elim ((fun w h => (List.mem_append.mp h).elim ((fun w h => (List.mem_append.mp h).elim ((fun w h => (List.mem_append.mp h).elim ((fun w h => (List.mem_append.mp h).elim (wsL_law_m1 w) ((fun w h => (List.mem_append.mp h).elim (wsL_law_m2 w) ((fun w h => (List.mem_append.mp h).elim (wsL_law_m3 w) ((fun w h => (List.mem_append.mp h).elim (wsL_law_m4 w) ((fun w h => (List.mem_append.mp h).elim (wsL_law_m5 w) ((fun w h => (List.mem_append.mp h).elim (wsL_law_m6 w) ((fun w h => (List.mem_append.mp h).elim (wsL_law_m7 w) ((fun w h => (List.mem_append.mp h).elim (wsL_law_m8 w) ((fun w h => (List.mem_append.mp h).elim (wsL_law_m9 w) ((fun w h => (List.mem_append.mp h).elim (wsL_law_m10 w) ((fun w h => (List.mem_append.mp h).elim (wsL_law_m11 w) ((fun w h => (List.mem_append.mp h).elim (wsL_law_m12 w) ((fun w h => (List.mem_append.mp h).elim (wsL_law_m13 w) ((fun w h => (List.mem_append.mp h).elim (wsL_law_m14 w) ((fun w h => (List.mem_append.mp h).elim (wsL_law_m15 w) ((fun w h => (List.mem_append.mp h).elim (wsL_law_m16 w) ((fun w h => (List.mem_append.mp h).elim (wsL_law_m17 w) ((fun w h => (List.mem_append.mp h).elim (wsL_law_m18 w) ((wsL_law_m19) w)) w)) w)) w)) w)) w)) w)) w)) w)) w)) w)) w)) w)) w)) w)) w)) w)) w)) w) (wsL_law_f6 w)) w) (wsL_law_f0 w)) w) (wsL_law_f2 w)) w) (wsL_law_f4 w)) w) (wsL_law_f3 w)) w) (wsL_law_f5 w)) w) (wsL_law_f1 w)) w) (fun h => absurd h List.not_mem_nil))
theorem wsL_law_x0 : ∀ w ∈ (vx_atS RX6 74 "java/lang/IndexOutOfBoundsException" ["java/lang/RuntimeException", "java/lang/Exception"]).filter goodWord, w ∈ lw_tbl := by decide +kernel
theorem wsL_law_x1 : ∀ w ∈ (vx_atS RX6 100 "java/lang/IllegalStateException" ["java/lang/RuntimeException", "java/lang/Exception"]).filter goodWord, w ∈ lw_tbl := by decide +kernel
theorem wsL_law_x2 : ∀ w ∈ (vx_atS RX6 111 "java/lang/IllegalArgumentException" ["java/lang/RuntimeException", "java/lang/Exception"]).filter goodWord, w ∈ lw_tbl := by decide +kernel
theorem wsL_law_in : ∀ w ∈ wsL_law, w ∈ lw_tbl := fun w h => (List.mem_append.mp h).elim (fun h => (List.mem_append.mp h).elim (fun h => (List.mem_append.mp h).elim (fun h => wsL_law_in0 w h) (fun h => wsL_law_x0 w h)) (fun h => wsL_law_x1 w h)) (fun h => wsL_law_x2 w h)
theorem inlX0 : ∀ w ∈ wsX00, w ∈ wsL_law := fun _ h => List.mem_append_left _ (List.mem_append_left _ (List.mem_append_left _ (List.mem_append_left _ (List.mem_append_left _ (List.mem_append_left _ (List.mem_append_left _ (List.mem_append_left _ (List.mem_append_left _ (List.mem_append_right _ h)))))))))
theorem inX0 : ∀ w ∈ wsX00, w ∈ lw_tbl := fun w h => wsL_law_in w (inlX0 w h)
theorem inlX1 : ∀ w ∈ wsX10, w ∈ wsL_law := fun _ h => List.mem_append_left _ (List.mem_append_left _ (List.mem_append_left _ (List.mem_append_left _ (List.mem_append_right _ h))))
theorem inX1 : ∀ w ∈ wsX10, w ∈ lw_tbl := fun w h => wsL_law_in w (inlX1 w h)
theorem inlX2 : ∀ w ∈ wsX20, w ∈ wsL_law := fun _ h => List.mem_append_left _ (List.mem_append_left _ (List.mem_append_left _ (List.mem_append_left _ (List.mem_append_left _ (List.mem_append_left _ (List.mem_append_left _ (List.mem_append_left _ (List.mem_append_right _ h))))))))
theorem inX2 : ∀ w ∈ wsX20, w ∈ lw_tbl := fun w h => wsL_law_in w (inlX2 w h)
theorem inlX3 : ∀ w ∈ wsX30, w ∈ wsL_law := fun _ h => List.mem_append_left _ (List.mem_append_left _ (List.mem_append_left _ (List.mem_append_left _ (List.mem_append_left _ (List.mem_append_left _ (List.mem_append_right _ h))))))
theorem inX3 : ∀ w ∈ wsX30, w ∈ lw_tbl := fun w h => wsL_law_in w (inlX3 w h)
theorem inlX4 : ∀ w ∈ wsX40, w ∈ wsL_law := fun _ h => List.mem_append_left _ (List.mem_append_left _ (List.mem_append_left _ (List.mem_append_left _ (List.mem_append_left _ (List.mem_append_left _ (List.mem_append_left _ (List.mem_append_right _ h)))))))
theorem inX4 : ∀ w ∈ wsX40, w ∈ lw_tbl := fun w h => wsL_law_in w (inlX4 w h)
theorem inlX5 : ∀ w ∈ wsX50, w ∈ wsL_law := fun _ h => List.mem_append_left _ (List.mem_append_left _ (List.mem_append_left _ (List.mem_append_left _ (List.mem_append_left _ (List.mem_append_right _ h)))))
theorem inX5 : ∀ w ∈ wsX50, w ∈ lw_tbl := fun w h => wsL_law_in w (inlX5 w h)
theorem inlX6 : ∀ w ∈ wsX60, w ∈ wsL_law := fun _ h => List.mem_append_left _ (List.mem_append_left _ (List.mem_append_left _ (List.mem_append_left _ (List.mem_append_left _ (List.mem_append_left _ (List.mem_append_left _ (List.mem_append_left _ (List.mem_append_left _ (List.mem_append_left _ (List.mem_append_right _ h))))))))))
theorem inX6 : ∀ w ∈ wsX60, w ∈ lw_tbl := fun w h => wsL_law_in w (inlX6 w h)
theorem inX7 : ∀ w ∈ wsX70, w ∈ lw_tbl := by decide +kernel
theorem inJx145de : ∀ w ∈ wsJx145de0, w ∈ lw_tbl := by decide +kernel
theorem inJ9 : ∀ w ∈ wsJ90, w ∈ lw_tbl := by decide +kernel
theorem inJ0 : ∀ w ∈ wsJ00, w ∈ lw_tbl := by decide +kernel
theorem inJ7 : ∀ w ∈ wsJ70, w ∈ lw_tbl := by decide +kernel
