theorem mem_pl {big : List Cond} {ws : List Cond} (ps : List Nat) (hp : ws = ps.filterMap (fun i => big[i]?)) : ∀ w ∈ ws, w ∈ big := by
  intro w hw
  rw [hp] at hw
  obtain ⟨i, -, hi⟩ := List.mem_filterMap.mp hw
  exact List.mem_of_getElem? hi
set_option maxRecDepth 20000 in
theorem lwm_1 : ∀ w ∈ wsL_law0_r1, w ∈ lw_tbl := mem_pl [44, 45, 32, 261, 46, 47, 48, 49, 50, 51, 52, 53, 33, 100, 69, 101, 102, 68, 103, 104, 105, 106, 71, 72] rfl
set_option maxRecDepth 20000 in
theorem lwm_2 : ∀ w ∈ wsL_law0_r2, w ∈ lw_tbl := mem_pl [34, 107, 108, 109, 84, 86, 35, 110, 111, 112, 113, 114, 115, 55, 56, 57, 58, 59, 60, 74, 75, 76, 77, 78] rfl
set_option maxRecDepth 20000 in
theorem lwm_3 : ∀ w ∈ wsL_law0_r3, w ∈ lw_tbl := mem_pl [88, 89, 90, 91, 93, 149, 150, 31, 151, 156, 157, 158, 152, 153, 154, 155, 159, 160, 161, 162, 163, 164, 165, 166] rfl
set_option maxRecDepth 20000 in
theorem lwm_4 : ∀ w ∈ wsL_law0_r4, w ∈ lw_tbl := mem_pl [167, 171, 39, 239, 40, 168, 169, 170, 258, 1, 259, 262, 263, 264, 265, 266, 267, 268, 269, 282, 41, 270, 271, 272] rfl
set_option maxRecDepth 20000 in
theorem lwm_5 : ∀ w ∈ wsL_law0_r5, w ∈ lw_tbl := mem_pl [277, 2, 278, 279, 280, 281, 300, 3, 301, 302, 303, 304, 305, 306, 307, 308, 309, 312, 313, 314, 315, 316, 317, 318] rfl
set_option maxRecDepth 20000 in
theorem lwm_6 : ∀ w ∈ wsL_law0_r6, w ∈ lw_tbl := mem_pl [327, 42, 320, 321, 322, 329, 330, 331, 332, 334, 336, 338, 340, 342, 344, 372, 373, 374, 375, 376, 377, 378, 379, 381] rfl
set_option maxRecDepth 20000 in
theorem lwm_7 : ∀ w ∈ wsL_law0_r7, w ∈ lw_tbl := mem_pl [4, 382, 385, 386, 387, 388, 389, 390, 391, 392, 394, 5, 395, 396, 398, 6, 399, 401, 402, 403, 404, 405, 406, 407] rfl
set_option maxRecDepth 20000 in
theorem lwm_8 : ∀ w ∈ wsL_law0_r8, w ∈ lw_tbl := mem_pl [408, 409, 410, 411, 412, 413, 414, 415, 416, 417, 418, 419, 420, 421, 422, 424, 425, 426, 427, 428, 429, 430, 432, 434] rfl
set_option maxRecDepth 20000 in
theorem lwm_9 : ∀ w ∈ wsL_law0_r9, w ∈ lw_tbl := mem_pl [7, 435, 438, 8, 439, 440, 441, 442, 443, 444, 445, 446, 447, 449, 9, 450, 451, 453, 10, 454, 455, 457, 11, 458] rfl
set_option maxRecDepth 20000 in
theorem lwm_10 : ∀ w ∈ wsL_law0_r10, w ∈ lw_tbl := mem_pl [461, 12, 462, 463, 464, 467, 13, 468, 469, 470, 471, 472, 473, 474, 475, 476, 478, 14, 479, 480, 481, 482, 483, 484] rfl
set_option maxRecDepth 20000 in
theorem lwm_11 : ∀ w ∈ wsL_law0_r11, w ∈ lw_tbl := mem_pl [485, 486, 487, 489, 15, 490, 493, 16, 494, 346, 348, 495, 496, 497, 498, 499, 500, 501, 502, 503, 504, 505, 506, 507] rfl
set_option maxRecDepth 20000 in
theorem lwm_12 : ∀ w ∈ wsL_law0_r12, w ∈ lw_tbl := mem_pl [508, 509, 511, 17, 512, 514, 516, 18, 517, 520, 19, 521, 522, 523, 524, 528, 20, 529, 530, 531, 532, 533, 534, 536] rfl
set_option maxRecDepth 20000 in
theorem lwm_13 : ∀ w ∈ wsL_law0_r13, w ∈ lw_tbl := mem_pl [21, 537, 538, 539, 43, 540, 541, 542, 543, 546, 22, 547, 548, 549, 550, 551, 552, 553, 554, 555, 556, 557, 558, 559] rfl
set_option maxRecDepth 20000 in
theorem lwm_14 : ∀ w ∈ wsL_law0_r14, w ∈ lw_tbl := mem_pl [560, 562, 23, 563, 564, 566, 24, 567, 570, 25, 571, 572, 573, 574, 575, 576, 577, 578, 581, 582, 583, 584, 585, 586] rfl
set_option maxRecDepth 20000 in
theorem lwm_15 : ∀ w ∈ wsL_law0_r15, w ∈ lw_tbl := mem_pl [587, 589, 590, 591, 592, 593, 594, 595, 596, 598, 26, 599, 602, 603, 604, 605, 606, 607, 608, 610, 611, 612, 613, 614] rfl
set_option maxRecDepth 20000 in
theorem lwm_16 : ∀ w ∈ wsL_law0_r16, w ∈ lw_tbl := mem_pl [615, 616, 617, 618, 619, 620, 621, 622, 623, 624, 626, 27, 627, 628, 629, 630, 631, 632, 633, 634, 637, 638, 640, 28] rfl
set_option maxRecDepth 20000 in
theorem lwm_17 : ∀ w ∈ wsL_law0_r17, w ∈ lw_tbl := mem_pl [641, 642, 644, 29, 645, 646, 648, 30, 649, 650, 651, 652, 653, 654, 655, 656, 657, 658, 659] rfl
set_option maxRecDepth 20000 in
theorem lwf_X4 : ∀ w ∈ wsX40, w ∈ lw_tbl := mem_pl [116, 118, 120, 122, 124, 126, 128, 130, 132, 134, 136, 138, 140, 142, 144, 146] rfl
set_option maxRecDepth 20000 in
theorem lwf_X2 : ∀ w ∈ wsX20, w ∈ lw_tbl := mem_pl [61, 63, 65] rfl
set_option maxRecDepth 20000 in
theorem lwf_X3 : ∀ w ∈ wsX30, w ∈ lw_tbl := mem_pl [79, 81] rfl
set_option maxRecDepth 20000 in
theorem lwf_X1 : ∀ w ∈ wsX10, w ∈ lw_tbl := mem_pl [95, 97] rfl
set_option maxRecDepth 20000 in
theorem lwf_X0 : ∀ w ∈ wsX00, w ∈ lw_tbl := mem_pl [351, 353, 355, 357, 359, 361, 363, 365, 367, 369] rfl
theorem mem_two {big a b : List Cond} (ha : ∀ w ∈ a, w ∈ big) (hb : ∀ w ∈ b, w ∈ big) : ∀ w ∈ a ++ b, w ∈ big := fun w h => (List.mem_append.mp h).elim (ha w) (hb w)
theorem wsL_law_in0 : ∀ w ∈ wsL_law0, w ∈ lw_tbl := mem_two (mem_two (mem_two (mem_two (mem_two (mem_two (mem_two lwm_1 (mem_two lwm_2 (mem_two lwm_3 (mem_two lwm_4 (mem_two lwm_5 (mem_two lwm_6 (mem_two lwm_7 (mem_two lwm_8 (mem_two lwm_9 (mem_two lwm_10 (mem_two lwm_11 (mem_two lwm_12 (mem_two lwm_13 (mem_two lwm_14 (mem_two lwm_15 (mem_two lwm_16 (lwm_17))))))))))))))))) lwf_X4) lwf_X2) lwf_X3) lwf_X1) lwf_X0) (fun _ h => nomatch h)
theorem wsL_law_x0 : ∀ w ∈ (vx_atS RX4 83 "java/lang/IndexOutOfBoundsException" ["java/lang/RuntimeException", "java/lang/Exception"]).filter goodWord, w ∈ lw_tbl := by decide +kernel
theorem wsL_law_x1 : ∀ w ∈ (vx_atS RX4 90 "java/lang/IllegalArgumentException" ["java/lang/RuntimeException", "java/lang/Exception"]).filter goodWord, w ∈ lw_tbl := by decide +kernel
theorem wsL_law_x2 : ∀ w ∈ (vx_atS RX4 112 "java/lang/IllegalStateException" ["java/lang/RuntimeException", "java/lang/Exception"]).filter goodWord, w ∈ lw_tbl := by decide +kernel
theorem wsL_law_in : ∀ w ∈ wsL_law, w ∈ lw_tbl := fun w h => (List.mem_append.mp h).elim (fun h => (List.mem_append.mp h).elim (fun h => (List.mem_append.mp h).elim (fun h => wsL_law_in0 w h) (fun h => wsL_law_x0 w h)) (fun h => wsL_law_x1 w h)) (fun h => wsL_law_x2 w h)
theorem inlX0 : ∀ w ∈ wsX00, w ∈ wsL_law := fun _ h => List.mem_append_left _ (List.mem_append_left _ (List.mem_append_left _ (List.mem_append_left _ (List.mem_append_right _ h))))
theorem inX0 : ∀ w ∈ wsX00, w ∈ lw_tbl := fun w h => wsL_law_in w (inlX0 w h)
theorem inlX1 : ∀ w ∈ wsX10, w ∈ wsL_law := fun _ h => List.mem_append_left _ (List.mem_append_left _ (List.mem_append_left _ (List.mem_append_left _ (List.mem_append_left _ (List.mem_append_right _ h)))))
theorem inX1 : ∀ w ∈ wsX10, w ∈ lw_tbl := fun w h => wsL_law_in w (inlX1 w h)
theorem inlX2 : ∀ w ∈ wsX20, w ∈ wsL_law := fun _ h => List.mem_append_left _ (List.mem_append_left _ (List.mem_append_left _ (List.mem_append_left _ (List.mem_append_left _ (List.mem_append_left _ (List.mem_append_left _ (List.mem_append_right _ h)))))))
theorem inX2 : ∀ w ∈ wsX20, w ∈ lw_tbl := fun w h => wsL_law_in w (inlX2 w h)
theorem inlX3 : ∀ w ∈ wsX30, w ∈ wsL_law := fun _ h => List.mem_append_left _ (List.mem_append_left _ (List.mem_append_left _ (List.mem_append_left _ (List.mem_append_left _ (List.mem_append_left _ (List.mem_append_right _ h))))))
theorem inX3 : ∀ w ∈ wsX30, w ∈ lw_tbl := fun w h => wsL_law_in w (inlX3 w h)
theorem inlX4 : ∀ w ∈ wsX40, w ∈ wsL_law := fun _ h => List.mem_append_left _ (List.mem_append_left _ (List.mem_append_left _ (List.mem_append_left _ (List.mem_append_left _ (List.mem_append_left _ (List.mem_append_left _ (List.mem_append_left _ (List.mem_append_right _ h))))))))
theorem inX4 : ∀ w ∈ wsX40, w ∈ lw_tbl := fun w h => wsL_law_in w (inlX4 w h)
