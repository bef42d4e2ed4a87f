theorem mem_pl {big : List Cond} {ws : List Cond} (ps : List Nat) (hp : ws = ps.filterMap (fun i => big[i]?)) : ∀ w ∈ ws, w ∈ big := by
  intro w hw
  rw [hp] at hw
  obtain ⟨i, -, hi⟩ := List.mem_filterMap.mp hw
  exact List.mem_of_getElem? hi
def wsL_law : List Cond := wsL_law0 ++ (vx_atS RX4 83 "java/lang/IndexOutOfBoundsException" ["java/lang/RuntimeException", "java/lang/Exception"]).filter goodWord ++ (vx_atS RX4 90 "java/lang/IllegalArgumentException" ["java/lang/RuntimeException", "java/lang/Exception"]).filter goodWord ++ (vx_atS RX4 112 "java/lang/IllegalStateException" ["java/lang/RuntimeException", "java/lang/Exception"]).filter goodWord
set_option maxRecDepth 20000 in
theorem lwm_1 : ∀ w ∈ wsL_law0_r1, w ∈ lw_tbl := mem_pl [64, 65, 51, 663, 664, 55, 962, 66, 67, 68, 69, 70, 71, 72, 73, 52, 120, 89, 121, 122, 88, 123, 124, 125] rfl
set_option maxRecDepth 20000 in
theorem lwm_2 : ∀ w ∈ wsL_law0_r2, w ∈ lw_tbl := mem_pl [126, 91, 92, 53, 127, 128, 129, 104, 106, 54, 130, 131, 132, 133, 134, 135, 75, 76, 77, 78, 79, 80, 94, 95] rfl
set_option maxRecDepth 20000 in
theorem lwm_3 : ∀ w ∈ wsL_law0_r3, w ∈ lw_tbl := mem_pl [96, 97, 98, 108, 109, 110, 111, 113, 665, 666, 667, 668, 670, 671, 672, 673, 760, 674, 676, 678, 679, 680, 681, 682] rfl
set_option maxRecDepth 20000 in
theorem lwm_4 : ∀ w ∈ wsL_law0_r4, w ∈ lw_tbl := mem_pl [683, 684, 685, 686, 687, 688, 692, 693, 275, 276, 50, 277, 278, 279, 280, 281, 282, 283, 285, 59, 353, 60, 284, 189] rfl
set_option maxRecDepth 20000 in
theorem lwm_5 : ∀ w ∈ wsL_law0_r5, w ∈ lw_tbl := mem_pl [190, 372, 20, 373, 765, 766, 767, 768, 769, 770, 771, 772, 773, 774, 775, 777, 31, 778, 669, 761, 762, 763, 764, 374] rfl
set_option maxRecDepth 20000 in
theorem lwm_6 : ∀ w ∈ wsL_law0_r6, w ∈ lw_tbl := mem_pl [375, 376, 377, 378, 379, 380, 381, 388, 61, 382, 383, 384, 218, 9, 219, 220, 221, 222, 406, 21, 407, 779, 780, 781] rfl
set_option maxRecDepth 20000 in
theorem lwm_7 : ∀ w ∈ wsL_law0_r7, w ∈ lw_tbl := mem_pl [782, 783, 784, 785, 786, 787, 788, 408, 409, 410, 411, 412, 413, 414, 415, 789, 790, 791, 792, 793, 675, 418, 419, 420] rfl
set_option maxRecDepth 20000 in
theorem lwm_8 : ∀ w ∈ wsL_law0_r8, w ∈ lw_tbl := mem_pl [421, 422, 423, 424, 261, 62, 426, 427, 428, 434, 435, 436, 437, 439, 441, 443, 445, 447, 449, 794, 795, 796, 797, 677] rfl
set_option maxRecDepth 20000 in
theorem lwm_9 : ∀ w ∈ wsL_law0_r9, w ∈ lw_tbl := mem_pl [477, 478, 479, 480, 481, 482, 483, 177, 179, 1, 180, 798, 799, 800, 801, 802, 804, 32, 805, 486, 487, 488, 489, 490] rfl
set_option maxRecDepth 20000 in
theorem lwm_10 : ∀ w ∈ wsL_law0_r10, w ∈ lw_tbl := mem_pl [491, 492, 493, 495, 22, 496, 497, 499, 23, 500, 806, 807, 808, 809, 810, 812, 33, 813, 502, 503, 504, 505, 506, 507] rfl
set_option maxRecDepth 20000 in
theorem lwm_11 : ∀ w ∈ wsL_law0_r11, w ∈ lw_tbl := mem_pl [508, 814, 815, 816, 817, 509, 510, 511, 512, 513, 514, 515, 516, 818, 819, 820, 821, 822, 517, 518, 519, 520, 521, 522] rfl
set_option maxRecDepth 20000 in
theorem lwm_12 : ∀ w ∈ wsL_law0_r12, w ∈ lw_tbl := mem_pl [523, 823, 824, 825, 826, 689, 525, 526, 527, 528, 529, 530, 531, 208, 210, 7, 211, 205, 6, 206, 827, 828, 829, 830] rfl
set_option maxRecDepth 20000 in
theorem lwm_13 : ∀ w ∈ wsL_law0_r13, w ∈ lw_tbl := mem_pl [831, 833, 34, 834, 533, 534, 535, 536, 537, 538, 539, 191, 193, 3, 194, 195, 197, 4, 198, 199, 201, 5, 202, 214] rfl
set_option maxRecDepth 20000 in
theorem lwm_14 : ∀ w ∈ wsL_law0_r14, w ∈ lw_tbl := mem_pl [8, 215, 216, 223, 226, 10, 227, 835, 836, 837, 838, 839, 841, 35, 842, 843, 845, 36, 846, 847, 849, 37, 850, 540] rfl
set_option maxRecDepth 20000 in
theorem lwm_15 : ∀ w ∈ wsL_law0_r15, w ∈ lw_tbl := mem_pl [541, 542, 543, 544, 545, 546, 228, 230, 11, 231, 851, 852, 853, 854, 855, 857, 38, 858, 547, 548, 549, 550, 551, 552] rfl
set_option maxRecDepth 20000 in
theorem lwm_16 : ∀ w ∈ wsL_law0_r16, w ∈ lw_tbl := mem_pl [553, 554, 556, 24, 557, 260, 15, 262, 451, 453, 859, 860, 861, 862, 863, 865, 39, 866, 867, 869, 40, 870, 558, 559] rfl
set_option maxRecDepth 20000 in
theorem lwm_17 : ∀ w ∈ wsL_law0_r17, w ∈ lw_tbl := mem_pl [560, 561, 562, 563, 564, 871, 872, 873, 874, 565, 566, 567, 568, 569, 570, 571, 572, 574, 25, 575, 173, 175, 0, 176] rfl
set_option maxRecDepth 20000 in
theorem lwm_18 : ∀ w ∈ wsL_law0_r18, w ∈ lw_tbl := mem_pl [183, 2, 184, 185, 186, 187, 248, 14, 249, 875, 876, 877, 878, 879, 881, 41, 882, 883, 885, 42, 886, 887, 889, 43] rfl
set_option maxRecDepth 20000 in
theorem lwm_19 : ∀ w ∈ wsL_law0_r19, w ∈ lw_tbl := mem_pl [890, 169, 170, 171, 172, 232, 234, 12, 235, 236, 237, 63, 238, 239, 240, 241, 244, 13, 245, 246, 891, 892, 893, 894] rfl
set_option maxRecDepth 20000 in
theorem lwm_20 : ∀ w ∈ wsL_law0_r20, w ∈ lw_tbl := mem_pl [895, 897, 44, 898, 899, 900, 901, 902, 904, 45, 905, 250, 251, 252, 253, 906, 907, 908, 909, 578, 579, 580, 581, 582] rfl
set_option maxRecDepth 20000 in
theorem lwm_21 : ∀ w ∈ wsL_law0_r21, w ∈ lw_tbl := mem_pl [583, 584, 910, 911, 912, 913, 254, 255, 256, 257, 263, 265, 16, 266, 267, 269, 17, 270, 273, 18, 274, 914, 915, 916] rfl
set_option maxRecDepth 20000 in
theorem lwm_22 : ∀ w ∈ wsL_law0_r22, w ∈ lw_tbl := mem_pl [917, 918, 920, 46, 921, 922, 924, 47, 925, 585, 586, 587, 588, 589, 590, 591, 926, 927, 928, 929, 690, 691, 594, 595] rfl
set_option maxRecDepth 20000 in
theorem lwm_23 : ∀ w ∈ wsL_law0_r23, w ∈ lw_tbl := mem_pl [596, 597, 598, 599, 600, 930, 931, 932, 933, 602, 603, 604, 605, 606, 607, 608, 609, 611, 26, 612, 934, 935, 936, 937] rfl
set_option maxRecDepth 20000 in
theorem lwm_24 : ∀ w ∈ wsL_law0_r24, w ∈ lw_tbl := mem_pl [615, 616, 617, 618, 619, 620, 621, 938, 939, 940, 941, 623, 624, 625, 626, 627, 628, 629, 942, 943, 944, 945, 630, 631] rfl
set_option maxRecDepth 20000 in
theorem lwm_25 : ∀ w ∈ wsL_law0_r25, w ∈ lw_tbl := mem_pl [632, 633, 634, 635, 636, 637, 639, 27, 640, 946, 947, 948, 949, 694, 695, 696, 697, 698, 950, 952, 48, 953, 641, 642] rfl
set_option maxRecDepth 20000 in
theorem lwm_26 : ∀ w ∈ wsL_law0_r26, w ∈ lw_tbl := mem_pl [643, 644, 645, 646, 647, 650, 651, 653, 28, 654, 655, 657, 29, 658, 659, 661, 30, 662, 954, 955, 956, 957, 958, 960] rfl
set_option maxRecDepth 20000 in
theorem lwm_27 : ∀ w ∈ wsL_law0_r27, w ∈ lw_tbl := mem_pl [49, 961] rfl
set_option maxRecDepth 20000 in
theorem lwf_X4 : ∀ w ∈ wsX40, w ∈ lw_tbl := mem_pl [136, 138, 140, 142, 144, 146, 148, 150, 152, 154, 156, 158, 160, 162, 164, 166] rfl
set_option maxRecDepth 20000 in
theorem lwf_X5 : ∀ w ∈ wsX50, w ∈ lw_tbl := mem_pl [699, 701, 703, 705, 707, 709, 711, 713, 715, 717, 719, 721, 723, 725, 727, 729, 731, 733, 735, 737, 739, 741, 743, 745, 747, 749, 751, 753, 755, 757] rfl
set_option maxRecDepth 20000 in
theorem lwf_X2 : ∀ w ∈ wsX20, w ∈ lw_tbl := mem_pl [81, 83, 85] rfl
set_option maxRecDepth 20000 in
theorem lwf_X3 : ∀ w ∈ wsX30, w ∈ lw_tbl := mem_pl [99, 101] rfl
set_option maxRecDepth 20000 in
theorem lwf_X1 : ∀ w ∈ wsX10, w ∈ lw_tbl := mem_pl [115, 117] rfl
set_option maxRecDepth 20000 in
theorem lwf_X0 : ∀ w ∈ wsX00, w ∈ lw_tbl := mem_pl [456, 458, 460, 462, 464, 466, 468, 470, 472, 474] rfl
theorem mem_two {big a b : List Cond} (ha : ∀ w ∈ a, w ∈ big) (hb : ∀ w ∈ b, w ∈ big) : ∀ w ∈ a ++ b, w ∈ big := fun w h => (List.mem_append.mp h).elim (ha w) (hb w)
theorem wsL_law_in0 : ∀ w ∈ wsL_law0, w ∈ lw_tbl := mem_two (mem_two (mem_two (mem_two (mem_two (mem_two (mem_two (mem_two lwm_1 (mem_two lwm_2 (mem_two lwm_3 (mem_two lwm_4 (mem_two lwm_5 (mem_two lwm_6 (mem_two lwm_7 (mem_two lwm_8 (mem_two lwm_9 (mem_two lwm_10 (mem_two lwm_11 (mem_two lwm_12 (mem_two lwm_13 (mem_two lwm_14 (mem_two lwm_15 (mem_two lwm_16 (mem_two lwm_17 (mem_two lwm_18 (mem_two lwm_19 (mem_two lwm_20 (mem_two lwm_21 (mem_two lwm_22 (mem_two lwm_23 (mem_two lwm_24 (mem_two lwm_25 (mem_two lwm_26 (lwm_27))))))))))))))))))))))))))) lwf_X4) lwf_X5) lwf_X2) lwf_X3) lwf_X1) lwf_X0) (fun _ h => nomatch h)
theorem wsL_law_x0 : ∀ w ∈ (vx_atS RX4 83 "java/lang/IndexOutOfBoundsException" ["java/lang/RuntimeException", "java/lang/Exception"]).filter goodWord, w ∈ lw_tbl := by decide +kernel
theorem wsL_law_x1 : ∀ w ∈ (vx_atS RX4 90 "java/lang/IllegalArgumentException" ["java/lang/RuntimeException", "java/lang/Exception"]).filter goodWord, w ∈ lw_tbl := by decide +kernel
theorem wsL_law_x2 : ∀ w ∈ (vx_atS RX4 112 "java/lang/IllegalStateException" ["java/lang/RuntimeException", "java/lang/Exception"]).filter goodWord, w ∈ lw_tbl := by decide +kernel
theorem wsL_law_in : ∀ w ∈ wsL_law, w ∈ lw_tbl := fun w h => (List.mem_append.mp h).elim (fun h => (List.mem_append.mp h).elim (fun h => (List.mem_append.mp h).elim (fun h => wsL_law_in0 w h) (fun h => wsL_law_x0 w h)) (fun h => wsL_law_x1 w h)) (fun h => wsL_law_x2 w h)
theorem inlX0 : ∀ w ∈ wsX00, w ∈ wsL_law := fun _ h => List.mem_append_left _ (List.mem_append_left _ (List.mem_append_left _ (List.mem_append_left _ (List.mem_append_right _ h))))
theorem inX0 : ∀ w ∈ wsX00, w ∈ lw_tbl := fun w h => wsL_law_in w (inlX0 w h)
theorem inlX1 : ∀ w ∈ wsX10, w ∈ wsL_law := fun _ h => List.mem_append_left _ (List.mem_append_left _ (List.mem_append_left _ (List.mem_append_left _ (List.mem_append_left _ (List.mem_append_right _ h)))))
theorem inX1 : ∀ w ∈ wsX10, w ∈ lw_tbl := fun w h => wsL_law_in w (inlX1 w h)
theorem inlX2 : ∀ w ∈ wsX20, w ∈ wsL_law := fun _ h => List.mem_append_left _ (List.mem_append_left _ (List.mem_append_left _ (List.mem_append_left _ (List.mem_append_left _ (List.mem_append_left _ (List.mem_append_left _ (List.mem_append_right _ h)))))))
theorem inX2 : ∀ w ∈ wsX20, w ∈ lw_tbl := fun w h => wsL_law_in w (inlX2 w h)
theorem inlX3 : ∀ w ∈ wsX30, w ∈ wsL_law := fun _ h => List.mem_append_left _ (List.mem_append_left _ (List.mem_append_left _ (List.mem_append_left _ (List.mem_append_left _ (List.mem_append_left _ (List.mem_append_right _ h))))))
theorem inX3 : ∀ w ∈ wsX30, w ∈ lw_tbl := fun w h => wsL_law_in w (inlX3 w h)
theorem inlX4 : ∀ w ∈ wsX40, w ∈ wsL_law := fun _ h => List.mem_append_left _ (List.mem_append_left _ (List.mem_append_left _ (List.mem_append_left _ (List.mem_append_left _ (List.mem_append_left _ (List.mem_append_left _ (List.mem_append_left _ (List.mem_append_left _ (List.mem_append_right _ h)))))))))
theorem inX4 : ∀ w ∈ wsX40, w ∈ lw_tbl := fun w h => wsL_law_in w (inlX4 w h)
theorem inlX5 : ∀ w ∈ wsX50, w ∈ wsL_law := fun _ h => List.mem_append_left _ (List.mem_append_left _ (List.mem_append_left _ (List.mem_append_left _ (List.mem_append_left _ (List.mem_append_left _ (List.mem_append_left _ (List.mem_append_left _ (List.mem_append_right _ h))))))))
theorem inX5 : ∀ w ∈ wsX50, w ∈ lw_tbl := fun w h => wsL_law_in w (inlX5 w h)
