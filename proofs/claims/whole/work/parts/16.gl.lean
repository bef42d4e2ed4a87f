set_option maxRecDepth 20000 in
theorem ggL_law_X4_init : GoodIn wsL_law wsX4_init := goodIn_r _ [9, 10, 11, 12, 13, 14, 15, 16, 17, 18, 19, 20, 21, 22, 23, 24, 25, 26, 27, 28, 29, 30, 31, 32, 33, 34, 35, 36, 37, 38, 39, 40, 41, 42, 43, 44, 45, 46, 47, 48, 49, 50, 51, 52, 53, 54, 55, 672, 673, 674, 626, 627, 628, 629, 630, 631, 632, 633, 634, 635, 636, 637, 638, 639, 640, 641, 675, 676, 677, 678] (by decide +kernel) (by decide +kernel)
set_option maxRecDepth 20000 in
theorem gL_law_X4_init : GoodIn wsL_law (wsX4_init) := ggL_law_X4_init
set_option maxRecDepth 20000 in
theorem ggL_law_X5_init : GoodIn wsL_law wsX5_init := goodIn_r _ [58, 59, 11, 12, 20, 60, 61, 62, 63, 64, 65, 66, 67, 68, 69, 70, 71, 72, 73, 74, 75, 76, 77, 78, 79, 642, 643, 644, 645, 646, 647, 648, 649, 650, 651, 652, 653, 654, 655, 656, 657, 658, 659, 660, 661, 662, 663, 664, 665, 666, 667, 668, 669, 670, 671] (by decide +kernel) (by decide +kernel)
set_option maxRecDepth 20000 in
theorem gL_law_X5_init : GoodIn wsL_law (wsX5_init) := ggL_law_X5_init
set_option maxRecDepth 20000 in
theorem ggL_law_L_column : GoodIn wsL_law wsL_column := goodIn_ca (goodIn_ca (goodIn_r _ [83, 84, 85, 86, 87, 88, 2, 89, 90, 91, 92, 93, 16, 94, 95, 96, 97, 15, 98, 99, 43, 44, 626, 627, 628, 629, 630, 631, 632, 633, 634, 635, 636, 637, 638, 639, 640, 641, 672, 673, 674] (by decide +kernel) (by decide +kernel)) (goodIn_sub (fun _ h => List.mem_append_left _ (List.mem_append_left _ (List.mem_append_right _ h))) (by decide +kernel))) (goodIn_sub (fun _ h => List.mem_append_left _ (List.mem_append_right _ h)) (by decide +kernel))
set_option maxRecDepth 20000 in
theorem gL_law_L_column : GoodIn wsL_law (va_wsS RL 99 yL_column wsL_column) := goodIn_app (goodIn_of _ (by decide +kernel)) ggL_law_L_column
set_option maxRecDepth 20000 in
theorem ggL_law_X5_column : GoodIn wsL_law wsX5_column := goodIn_r _ [103, 60, 61, 104, 105, 5, 106, 107, 108, 109, 110, 111, 112, 113, 114, 642, 643, 644, 645, 646, 647, 648, 649, 650, 651, 652, 653, 654, 655, 656, 657, 658, 659, 660, 661, 662, 663, 664, 665, 666, 667, 668, 669, 670, 671] (by decide +kernel) (by decide +kernel)
set_option maxRecDepth 20000 in
theorem gL_law_X5_column : GoodIn wsL_law (wsV RL 104 RX5 yX5_column wsX5_column) := goodIn_app (goodIn_of _ (by decide +kernel)) ggL_law_X5_column
set_option maxRecDepth 20000 in
theorem ggL_law_X5_thrown : GoodIn wsL_law wsX5_thrown := goodIn_r _ [118, 114, 642, 643, 644, 645, 646, 647, 648, 649, 650, 651, 652, 653, 654, 655, 656, 657, 658, 659, 660, 661, 662, 663, 664, 665, 666, 667, 668, 669, 670, 671] (by decide +kernel) (by decide +kernel)
set_option maxRecDepth 20000 in
theorem gL_law_X5_thrown : GoodIn wsL_law (wsV RL 105 RX5 yX5_thrown wsX5_thrown) := goodIn_app (goodIn_of _ (by decide +kernel)) ggL_law_X5_thrown
set_option maxRecDepth 20000 in
theorem ggL_law_L_cell : GoodIn wsL_law wsL_cell := goodIn_ca (goodIn_ca (goodIn_ca (goodIn_r _ [121, 84, 85, 122, 123, 124, 125, 2, 126, 90, 91, 92, 93, 127, 128, 16, 94, 95, 96, 129, 130, 131, 132, 15, 133, 134, 45, 135, 136, 137, 138, 139, 140, 626, 627, 628, 629, 630, 631, 632, 633, 634, 635, 636, 637, 638, 639, 640, 641, 672, 673, 674] (by decide +kernel) (by decide +kernel)) (goodIn_sub (fun _ h => List.mem_append_left _ (List.mem_append_left _ (List.mem_append_right _ h))) (by decide +kernel))) (goodIn_sub (fun _ h => List.mem_append_left _ (List.mem_append_right _ h)) (by decide +kernel))) (goodIn_sub (fun _ h => List.mem_append_right _ h) (by decide +kernel))
set_option maxRecDepth 20000 in
theorem gL_law_L_cell : GoodIn wsL_law (va_wsS RL 109 yL_cell wsL_cell) := goodIn_app (goodIn_of _ (by decide +kernel)) ggL_law_L_cell
set_option maxRecDepth 20000 in
theorem ggL_law_X5_cell : GoodIn wsL_law wsX5_cell := goodIn_r _ [144, 65, 63, 145, 146, 5, 147, 104, 105, 106, 107, 108, 109, 148, 149, 150, 110, 111, 112, 113, 114, 642, 643, 644, 645, 646, 647, 648, 649, 650, 651, 652, 653, 654, 655, 656, 657, 658, 659, 660, 661, 662, 663, 664, 665, 666, 667, 668, 669, 670, 671] (by decide +kernel) (by decide +kernel)
set_option maxRecDepth 20000 in
theorem gL_law_X5_cell : GoodIn wsL_law (wsV RL 112 RX5 yX5_cell wsX5_cell) := goodIn_app (goodIn_of _ (by decide +kernel)) ggL_law_X5_cell
set_option maxRecDepth 20000 in
theorem ggL_law_L_need : GoodIn wsL_law wsL_need := goodIn_ca (goodIn_r _ [153, 85, 154, 155, 156, 2, 157, 92, 93, 158, 23, 24, 626, 627, 628, 629, 630, 631, 632, 633, 634, 635, 636, 637, 638, 639, 640, 641] (by decide +kernel) (by decide +kernel)) (goodIn_sub (fun _ h => List.mem_append_left _ (List.mem_append_right _ h)) (by decide +kernel))
set_option maxRecDepth 20000 in
theorem gL_law_L_need : GoodIn wsL_law (va_wsS RL 113 yL_need wsL_need) := goodIn_app (goodIn_of _ (by decide +kernel)) ggL_law_L_need
set_option maxRecDepth 20000 in
theorem ggL_law_X5_need : GoodIn wsL_law wsX5_need := goodIn_r _ [162, 163, 164, 66, 107, 108, 5, 109, 110, 111, 112, 113, 114, 642, 643, 644, 645, 646, 647, 648, 649, 650, 651, 652, 653, 654, 655, 656, 657, 658, 659, 660, 661, 662, 663, 664, 665, 666, 667, 668, 669, 670, 671] (by decide +kernel) (by decide +kernel)
set_option maxRecDepth 20000 in
theorem gL_law_X5_need : GoodIn wsL_law (wsV RL 116 RX5 yX5_need wsX5_need) := goodIn_app (goodIn_of _ (by decide +kernel)) ggL_law_X5_need
set_option maxRecDepth 20000 in
theorem ggL_law_L_projector : GoodIn wsL_law wsL_projector := goodIn_ca (goodIn_ca (goodIn_ca (goodIn_r _ [167, 84, 85, 122, 168, 169, 170, 2, 171, 90, 91, 92, 93, 127, 128, 16, 19, 18, 17, 172, 173, 94, 95, 96, 129, 130, 131, 174, 175, 176, 132, 15, 133, 134, 45, 135, 136, 137, 138, 139, 140, 177, 178, 179, 11, 12, 180, 181, 182, 183, 184, 185, 186, 626, 627, 628, 629, 630, 631, 632, 633, 634, 635, 636, 637, 638, 639, 640, 641, 679, 680, 681, 682, 683, 684, 685, 686, 687, 688, 672, 673, 674] (by decide +kernel) (by decide +kernel)) (goodIn_sub (fun _ h => List.mem_append_left _ (List.mem_append_left _ (List.mem_append_right _ h))) (by decide +kernel))) (goodIn_sub (fun _ h => List.mem_append_left _ (List.mem_append_right _ h)) (by decide +kernel))) (goodIn_sub (fun _ h => List.mem_append_right _ h) (by decide +kernel))
set_option maxRecDepth 20000 in
theorem gL_law_L_projector : GoodIn wsL_law (va_wsS RL 117 yL_projector wsL_projector) := goodIn_app (goodIn_of _ (by decide +kernel)) ggL_law_L_projector
set_option maxRecDepth 20000 in
theorem ggL_law_X5_projector : GoodIn wsL_law wsX5_projector := goodIn_r _ [190, 63, 65, 191, 67, 68, 69, 70, 71, 145, 146, 5, 147, 104, 105, 106, 107, 108, 109, 148, 149, 150, 110, 111, 112, 113, 114, 642, 643, 644, 645, 646, 647, 648, 649, 650, 651, 652, 653, 654, 655, 656, 657, 658, 659, 660, 661, 662, 663, 664, 665, 666, 667, 668, 669, 670, 671] (by decide +kernel) (by decide +kernel)
set_option maxRecDepth 20000 in
theorem gL_law_X5_projector : GoodIn wsL_law (wsV RL 120 RX5 yX5_projector wsX5_projector) := goodIn_app (goodIn_of _ (by decide +kernel)) ggL_law_X5_projector
set_option maxRecDepth 20000 in
theorem ggL_law_L_aim : GoodIn wsL_law wsL_aim := goodIn_ca (goodIn_ca (goodIn_r _ [194, 84, 85, 195, 196, 197, 2, 198, 90, 91, 92, 93, 199, 200, 201, 202, 19, 18, 94, 95, 96, 679, 680, 681, 682, 683, 684, 685, 686, 687, 688, 626, 627, 628, 629, 630, 631, 632, 633, 634, 635, 636, 637, 638, 639, 640, 641] (by decide +kernel) (by decide +kernel)) (goodIn_sub (fun _ h => List.mem_append_left _ (List.mem_append_left _ (List.mem_append_right _ h))) (by decide +kernel))) (goodIn_sub (fun _ h => List.mem_append_left _ (List.mem_append_right _ h)) (by decide +kernel))
set_option maxRecDepth 20000 in
theorem gL_law_L_aim : GoodIn wsL_law (va_wsS RL 121 yL_aim wsL_aim) := goodIn_app (goodIn_of _ (by decide +kernel)) ggL_law_L_aim
set_option maxRecDepth 20000 in
theorem ggL_law_X5_aim : GoodIn wsL_law wsX5_aim := goodIn_r _ [206, 72, 73, 207, 208, 209, 5, 210, 191, 107, 108, 109, 104, 105, 106, 110, 111, 112, 113, 114, 642, 643, 644, 645, 646, 647, 648, 649, 650, 651, 652, 653, 654, 655, 656, 657, 658, 659, 660, 661, 662, 663, 664, 665, 666, 667, 668, 669, 670, 671] (by decide +kernel) (by decide +kernel)
set_option maxRecDepth 20000 in
theorem gL_law_X5_aim : GoodIn wsL_law (wsV RL 123 RX5 yX5_aim wsX5_aim) := goodIn_app (goodIn_of _ (by decide +kernel)) ggL_law_X5_aim
set_option maxRecDepth 20000 in
theorem ggL_law_L_turn : GoodIn wsL_law wsL_turn := goodIn_ca (goodIn_ca (goodIn_r _ [213, 84, 122, 214, 215, 216, 2, 217, 90, 91, 127, 128, 199, 200, 201, 202, 19, 18, 218, 219, 220, 221, 222, 223, 224, 225, 21, 174, 175, 176, 679, 680, 681, 682, 683, 684, 685, 686, 687, 688, 626, 627, 628, 629, 630, 631, 632, 633, 634, 635, 636, 637, 638, 639, 640, 641] (by decide +kernel) (by decide +kernel)) (goodIn_sub (fun _ h => List.mem_append_left _ (List.mem_append_left _ (List.mem_append_right _ h))) (by decide +kernel))) (goodIn_sub (fun _ h => List.mem_append_right _ h) (by decide +kernel))
set_option maxRecDepth 20000 in
theorem gL_law_L_turn : GoodIn wsL_law (va_wsS RL 124 yL_turn wsL_turn) := goodIn_app (goodIn_of _ (by decide +kernel)) ggL_law_L_turn
set_option maxRecDepth 20000 in
theorem ggL_law_X5_turn : GoodIn wsL_law wsX5_turn := goodIn_r _ [229, 74, 70, 69, 77, 207, 208, 209, 5, 210, 191, 107, 108, 109, 230, 231, 232, 233, 110, 111, 112, 113, 114, 642, 643, 644, 645, 646, 647, 648, 649, 650, 651, 652, 653, 654, 655, 656, 657, 658, 659, 660, 661, 662, 663, 664, 665, 666, 667, 668, 669, 670, 671] (by decide +kernel) (by decide +kernel)
set_option maxRecDepth 20000 in
theorem gL_law_X5_turn : GoodIn wsL_law (wsV RL 127 RX5 yX5_turn wsX5_turn) := goodIn_app (goodIn_of _ (by decide +kernel)) ggL_law_X5_turn
set_option maxRecDepth 20000 in
theorem ggL_law_L_fail : GoodIn wsL_law wsL_fail := goodIn_ca (goodIn_r _ [236, 84, 237, 238, 239, 2, 240, 90, 91, 199, 200, 201, 202, 19, 18, 679, 680, 681, 682, 683, 684, 685, 686, 687, 688, 626, 627, 628, 629, 630, 631, 632, 633, 634, 635, 636, 637, 638, 639, 640, 641] (by decide +kernel) (by decide +kernel)) (goodIn_sub (fun _ h => List.mem_append_left _ (List.mem_append_left _ (List.mem_append_right _ h))) (by decide +kernel))
set_option maxRecDepth 20000 in
theorem gL_law_L_fail : GoodIn wsL_law (va_wsS RL 128 yL_fail wsL_fail) := goodIn_app (goodIn_of _ (by decide +kernel)) ggL_law_L_fail
set_option maxRecDepth 20000 in
theorem ggL_law_X5_fail : GoodIn wsL_law wsX5_fail := goodIn_r _ [244, 75, 207, 208, 209, 5, 210, 191, 107, 108, 109, 110, 111, 112, 113, 114, 642, 643, 644, 645, 646, 647, 648, 649, 650, 651, 652, 653, 654, 655, 656, 657, 658, 659, 660, 661, 662, 663, 664, 665, 666, 667, 668, 669, 670, 671] (by decide +kernel) (by decide +kernel)
set_option maxRecDepth 20000 in
theorem gL_law_X5_fail : GoodIn wsL_law (wsV RL 130 RX5 yX5_fail wsX5_fail) := goodIn_app (goodIn_of _ (by decide +kernel)) ggL_law_X5_fail
set_option maxRecDepth 20000 in
theorem ggL_law_L_phase : GoodIn wsL_law wsL_phase := goodIn_ca (goodIn_r _ [247, 85, 248, 249, 250, 2, 251, 92, 93, 252, 21, 174, 175, 176, 626, 627, 628, 629, 630, 631, 632, 633, 634, 635, 636, 637, 638, 639, 640, 641] (by decide +kernel) (by decide +kernel)) (goodIn_sub (fun _ h => List.mem_append_left _ (List.mem_append_right _ h)) (by decide +kernel))
set_option maxRecDepth 20000 in
theorem gL_law_L_phase : GoodIn wsL_law (va_wsS RL 131 yL_phase wsL_phase) := goodIn_app (goodIn_of _ (by decide +kernel)) ggL_law_L_phase
set_option maxRecDepth 20000 in
theorem ggL_law_X5_phase : GoodIn wsL_law wsX5_phase := goodIn_r _ [256, 257, 77, 107, 108, 5, 109, 110, 111, 112, 113, 114, 642, 643, 644, 645, 646, 647, 648, 649, 650, 651, 652, 653, 654, 655, 656, 657, 658, 659, 660, 661, 662, 663, 664, 665, 666, 667, 668, 669, 670, 671] (by decide +kernel) (by decide +kernel)
set_option maxRecDepth 20000 in
theorem gL_law_X5_phase : GoodIn wsL_law (wsV RL 134 RX5 yX5_phase wsX5_phase) := goodIn_app (goodIn_of _ (by decide +kernel)) ggL_law_X5_phase
set_option maxRecDepth 20000 in
theorem ggL_law_L_wind : GoodIn wsL_law wsL_wind := goodIn_ca (goodIn_r _ [260, 85, 261, 262, 263, 2, 264, 92, 93, 22, 626, 627, 628, 629, 630, 631, 632, 633, 634, 635, 636, 637, 638, 639, 640, 641] (by decide +kernel) (by decide +kernel)) (goodIn_sub (fun _ h => List.mem_append_left _ (List.mem_append_right _ h)) (by decide +kernel))
set_option maxRecDepth 20000 in
theorem gL_law_L_wind : GoodIn wsL_law (va_wsS RL 135 yL_wind wsL_wind) := goodIn_app (goodIn_of _ (by decide +kernel)) ggL_law_L_wind
set_option maxRecDepth 20000 in
theorem ggL_law_X5_wind : GoodIn wsL_law wsX5_wind := goodIn_r _ [268, 269, 107, 108, 5, 109, 110, 111, 112, 113, 114, 642, 643, 644, 645, 646, 647, 648, 649, 650, 651, 652, 653, 654, 655, 656, 657, 658, 659, 660, 661, 662, 663, 664, 665, 666, 667, 668, 669, 670, 671] (by decide +kernel) (by decide +kernel)
set_option maxRecDepth 20000 in
theorem gL_law_X5_wind : GoodIn wsL_law (wsV RL 138 RX5 yX5_wind wsX5_wind) := goodIn_app (goodIn_of _ (by decide +kernel)) ggL_law_X5_wind
set_option maxRecDepth 20000 in
theorem ggL_law_L_through : GoodIn wsL_law wsL_through := goodIn_ca (goodIn_r _ [272, 84, 273, 274, 275, 2, 276, 90, 91, 199, 200, 201, 202, 19, 18, 94, 95, 96, 277, 278, 279, 280, 16, 281, 15, 282, 283, 43, 626, 627, 628, 629, 630, 631, 632, 633, 634, 635, 636, 637, 638, 639, 640, 641, 679, 680, 681, 682, 683, 684, 685, 686, 687, 688, 672, 673, 674] (by decide +kernel) (by decide +kernel)) (goodIn_sub (fun _ h => List.mem_append_left _ (List.mem_append_left _ (List.mem_append_right _ h))) (by decide +kernel))
set_option maxRecDepth 20000 in
theorem gL_law_L_through : GoodIn wsL_law (va_wsS RL 139 yL_through wsL_through) := goodIn_app (goodIn_of _ (by decide +kernel)) ggL_law_L_through
set_option maxRecDepth 20000 in
theorem ggL_law_X5_through : GoodIn wsL_law wsX5_through := goodIn_r _ [287, 60, 68, 207, 208, 209, 5, 210, 191, 107, 108, 109, 104, 105, 106, 110, 111, 112, 113, 114, 288, 289, 290, 291, 67, 642, 643, 644, 645, 646, 647, 648, 649, 650, 651, 652, 653, 654, 655, 656, 657, 658, 659, 660, 661, 662, 663, 664, 665, 666, 667, 668, 669, 670, 671] (by decide +kernel) (by decide +kernel)
set_option maxRecDepth 20000 in
theorem gL_law_X5_through : GoodIn wsL_law (wsV RL 141 RX5 yX5_through wsX5_through) := goodIn_app (goodIn_of _ (by decide +kernel)) ggL_law_X5_through
set_option maxRecDepth 20000 in
theorem ggL_law_L_gives : GoodIn wsL_law wsL_gives := goodIn_ca (goodIn_r _ [294, 84, 295, 296, 297, 2, 298, 90, 91, 199, 200, 201, 202, 19, 18, 94, 95, 96, 299, 300, 301, 302, 16, 303, 304, 305, 306, 22, 307, 308, 309, 310, 281, 15, 282, 283, 43, 277, 278, 279, 280, 311, 312, 313, 314, 132, 133, 134, 45, 135, 136, 137, 315, 316, 317, 318, 44, 626, 627, 628, 629, 630, 631, 632, 633, 634, 635, 636, 637, 638, 639, 640, 641, 679, 680, 681, 682, 683, 684, 685, 686, 687, 688, 672, 673, 674] (by decide +kernel) (by decide +kernel)) (goodIn_sub (fun _ h => List.mem_append_left _ (List.mem_append_left _ (List.mem_append_right _ h))) (by decide +kernel))
set_option maxRecDepth 20000 in
theorem gL_law_L_gives : GoodIn wsL_law (va_wsS RL 142 yL_gives wsL_gives) := goodIn_app (goodIn_of _ (by decide +kernel)) ggL_law_L_gives
set_option maxRecDepth 20000 in
theorem ggL_law_X5_gives : GoodIn wsL_law wsX5_gives := goodIn_r _ [322, 207, 208, 209, 5, 210, 191, 107, 108, 109, 104, 105, 106, 110, 111, 112, 113, 114, 323, 324, 325, 326, 67, 68, 60, 69, 62, 61, 327, 328, 329, 330, 269, 73, 72, 331, 332, 333, 334, 63, 65, 288, 289, 290, 291, 148, 149, 150, 642, 643, 644, 645, 646, 647, 648, 649, 650, 651, 652, 653, 654, 655, 656, 657, 658, 659, 660, 661, 662, 663, 664, 665, 666, 667, 668, 669, 670, 671] (by decide +kernel) (by decide +kernel)
set_option maxRecDepth 20000 in
theorem gL_law_X5_gives : GoodIn wsL_law (wsV RL 144 RX5 yX5_gives wsX5_gives) := goodIn_app (goodIn_of _ (by decide +kernel)) ggL_law_X5_gives
set_option maxRecDepth 20000 in
theorem ggL_law_L_isSharp : GoodIn wsL_law wsL_isSharp := goodIn_ca (goodIn_r _ [337, 84, 338, 339, 340, 2, 341, 90, 91, 199, 200, 201, 202, 19, 18, 94, 95, 96, 342, 343, 344, 345, 16, 281, 15, 282, 283, 43, 626, 627, 628, 629, 630, 631, 632, 633, 634, 635, 636, 637, 638, 639, 640, 641, 679, 680, 681, 682, 683, 684, 685, 686, 687, 688, 672, 673, 674] (by decide +kernel) (by decide +kernel)) (goodIn_sub (fun _ h => List.mem_append_left _ (List.mem_append_left _ (List.mem_append_right _ h))) (by decide +kernel))
set_option maxRecDepth 20000 in
theorem gL_law_L_isSharp : GoodIn wsL_law (va_wsS RL 145 yL_isSharp wsL_isSharp) := goodIn_app (goodIn_of _ (by decide +kernel)) ggL_law_L_isSharp
set_option maxRecDepth 20000 in
theorem ggL_law_X5_isSharp : GoodIn wsL_law wsX5_isSharp := goodIn_r _ [349, 207, 208, 209, 5, 210, 191, 107, 108, 109, 104, 105, 106, 110, 111, 112, 113, 114, 350, 351, 352, 353, 68, 60, 71, 642, 643, 644, 645, 646, 647, 648, 649, 650, 651, 652, 653, 654, 655, 656, 657, 658, 659, 660, 661, 662, 663, 664, 665, 666, 667, 668, 669, 670, 671] (by decide +kernel) (by decide +kernel)
set_option maxRecDepth 20000 in
theorem gL_law_X5_isSharp : GoodIn wsL_law (wsV RL 147 RX5 yX5_isSharp wsX5_isSharp) := goodIn_app (goodIn_of _ (by decide +kernel)) ggL_law_X5_isSharp
set_option maxRecDepth 20000 in
theorem ggL_law_L_light : GoodIn wsL_law wsL_light := goodIn_ca (goodIn_r _ [356, 84, 357, 358, 359, 2, 360, 90, 91, 94, 95, 96, 361, 362, 363, 364, 199, 200, 201, 202, 19, 18, 365, 173, 366, 367, 368, 369, 299, 300, 301, 302, 16, 303, 304, 305, 306, 22, 307, 308, 309, 310, 281, 15, 282, 283, 43, 277, 278, 279, 280, 311, 312, 313, 314, 132, 133, 134, 45, 135, 136, 137, 315, 316, 317, 318, 44, 626, 627, 628, 629, 630, 631, 632, 633, 634, 635, 636, 637, 638, 639, 640, 641, 679, 680, 681, 682, 683, 684, 685, 686, 687, 688, 672, 673, 674] (by decide +kernel) (by decide +kernel)) (goodIn_sub (fun _ h => List.mem_append_left _ (List.mem_append_left _ (List.mem_append_right _ h))) (by decide +kernel))
set_option maxRecDepth 20000 in
theorem gL_law_L_light : GoodIn wsL_law (va_wsS RL 148 yL_light wsL_light) := goodIn_app (goodIn_of _ (by decide +kernel)) ggL_law_L_light
set_option maxRecDepth 20000 in
theorem ggL_law_X5_light : GoodIn wsL_law wsX5_light := goodIn_r _ [373, 104, 105, 5, 106, 107, 108, 109, 110, 111, 112, 113, 114, 374, 375, 376, 377, 191, 378, 379, 380, 381, 74, 75, 323, 324, 325, 326, 67, 68, 60, 69, 62, 61, 327, 328, 329, 330, 269, 73, 72, 331, 332, 333, 334, 63, 65, 288, 289, 290, 291, 148, 149, 150, 642, 643, 644, 645, 646, 647, 648, 649, 650, 651, 652, 653, 654, 655, 656, 657, 658, 659, 660, 661, 662, 663, 664, 665, 666, 667, 668, 669, 670, 671] (by decide +kernel) (by decide +kernel)
set_option maxRecDepth 20000 in
theorem gL_law_X5_light : GoodIn wsL_law (wsV RL 150 RX5 yX5_light wsX5_light) := goodIn_app (goodIn_of _ (by decide +kernel)) ggL_law_X5_light
set_option maxRecDepth 20000 in
theorem ggL_law_L_blended : GoodIn wsL_law wsL_blended := goodIn_ca (goodIn_r _ [384, 84, 385, 386, 387, 2, 388, 90, 91, 24, 199, 200, 201, 202, 19, 18, 94, 95, 96, 365, 173, 366, 367, 368, 369, 299, 300, 301, 302, 16, 303, 304, 305, 306, 22, 307, 308, 309, 310, 281, 15, 282, 283, 43, 277, 278, 279, 280, 311, 312, 313, 314, 132, 133, 134, 45, 135, 136, 137, 315, 316, 317, 318, 44, 361, 362, 363, 364, 626, 627, 628, 629, 630, 631, 632, 633, 634, 635, 636, 637, 638, 639, 640, 641, 679, 680, 681, 682, 683, 684, 685, 686, 687, 688, 672, 673, 674] (by decide +kernel) (by decide +kernel)) (goodIn_sub (fun _ h => List.mem_append_left _ (List.mem_append_left _ (List.mem_append_right _ h))) (by decide +kernel))
set_option maxRecDepth 20000 in
theorem gL_law_L_blended : GoodIn wsL_law (va_wsS RL 151 yL_blended wsL_blended) := goodIn_app (goodIn_of _ (by decide +kernel)) ggL_law_L_blended
set_option maxRecDepth 20000 in
theorem ggL_law_X5_blended : GoodIn wsL_law wsX5_blended := goodIn_r _ [392, 66, 207, 208, 209, 5, 210, 191, 107, 108, 109, 104, 105, 106, 110, 111, 112, 113, 114, 378, 379, 380, 381, 74, 75, 323, 324, 325, 326, 67, 68, 60, 69, 62, 61, 327, 328, 329, 330, 269, 73, 72, 331, 332, 333, 334, 63, 65, 288, 289, 290, 291, 148, 149, 150, 374, 375, 376, 377, 642, 643, 644, 645, 646, 647, 648, 649, 650, 651, 652, 653, 654, 655, 656, 657, 658, 659, 660, 661, 662, 663, 664, 665, 666, 667, 668, 669, 670, 671] (by decide +kernel) (by decide +kernel)
set_option maxRecDepth 20000 in
theorem gL_law_X5_blended : GoodIn wsL_law (wsV RL 153 RX5 yX5_blended wsX5_blended) := goodIn_app (goodIn_of _ (by decide +kernel)) ggL_law_X5_blended
set_option maxRecDepth 20000 in
theorem ggL_law_L_covered : GoodIn wsL_law wsL_covered := goodIn_ca (goodIn_r _ [395, 85, 396, 397, 398, 2, 399, 92, 93, 28, 24, 400, 401, 402, 403, 19, 404, 405, 406, 407, 199, 200, 201, 202, 18, 408, 27, 409, 410, 49, 50, 411, 412, 413, 95, 96, 299, 300, 301, 302, 16, 303, 304, 305, 306, 22, 307, 308, 309, 310, 281, 15, 282, 283, 43, 277, 278, 279, 280, 311, 312, 313, 314, 132, 133, 134, 45, 135, 136, 137, 315, 316, 317, 318, 44, 342, 343, 344, 345, 414, 415, 416, 626, 627, 628, 629, 630, 631, 632, 633, 634, 635, 636, 637, 638, 639, 640, 641, 679, 680, 681, 682, 683, 684, 685, 686, 687, 688, 675, 676, 672, 673, 674] (by decide +kernel) (by decide +kernel)) (goodIn_sub (fun _ h => List.mem_append_left _ (List.mem_append_right _ h)) (by decide +kernel))
set_option maxRecDepth 20000 in
theorem gL_law_L_covered : GoodIn wsL_law (va_wsS RL 154 yL_covered wsL_covered) := goodIn_app (goodIn_of _ (by decide +kernel)) ggL_law_L_covered
set_option maxRecDepth 20000 in
theorem ggL_law_X5_covered : GoodIn wsL_law wsX5_covered := goodIn_r _ [420, 421, 422, 423, 5, 424, 191, 107, 108, 109, 110, 111, 112, 113, 114, 425, 426, 427, 428, 429, 430, 431, 432, 75, 66, 323, 324, 325, 326, 67, 68, 60, 69, 62, 61, 327, 328, 329, 330, 269, 73, 72, 331, 332, 333, 334, 63, 65, 288, 289, 290, 291, 148, 149, 150, 350, 351, 352, 353, 71, 642, 643, 644, 645, 646, 647, 648, 649, 650, 651, 652, 653, 654, 655, 656, 657, 658, 659, 660, 661, 662, 663, 664, 665, 666, 667, 668, 669, 670, 671] (by decide +kernel) (by decide +kernel)
set_option maxRecDepth 20000 in
theorem gL_law_X5_covered : GoodIn wsL_law (wsV RL 156 RX5 yX5_covered wsX5_covered) := goodIn_app (goodIn_of _ (by decide +kernel)) ggL_law_X5_covered
set_option maxRecDepth 20000 in
theorem ggL_law_X4_least : GoodIn wsL_law wsX4_least := goodIn_r _ [436, 19, 28, 23, 24, 404, 405, 406, 2, 407, 199, 200, 201, 202, 18, 408, 27, 409, 410, 49, 50, 411, 412, 413, 95, 96, 299, 300, 301, 302, 16, 303, 304, 305, 306, 22, 307, 308, 309, 310, 281, 15, 282, 283, 43, 277, 278, 279, 280, 311, 312, 313, 314, 132, 133, 134, 45, 135, 136, 137, 315, 316, 317, 318, 44, 342, 343, 344, 345, 437, 438, 439, 440, 441, 442, 443, 444, 445, 446, 447, 448, 449, 450, 451, 414, 415, 416, 626, 627, 628, 629, 630, 631, 632, 633, 634, 635, 636, 637, 638, 639, 640, 641, 679, 680, 681, 682, 683, 684, 685, 686, 687, 688, 675, 676, 672, 673, 674] (by decide +kernel) (by decide +kernel)
set_option maxRecDepth 20000 in
theorem gL_law_X4_least : GoodIn wsL_law (wsV RL 157 RX4 yX4_least wsX4_least) := goodIn_app (goodIn_of _ (by decide +kernel)) ggL_law_X4_least
set_option maxRecDepth 20000 in
theorem ggL_law_X5_least : GoodIn wsL_law wsX5_least := goodIn_r _ [455, 114, 456, 457, 458, 5, 459, 191, 75, 460, 461, 462, 463, 464, 465, 466, 164, 425, 426, 427, 428, 429, 430, 431, 432, 66, 323, 324, 325, 326, 67, 68, 60, 69, 62, 61, 327, 328, 329, 330, 269, 73, 72, 107, 108, 109, 331, 332, 333, 334, 63, 65, 288, 289, 290, 291, 148, 149, 150, 350, 351, 352, 353, 71, 642, 643, 644, 645, 646, 647, 648, 649, 650, 651, 652, 653, 654, 655, 656, 657, 658, 659, 660, 661, 662, 663, 664, 665, 666, 667, 668, 669, 670, 671] (by decide +kernel) (by decide +kernel)
set_option maxRecDepth 20000 in
theorem gL_law_X5_least : GoodIn wsL_law (wsV RL 160 RX5 yX5_least wsX5_least) := goodIn_app (goodIn_of _ (by decide +kernel)) ggL_law_X5_least
set_option maxRecDepth 20000 in
theorem ggL_law_X4_leastAnew : GoodIn wsL_law wsX4_leastAnew := goodIn_r _ [470, 19, 28, 23, 24, 404, 405, 406, 2, 407, 199, 200, 201, 202, 18, 408, 27, 409, 410, 49, 50, 411, 412, 413, 95, 96, 299, 300, 301, 302, 16, 303, 304, 305, 306, 22, 307, 308, 309, 310, 281, 15, 282, 283, 43, 277, 278, 279, 280, 311, 312, 313, 314, 132, 133, 134, 45, 135, 136, 137, 315, 316, 317, 318, 44, 342, 343, 344, 345, 437, 438, 439, 440, 441, 442, 443, 444, 445, 446, 447, 448, 449, 450, 451, 414, 415, 416, 626, 627, 628, 629, 630, 631, 632, 633, 634, 635, 636, 637, 638, 639, 640, 641, 679, 680, 681, 682, 683, 684, 685, 686, 687, 688, 675, 676, 672, 673, 674] (by decide +kernel) (by decide +kernel)
set_option maxRecDepth 20000 in
theorem gL_law_X4_leastAnew : GoodIn wsL_law (wsV RL 161 RX4 yX4_leastAnew wsX4_leastAnew) := goodIn_app (goodIn_of _ (by decide +kernel)) ggL_law_X4_leastAnew
set_option maxRecDepth 20000 in
theorem ggL_law_X5_leastAnew : GoodIn wsL_law wsX5_leastAnew := goodIn_r _ [474, 114, 456, 457, 458, 5, 459, 191, 75, 460, 461, 462, 463, 464, 465, 466, 164, 425, 426, 427, 428, 429, 430, 431, 432, 66, 323, 324, 325, 326, 67, 68, 60, 69, 62, 61, 327, 328, 329, 330, 269, 73, 72, 107, 108, 109, 331, 332, 333, 334, 63, 65, 288, 289, 290, 291, 148, 149, 150, 350, 351, 352, 353, 71, 642, 643, 644, 645, 646, 647, 648, 649, 650, 651, 652, 653, 654, 655, 656, 657, 658, 659, 660, 661, 662, 663, 664, 665, 666, 667, 668, 669, 670, 671] (by decide +kernel) (by decide +kernel)
set_option maxRecDepth 20000 in
theorem gL_law_X5_leastAnew : GoodIn wsL_law (wsV RL 164 RX5 yX5_leastAnew wsX5_leastAnew) := goodIn_app (goodIn_of _ (by decide +kernel)) ggL_law_X5_leastAnew
set_option maxRecDepth 20000 in
theorem ggL_law_L_bears : GoodIn wsL_law wsL_bears := goodIn_ca (goodIn_r _ [477, 85, 478, 479, 480, 2, 481, 92, 93, 28, 23, 24, 400, 401, 402, 403, 19, 404, 405, 406, 407, 199, 200, 201, 202, 18, 408, 27, 409, 410, 49, 50, 411, 412, 413, 95, 96, 299, 300, 301, 302, 16, 303, 304, 305, 306, 22, 307, 308, 309, 310, 281, 15, 282, 283, 43, 277, 278, 279, 280, 311, 312, 313, 314, 132, 133, 134, 45, 135, 136, 137, 315, 316, 317, 318, 44, 342, 343, 344, 345, 448, 449, 450, 451, 414, 415, 416, 626, 627, 628, 629, 630, 631, 632, 633, 634, 635, 636, 637, 638, 639, 640, 641, 679, 680, 681, 682, 683, 684, 685, 686, 687, 688, 675, 676, 672, 673, 674] (by decide +kernel) (by decide +kernel)) (goodIn_sub (fun _ h => List.mem_append_left _ (List.mem_append_right _ h)) (by decide +kernel))
set_option maxRecDepth 20000 in
theorem gL_law_L_bears : GoodIn wsL_law (va_wsS RL 165 yL_bears wsL_bears) := goodIn_app (goodIn_of _ (by decide +kernel)) ggL_law_L_bears
set_option maxRecDepth 20000 in
theorem ggL_law_X5_bears : GoodIn wsL_law wsX5_bears := goodIn_r _ [485, 191, 421, 422, 423, 5, 424, 107, 108, 109, 110, 111, 112, 113, 114, 463, 464, 465, 466, 164, 425, 426, 427, 428, 429, 430, 431, 432, 75, 66, 323, 324, 325, 326, 67, 68, 60, 69, 62, 61, 327, 328, 329, 330, 269, 73, 72, 331, 332, 333, 334, 63, 65, 288, 289, 290, 291, 148, 149, 150, 350, 351, 352, 353, 71, 642, 643, 644, 645, 646, 647, 648, 649, 650, 651, 652, 653, 654, 655, 656, 657, 658, 659, 660, 661, 662, 663, 664, 665, 666, 667, 668, 669, 670, 671] (by decide +kernel) (by decide +kernel)
set_option maxRecDepth 20000 in
theorem gL_law_X5_bears : GoodIn wsL_law (wsV RL 167 RX5 yX5_bears wsX5_bears) := goodIn_app (goodIn_of _ (by decide +kernel)) ggL_law_X5_bears
set_option maxRecDepth 20000 in
theorem ggL_law_X4_breaches : GoodIn wsL_law wsX4_breaches := goodIn_r _ [489, 199, 200, 201, 2, 202, 19, 18, 365, 173, 366, 367, 368, 369, 490, 491, 492, 493, 303, 304, 305, 306, 22, 494, 495, 496, 497, 16, 277, 278, 279, 280, 281, 15, 282, 283, 43, 95, 96, 498, 499, 500, 314, 132, 133, 134, 45, 135, 136, 137, 307, 308, 309, 310, 311, 312, 313, 315, 626, 627, 628, 629, 630, 631, 632, 633, 634, 635, 636, 637, 638, 639, 640, 641, 679, 680, 681, 682, 683, 684, 685, 686, 687, 688, 672, 673, 674] (by decide +kernel) (by decide +kernel)
set_option maxRecDepth 20000 in
theorem gL_law_X4_breaches : GoodIn wsL_law (wsV RL 168 RX4 yX4_breaches wsX4_breaches) := goodIn_app (goodIn_of _ (by decide +kernel)) ggL_law_X4_breaches
set_option maxRecDepth 20000 in
theorem ggL_law_X5_breaches : GoodIn wsL_law wsX5_breaches := goodIn_r _ [504, 114, 505, 506, 507, 5, 508, 191, 378, 379, 380, 381, 74, 75, 327, 328, 329, 330, 269, 73, 72, 107, 108, 109, 331, 332, 333, 334, 60, 68, 63, 65, 288, 289, 290, 291, 67, 148, 149, 150, 509, 510, 511, 512, 642, 643, 644, 645, 646, 647, 648, 649, 650, 651, 652, 653, 654, 655, 656, 657, 658, 659, 660, 661, 662, 663, 664, 665, 666, 667, 668, 669, 670, 671] (by decide +kernel) (by decide +kernel)
set_option maxRecDepth 20000 in
theorem gL_law_X5_breaches : GoodIn wsL_law (wsV RL 171 RX5 yX5_breaches wsX5_breaches) := goodIn_app (goodIn_of _ (by decide +kernel)) ggL_law_X5_breaches
set_option maxRecDepth 20000 in
theorem ggL_law_L_curfew : GoodIn wsL_law wsL_curfew := goodIn_ca (goodIn_r _ [515, 85, 516, 517, 518, 2, 519, 92, 93, 29, 30, 626, 627, 628, 629, 630, 631, 632, 633, 634, 635, 636, 637, 638, 639, 640, 641] (by decide +kernel) (by decide +kernel)) (goodIn_sub (fun _ h => List.mem_append_left _ (List.mem_append_right _ h)) (by decide +kernel))
set_option maxRecDepth 20000 in
theorem gL_law_L_curfew : GoodIn wsL_law (va_wsS RL 172 yL_curfew wsL_curfew) := goodIn_app (goodIn_of _ (by decide +kernel)) ggL_law_L_curfew
set_option maxRecDepth 20000 in
theorem ggL_law_X5_curfew : GoodIn wsL_law wsX5_curfew := goodIn_r _ [523, 524, 525, 107, 108, 5, 109, 110, 111, 112, 113, 114, 642, 643, 644, 645, 646, 647, 648, 649, 650, 651, 652, 653, 654, 655, 656, 657, 658, 659, 660, 661, 662, 663, 664, 665, 666, 667, 668, 669, 670, 671] (by decide +kernel) (by decide +kernel)
set_option maxRecDepth 20000 in
theorem gL_law_X5_curfew : GoodIn wsL_law (wsV RL 174 RX5 yX5_curfew wsX5_curfew) := goodIn_app (goodIn_of _ (by decide +kernel)) ggL_law_X5_curfew
set_option maxRecDepth 20000 in
theorem ggL_law_L_ready : GoodIn wsL_law wsL_ready := goodIn_ca (goodIn_ca (goodIn_r _ [528, 84, 85, 529, 530, 531, 2, 532, 90, 91, 92, 93, 252, 199, 200, 201, 202, 19, 18, 679, 680, 681, 682, 683, 684, 685, 686, 687, 688, 626, 627, 628, 629, 630, 631, 632, 633, 634, 635, 636, 637, 638, 639, 640, 641] (by decide +kernel) (by decide +kernel)) (goodIn_sub (fun _ h => List.mem_append_left _ (List.mem_append_left _ (List.mem_append_right _ h))) (by decide +kernel))) (goodIn_sub (fun _ h => List.mem_append_left _ (List.mem_append_right _ h)) (by decide +kernel))
set_option maxRecDepth 20000 in
theorem gL_law_L_ready : GoodIn wsL_law (va_wsS RL 175 yL_ready wsL_ready) := goodIn_app (goodIn_of _ (by decide +kernel)) ggL_law_L_ready
set_option maxRecDepth 20000 in
theorem ggL_law_X5_ready : GoodIn wsL_law wsX5_ready := goodIn_r _ [536, 257, 76, 207, 208, 209, 5, 210, 191, 107, 108, 109, 110, 111, 112, 113, 114, 642, 643, 644, 645, 646, 647, 648, 649, 650, 651, 652, 653, 654, 655, 656, 657, 658, 659, 660, 661, 662, 663, 664, 665, 666, 667, 668, 669, 670, 671] (by decide +kernel) (by decide +kernel)
set_option maxRecDepth 20000 in
theorem gL_law_X5_ready : GoodIn wsL_law (wsV RL 177 RX5 yX5_ready wsX5_ready) := goodIn_app (goodIn_of _ (by decide +kernel)) ggL_law_X5_ready
set_option maxRecDepth 20000 in
theorem ggL_law_L_propose : GoodIn wsL_law wsL_propose := goodIn_ca (goodIn_ca (goodIn_r _ [539, 84, 85, 540, 541, 542, 2, 543, 90, 91, 92, 93, 544, 545, 546, 547, 34, 677, 678, 626, 627, 628, 629, 630, 631, 632, 633, 634, 635, 636, 637, 638, 639, 640, 641] (by decide +kernel) (by decide +kernel)) (goodIn_sub (fun _ h => List.mem_append_left _ (List.mem_append_left _ (List.mem_append_right _ h))) (by decide +kernel))) (goodIn_sub (fun _ h => List.mem_append_left _ (List.mem_append_right _ h)) (by decide +kernel))
set_option maxRecDepth 20000 in
theorem gL_law_L_propose : GoodIn wsL_law (va_wsS RL 178 yL_propose wsL_propose) := goodIn_app (goodIn_of _ (by decide +kernel)) ggL_law_L_propose
set_option maxRecDepth 20000 in
theorem ggL_law_X5_propose : GoodIn wsL_law wsX5_propose := goodIn_r _ [551, 79, 107, 108, 5, 109, 110, 111, 112, 113, 114, 642, 643, 644, 645, 646, 647, 648, 649, 650, 651, 652, 653, 654, 655, 656, 657, 658, 659, 660, 661, 662, 663, 664, 665, 666, 667, 668, 669, 670, 671] (by decide +kernel) (by decide +kernel)
set_option maxRecDepth 20000 in
theorem gL_law_X5_propose : GoodIn wsL_law (wsV RL 180 RX5 yX5_propose wsX5_propose) := goodIn_app (goodIn_of _ (by decide +kernel)) ggL_law_X5_propose
set_option maxRecDepth 20000 in
theorem ggL_law_L_answer : GoodIn wsL_law wsL_answer := goodIn_ca (goodIn_ca (goodIn_r _ [554, 84, 122, 555, 556, 557, 2, 558, 90, 91, 127, 128, 544, 545, 546, 547, 34, 677, 678, 626, 627, 628, 629, 630, 631, 632, 633, 634, 635, 636, 637, 638, 639, 640, 641] (by decide +kernel) (by decide +kernel)) (goodIn_sub (fun _ h => List.mem_append_left _ (List.mem_append_left _ (List.mem_append_right _ h))) (by decide +kernel))) (goodIn_sub (fun _ h => List.mem_append_right _ h) (by decide +kernel))
set_option maxRecDepth 20000 in
theorem gL_law_L_answer : GoodIn wsL_law (va_wsS RL 181 yL_answer wsL_answer) := goodIn_app (goodIn_of _ (by decide +kernel)) ggL_law_L_answer
set_option maxRecDepth 20000 in
theorem ggL_law_X5_answer : GoodIn wsL_law wsX5_answer := goodIn_r _ [562, 79, 78, 107, 108, 5, 109, 110, 111, 112, 113, 114, 642, 643, 644, 645, 646, 647, 648, 649, 650, 651, 652, 653, 654, 655, 656, 657, 658, 659, 660, 661, 662, 663, 664, 665, 666, 667, 668, 669, 670, 671] (by decide +kernel) (by decide +kernel)
set_option maxRecDepth 20000 in
theorem gL_law_X5_answer : GoodIn wsL_law (wsV RL 183 RX5 yX5_answer wsX5_answer) := goodIn_app (goodIn_of _ (by decide +kernel)) ggL_law_X5_answer
set_option maxRecDepth 20000 in
theorem ggL_law_L_scene : GoodIn wsL_law wsL_scene := goodIn_ca (goodIn_r _ [565, 84, 566, 567, 568, 2, 569, 90, 91, 544, 545, 546, 547, 34, 677, 678, 626, 627, 628, 629, 630, 631, 632, 633, 634, 635, 636, 637, 638, 639, 640, 641] (by decide +kernel) (by decide +kernel)) (goodIn_sub (fun _ h => List.mem_append_left _ (List.mem_append_left _ (List.mem_append_right _ h))) (by decide +kernel))
set_option maxRecDepth 20000 in
theorem gL_law_L_scene : GoodIn wsL_law (va_wsS RL 184 yL_scene wsL_scene) := goodIn_app (goodIn_of _ (by decide +kernel)) ggL_law_L_scene
set_option maxRecDepth 20000 in
theorem ggL_law_X5_scene : GoodIn wsL_law wsX5_scene := goodIn_r _ [573, 79, 78, 107, 108, 5, 109, 110, 111, 112, 113, 114, 642, 643, 644, 645, 646, 647, 648, 649, 650, 651, 652, 653, 654, 655, 656, 657, 658, 659, 660, 661, 662, 663, 664, 665, 666, 667, 668, 669, 670, 671] (by decide +kernel) (by decide +kernel)
set_option maxRecDepth 20000 in
theorem gL_law_X5_scene : GoodIn wsL_law (wsV RL 186 RX5 yX5_scene wsX5_scene) := goodIn_app (goodIn_of _ (by decide +kernel)) ggL_law_X5_scene
set_option maxRecDepth 20000 in
theorem ggL_law_L_show : GoodIn wsL_law wsL_show := goodIn_ca (goodIn_r _ [576, 85, 577, 578, 579, 2, 580, 92, 93, 35, 36, 37, 38, 39, 581, 582, 583, 584, 199, 200, 201, 202, 19, 18, 626, 627, 628, 629, 630, 631, 632, 633, 634, 635, 636, 637, 638, 639, 640, 641, 679, 680, 681, 682, 683, 684, 685, 686, 687, 688] (by decide +kernel) (by decide +kernel)) (goodIn_sub (fun _ h => List.mem_append_left _ (List.mem_append_right _ h)) (by decide +kernel))
set_option maxRecDepth 20000 in
theorem gL_law_L_show : GoodIn wsL_law (va_wsS RL 187 yL_show wsL_show) := goodIn_app (goodIn_of _ (by decide +kernel)) ggL_law_L_show
set_option maxRecDepth 20000 in
theorem ggL_law_X5_show : GoodIn wsL_law wsX5_show := goodIn_r _ [588, 589, 590, 591, 592, 593, 107, 108, 5, 109, 110, 111, 112, 113, 114, 594, 595, 596, 597, 191, 74, 642, 643, 644, 645, 646, 647, 648, 649, 650, 651, 652, 653, 654, 655, 656, 657, 658, 659, 660, 661, 662, 663, 664, 665, 666, 667, 668, 669, 670, 671] (by decide +kernel) (by decide +kernel)
set_option maxRecDepth 20000 in
theorem gL_law_X5_show : GoodIn wsL_law (wsV RL 189 RX5 yX5_show wsX5_show) := goodIn_app (goodIn_of _ (by decide +kernel)) ggL_law_X5_show
set_option maxRecDepth 20000 in
theorem ggL_law_L_pass : GoodIn wsL_law wsL_pass := goodIn_ca (goodIn_ca (goodIn_r _ [600, 85, 122, 601, 602, 603, 2, 604, 92, 93, 127, 128, 252, 39, 37, 38, 35, 36, 605, 487, 488, 489, 199, 200, 201, 202, 19, 18, 365, 173, 366, 367, 368, 369, 490, 491, 492, 493, 303, 304, 305, 306, 22, 494, 495, 496, 497, 16, 277, 278, 279, 280, 281, 15, 282, 283, 43, 95, 96, 498, 499, 500, 314, 132, 133, 134, 45, 135, 136, 137, 307, 308, 309, 310, 311, 312, 313, 315, 581, 582, 583, 584, 606, 607, 608, 609, 218, 219, 220, 221, 610, 611, 612, 613, 614, 615, 616, 617, 29, 30, 626, 627, 628, 629, 630, 631, 632, 633, 634, 635, 636, 637, 638, 639, 640, 641, 679, 680, 681, 682, 683, 684, 685, 686, 687, 688, 672, 673, 674] (by decide +kernel) (by decide +kernel)) (goodIn_sub (fun _ h => List.mem_append_left _ (List.mem_append_right _ h)) (by decide +kernel))) (goodIn_sub (fun _ h => List.mem_append_right _ h) (by decide +kernel))
set_option maxRecDepth 20000 in
theorem gL_law_L_pass : GoodIn wsL_law (va_wsS RL 190 yL_pass wsL_pass) := goodIn_app (goodIn_of _ (by decide +kernel)) ggL_law_L_pass
set_option maxRecDepth 20000 in
theorem ggL_law_X5_pass : GoodIn wsL_law wsX5_pass := goodIn_r _ [621, 593, 257, 107, 108, 5, 109, 110, 111, 112, 113, 114, 505, 506, 507, 508, 191, 378, 379, 380, 381, 74, 75, 327, 328, 329, 330, 269, 73, 72, 331, 332, 333, 334, 60, 68, 63, 65, 288, 289, 290, 291, 67, 148, 149, 150, 509, 510, 511, 512, 622, 623, 624, 625, 524, 525, 591, 592, 69, 76, 589, 590, 594, 595, 596, 597, 642, 643, 644, 645, 646, 647, 648, 649, 650, 651, 652, 653, 654, 655, 656, 657, 658, 659, 660, 661, 662, 663, 664, 665, 666, 667, 668, 669, 670, 671] (by decide +kernel) (by decide +kernel)
set_option maxRecDepth 20000 in
theorem gL_law_X5_pass : GoodIn wsL_law (wsV RL 192 RX5 yX5_pass wsX5_pass) := goodIn_app (goodIn_of _ (by decide +kernel)) ggL_law_X5_pass
