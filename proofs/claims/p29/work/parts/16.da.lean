set_option maxRecDepth 20000 in
theorem ggL_act_L_low : GoodIn wsL_act wsL_low := goodIn_r _ [4, 5] (by decide +kernel) (by decide +kernel)
set_option maxRecDepth 20000 in
theorem gL_act_L_low : GoodIn wsL_act (va_wsS RL 98 yL_low wsL_low) := goodIn_app (goodIn_of _ (by decide +kernel)) ggL_act_L_low
set_option maxRecDepth 20000 in
theorem ggL_act_L_column : GoodIn wsL_act wsL_column := goodIn_ca (goodIn_ca (goodIn_r _ [8, 9, 10, 11, 12, 13, 14, 15, 16, 17, 18, 19, 20, 21, 22, 23, 24, 25, 26, 27, 28, 29, 30, 363, 364, 365, 366, 367, 368, 369, 370, 371, 372, 373, 374, 375, 376, 377, 378, 379, 380, 381] (by decide +kernel) (by decide +kernel)) (goodIn_sub (fun _ h => List.mem_cons_of_mem _ (List.mem_append_left _ (List.mem_append_left _ (List.mem_append_right _ h)))) (by decide +kernel))) (goodIn_sub (fun _ h => List.mem_cons_of_mem _ (List.mem_append_left _ (List.mem_append_right _ h))) (by decide +kernel))
set_option maxRecDepth 20000 in
theorem gL_act_L_column : GoodIn wsL_act (va_wsS RL 103 yL_column wsL_column) := goodIn_app (goodIn_of _ (by decide +kernel)) ggL_act_L_column
set_option maxRecDepth 20000 in
theorem ggL_act_L_tells : GoodIn wsL_act wsL_tells := goodIn_ca (goodIn_ca (goodIn_ca (goodIn_r _ [33, 9, 10, 34, 11, 35, 36, 37, 15, 38, 17, 18, 19, 20, 39, 40, 21, 22, 23, 24, 41, 42, 43, 44, 26, 45, 46, 47, 48, 49, 50, 51, 52, 53, 363, 364, 365, 366, 367, 368, 369, 370, 371, 372, 373, 374, 375, 376, 377, 378, 379, 380, 381] (by decide +kernel) (by decide +kernel)) (goodIn_sub (fun _ h => List.mem_cons_of_mem _ (List.mem_append_left _ (List.mem_append_left _ (List.mem_append_right _ h)))) (by decide +kernel))) (goodIn_sub (fun _ h => List.mem_cons_of_mem _ (List.mem_append_left _ (List.mem_append_right _ h))) (by decide +kernel))) (goodIn_sub (fun _ h => List.mem_cons_of_mem _ (List.mem_append_right _ h)) (by decide +kernel))
set_option maxRecDepth 20000 in
theorem gL_act_L_tells : GoodIn wsL_act (va_wsS RL 106 yL_tells wsL_tells) := goodIn_app (goodIn_of _ (by decide +kernel)) ggL_act_L_tells
set_option maxRecDepth 20000 in
theorem ggL_act_L_need : GoodIn wsL_act wsL_need := goodIn_ca (goodIn_r _ [56, 10, 11, 57, 58, 59, 15, 60, 19, 20, 61, 62, 63, 363, 364, 365, 366, 367, 368, 369, 370, 371, 372, 373, 374, 375, 376, 377, 378] (by decide +kernel) (by decide +kernel)) (goodIn_sub (fun _ h => List.mem_cons_of_mem _ (List.mem_append_left _ (List.mem_append_right _ h))) (by decide +kernel))
set_option maxRecDepth 20000 in
theorem gL_act_L_need : GoodIn wsL_act (va_wsS RL 109 yL_need wsL_need) := goodIn_app (goodIn_of _ (by decide +kernel)) ggL_act_L_need
set_option maxRecDepth 20000 in
theorem ggL_act_L_projector : GoodIn wsL_act wsL_projector := goodIn_ca (goodIn_ca (goodIn_ca (goodIn_r _ [66, 9, 10, 34, 11, 67, 68, 69, 15, 70, 17, 18, 19, 20, 39, 40, 21, 71, 72, 73, 74, 75, 22, 23, 24, 41, 42, 43, 76, 77, 78, 44, 26, 45, 46, 47, 48, 49, 50, 51, 52, 53, 79, 80, 81, 82, 83, 84, 85, 86, 87, 88, 89, 90, 363, 364, 365, 366, 367, 368, 369, 370, 371, 372, 373, 374, 375, 376, 377, 378, 382, 383, 384, 385, 386, 387, 388, 389, 390, 391, 379, 380, 381] (by decide +kernel) (by decide +kernel)) (goodIn_sub (fun _ h => List.mem_cons_of_mem _ (List.mem_append_left _ (List.mem_append_left _ (List.mem_append_right _ h)))) (by decide +kernel))) (goodIn_sub (fun _ h => List.mem_cons_of_mem _ (List.mem_append_left _ (List.mem_append_right _ h))) (by decide +kernel))) (goodIn_sub (fun _ h => List.mem_cons_of_mem _ (List.mem_append_right _ h)) (by decide +kernel))
set_option maxRecDepth 20000 in
theorem gL_act_L_projector : GoodIn wsL_act (va_wsS RL 112 yL_projector wsL_projector) := goodIn_app (goodIn_of _ (by decide +kernel)) ggL_act_L_projector
set_option maxRecDepth 20000 in
theorem ggL_act_L_aim : GoodIn wsL_act wsL_aim := goodIn_ca (goodIn_ca (goodIn_r _ [93, 9, 10, 11, 94, 95, 96, 15, 97, 17, 18, 19, 20, 98, 99, 100, 101, 71, 72, 22, 23, 24, 382, 383, 384, 385, 386, 387, 388, 389, 390, 391, 363, 364, 365, 366, 367, 368, 369, 370, 371, 372, 373, 374, 375, 376, 377, 378] (by decide +kernel) (by decide +kernel)) (goodIn_sub (fun _ h => List.mem_cons_of_mem _ (List.mem_append_left _ (List.mem_append_left _ (List.mem_append_right _ h)))) (by decide +kernel))) (goodIn_sub (fun _ h => List.mem_cons_of_mem _ (List.mem_append_left _ (List.mem_append_right _ h))) (by decide +kernel))
set_option maxRecDepth 20000 in
theorem gL_act_L_aim : GoodIn wsL_act (va_wsS RL 115 yL_aim wsL_aim) := goodIn_app (goodIn_of _ (by decide +kernel)) ggL_act_L_aim
set_option maxRecDepth 20000 in
theorem ggL_act_L_turn : GoodIn wsL_act wsL_turn := goodIn_ca (goodIn_ca (goodIn_r _ [104, 9, 34, 11, 105, 106, 107, 15, 108, 17, 18, 39, 40, 98, 99, 100, 101, 71, 72, 109, 110, 111, 112, 113, 114, 115, 116, 117, 76, 77, 78, 382, 383, 384, 385, 386, 387, 388, 389, 390, 391, 363, 364, 365, 366, 367, 368, 369, 370, 371, 372, 373, 374, 375, 376, 377, 378] (by decide +kernel) (by decide +kernel)) (goodIn_sub (fun _ h => List.mem_cons_of_mem _ (List.mem_append_left _ (List.mem_append_left _ (List.mem_append_right _ h)))) (by decide +kernel))) (goodIn_sub (fun _ h => List.mem_cons_of_mem _ (List.mem_append_right _ h)) (by decide +kernel))
set_option maxRecDepth 20000 in
theorem gL_act_L_turn : GoodIn wsL_act (va_wsS RL 117 yL_turn wsL_turn) := goodIn_app (goodIn_of _ (by decide +kernel)) ggL_act_L_turn
set_option maxRecDepth 20000 in
theorem ggL_act_L_fail : GoodIn wsL_act wsL_fail := goodIn_ca (goodIn_r _ [120, 9, 11, 121, 122, 123, 15, 124, 17, 18, 98, 99, 100, 101, 71, 72, 382, 383, 384, 385, 386, 387, 388, 389, 390, 391, 363, 364, 365, 366, 367, 368, 369, 370, 371, 372, 373, 374, 375, 376, 377, 378] (by decide +kernel) (by decide +kernel)) (goodIn_sub (fun _ h => List.mem_cons_of_mem _ (List.mem_append_left _ (List.mem_append_left _ (List.mem_append_right _ h)))) (by decide +kernel))
set_option maxRecDepth 20000 in
theorem gL_act_L_fail : GoodIn wsL_act (va_wsS RL 120 yL_fail wsL_fail) := goodIn_app (goodIn_of _ (by decide +kernel)) ggL_act_L_fail
set_option maxRecDepth 20000 in
theorem ggL_act_L_phase : GoodIn wsL_act wsL_phase := goodIn_ca (goodIn_r _ [127, 10, 11, 128, 129, 130, 15, 131, 19, 20, 132, 117, 76, 77, 78, 363, 364, 365, 366, 367, 368, 369, 370, 371, 372, 373, 374, 375, 376, 377, 378] (by decide +kernel) (by decide +kernel)) (goodIn_sub (fun _ h => List.mem_cons_of_mem _ (List.mem_append_left _ (List.mem_append_right _ h))) (by decide +kernel))
set_option maxRecDepth 20000 in
theorem gL_act_L_phase : GoodIn wsL_act (va_wsS RL 122 yL_phase wsL_phase) := goodIn_app (goodIn_of _ (by decide +kernel)) ggL_act_L_phase
set_option maxRecDepth 20000 in
theorem ggL_act_L_wind : GoodIn wsL_act wsL_wind := goodIn_ca (goodIn_r _ [135, 10, 11, 136, 137, 138, 15, 139, 19, 20, 140, 363, 364, 365, 366, 367, 368, 369, 370, 371, 372, 373, 374, 375, 376, 377, 378] (by decide +kernel) (by decide +kernel)) (goodIn_sub (fun _ h => List.mem_cons_of_mem _ (List.mem_append_left _ (List.mem_append_right _ h))) (by decide +kernel))
set_option maxRecDepth 20000 in
theorem gL_act_L_wind : GoodIn wsL_act (va_wsS RL 124 yL_wind wsL_wind) := goodIn_app (goodIn_of _ (by decide +kernel)) ggL_act_L_wind
set_option maxRecDepth 20000 in
theorem ggL_act_L_through : GoodIn wsL_act wsL_through := goodIn_ca (goodIn_r _ [143, 9, 11, 144, 145, 146, 15, 147, 17, 18, 98, 99, 100, 101, 71, 72, 22, 23, 24, 148, 149, 150, 151, 21, 152, 26, 153, 154, 29, 363, 364, 365, 366, 367, 368, 369, 370, 371, 372, 373, 374, 375, 376, 377, 378, 382, 383, 384, 385, 386, 387, 388, 389, 390, 391, 379, 380, 381] (by decide +kernel) (by decide +kernel)) (goodIn_sub (fun _ h => List.mem_cons_of_mem _ (List.mem_append_left _ (List.mem_append_left _ (List.mem_append_right _ h)))) (by decide +kernel))
set_option maxRecDepth 20000 in
theorem gL_act_L_through : GoodIn wsL_act (va_wsS RL 127 yL_through wsL_through) := goodIn_app (goodIn_of _ (by decide +kernel)) ggL_act_L_through
set_option maxRecDepth 20000 in
theorem ggL_act_L_gives : GoodIn wsL_act wsL_gives := goodIn_ca (goodIn_r _ [157, 9, 11, 158, 159, 160, 15, 161, 17, 18, 98, 99, 100, 101, 71, 72, 22, 23, 24, 162, 163, 164, 165, 21, 166, 167, 168, 169, 140, 170, 171, 172, 173, 152, 26, 153, 154, 29, 148, 149, 150, 151, 174, 175, 176, 177, 44, 45, 46, 47, 48, 49, 50, 178, 179, 180, 181, 30, 363, 364, 365, 366, 367, 368, 369, 370, 371, 372, 373, 374, 375, 376, 377, 378, 382, 383, 384, 385, 386, 387, 388, 389, 390, 391, 379, 380, 381] (by decide +kernel) (by decide +kernel)) (goodIn_sub (fun _ h => List.mem_cons_of_mem _ (List.mem_append_left _ (List.mem_append_left _ (List.mem_append_right _ h)))) (by decide +kernel))
set_option maxRecDepth 20000 in
theorem gL_act_L_gives : GoodIn wsL_act (va_wsS RL 129 yL_gives wsL_gives) := goodIn_app (goodIn_of _ (by decide +kernel)) ggL_act_L_gives
set_option maxRecDepth 20000 in
theorem ggL_act_L_sharp : GoodIn wsL_act wsL_sharp := goodIn_ca (goodIn_r _ [184, 9, 11, 185, 186, 187, 15, 188, 17, 18, 98, 99, 100, 101, 71, 72, 22, 23, 24, 189, 190, 191, 192, 21, 152, 26, 153, 154, 29, 363, 364, 365, 366, 367, 368, 369, 370, 371, 372, 373, 374, 375, 376, 377, 378, 382, 383, 384, 385, 386, 387, 388, 389, 390, 391, 379, 380, 381] (by decide +kernel) (by decide +kernel)) (goodIn_sub (fun _ h => List.mem_cons_of_mem _ (List.mem_append_left _ (List.mem_append_left _ (List.mem_append_right _ h)))) (by decide +kernel))
set_option maxRecDepth 20000 in
theorem gL_act_L_sharp : GoodIn wsL_act (va_wsS RL 131 yL_sharp wsL_sharp) := goodIn_app (goodIn_of _ (by decide +kernel)) ggL_act_L_sharp
set_option maxRecDepth 20000 in
theorem ggL_act_L_light : GoodIn wsL_act wsL_light := goodIn_ca (goodIn_r _ [195, 9, 11, 196, 197, 198, 15, 199, 17, 18, 22, 23, 24, 200, 201, 202, 203, 98, 99, 100, 101, 71, 72, 204, 75, 205, 206, 207, 208, 162, 163, 164, 165, 21, 166, 167, 168, 169, 140, 170, 171, 172, 173, 152, 26, 153, 154, 29, 148, 149, 150, 151, 174, 175, 176, 177, 44, 45, 46, 47, 48, 49, 50, 178, 179, 180, 181, 30, 363, 364, 365, 366, 367, 368, 369, 370, 371, 372, 373, 374, 375, 376, 377, 378, 382, 383, 384, 385, 386, 387, 388, 389, 390, 391, 379, 380, 381] (by decide +kernel) (by decide +kernel)) (goodIn_sub (fun _ h => List.mem_cons_of_mem _ (List.mem_append_left _ (List.mem_append_left _ (List.mem_append_right _ h)))) (by decide +kernel))
set_option maxRecDepth 20000 in
theorem gL_act_L_light : GoodIn wsL_act (va_wsS RL 134 yL_light wsL_light) := goodIn_app (goodIn_of _ (by decide +kernel)) ggL_act_L_light
set_option maxRecDepth 20000 in
theorem ggL_act_L_blended : GoodIn wsL_act wsL_blended := goodIn_ca (goodIn_r _ [211, 9, 11, 212, 213, 214, 15, 215, 17, 18, 63, 98, 99, 100, 101, 71, 72, 22, 23, 24, 204, 75, 205, 206, 207, 208, 162, 163, 164, 165, 21, 166, 167, 168, 169, 140, 170, 171, 172, 173, 152, 26, 153, 154, 29, 148, 149, 150, 151, 174, 175, 176, 177, 44, 45, 46, 47, 48, 49, 50, 178, 179, 180, 181, 30, 200, 201, 202, 203, 363, 364, 365, 366, 367, 368, 369, 370, 371, 372, 373, 374, 375, 376, 377, 378, 382, 383, 384, 385, 386, 387, 388, 389, 390, 391, 379, 380, 381] (by decide +kernel) (by decide +kernel)) (goodIn_sub (fun _ h => List.mem_cons_of_mem _ (List.mem_append_left _ (List.mem_append_left _ (List.mem_append_right _ h)))) (by decide +kernel))
set_option maxRecDepth 20000 in
theorem gL_act_L_blended : GoodIn wsL_act (va_wsS RL 136 yL_blended wsL_blended) := goodIn_app (goodIn_of _ (by decide +kernel)) ggL_act_L_blended
set_option maxRecDepth 20000 in
theorem ggL_act_L_covered : GoodIn wsL_act wsL_covered := goodIn_ca (goodIn_r _ [218, 10, 11, 219, 220, 221, 15, 222, 19, 20, 223, 63, 224, 225, 226, 227, 71, 228, 229, 230, 231, 98, 99, 100, 101, 72, 232, 233, 234, 235, 236, 237, 238, 239, 240, 23, 24, 162, 163, 164, 165, 21, 166, 167, 168, 169, 140, 170, 171, 172, 173, 152, 26, 153, 154, 29, 148, 149, 150, 151, 174, 175, 176, 177, 44, 45, 46, 47, 48, 49, 50, 178, 179, 180, 181, 30, 189, 190, 191, 192, 241, 242, 243, 363, 364, 365, 366, 367, 368, 369, 370, 371, 372, 373, 374, 375, 376, 377, 378, 382, 383, 384, 385, 386, 387, 388, 389, 390, 391, 392, 393, 379, 380, 381] (by decide +kernel) (by decide +kernel)) (goodIn_sub (fun _ h => List.mem_cons_of_mem _ (List.mem_append_left _ (List.mem_append_right _ h))) (by decide +kernel))
set_option maxRecDepth 20000 in
theorem gL_act_L_covered : GoodIn wsL_act (va_wsS RL 138 yL_covered wsL_covered) := goodIn_app (goodIn_of _ (by decide +kernel)) ggL_act_L_covered
set_option maxRecDepth 20000 in
theorem ggL_act_X4_least : GoodIn wsL_act wsX4_least := goodIn_r _ [247, 71, 223, 62, 63, 228, 229, 230, 15, 231, 98, 99, 100, 101, 72, 232, 233, 234, 235, 236, 237, 238, 239, 240, 23, 24, 162, 163, 164, 165, 21, 166, 167, 168, 169, 140, 170, 171, 172, 173, 152, 26, 153, 154, 29, 148, 149, 150, 151, 174, 175, 176, 177, 44, 45, 46, 47, 48, 49, 50, 178, 179, 180, 181, 30, 189, 190, 191, 192, 248, 249, 250, 251, 252, 253, 254, 255, 256, 257, 258, 259, 260, 261, 262, 241, 242, 243, 363, 364, 365, 366, 367, 368, 369, 370, 371, 372, 373, 374, 375, 376, 377, 378, 382, 383, 384, 385, 386, 387, 388, 389, 390, 391, 392, 393, 379, 380, 381] (by decide +kernel) (by decide +kernel)
set_option maxRecDepth 20000 in
theorem gL_act_X4_least : GoodIn wsL_act (wsV RL 140 RX4 yX4_least wsX4_least) := goodIn_app (goodIn_of _ (by decide +kernel)) ggL_act_X4_least
set_option maxRecDepth 20000 in
theorem ggL_act_L_bears : GoodIn wsL_act wsL_bears := goodIn_ca (goodIn_r _ [265, 10, 11, 266, 267, 268, 15, 269, 19, 20, 223, 62, 63, 224, 225, 226, 227, 71, 228, 229, 230, 231, 98, 99, 100, 101, 72, 232, 233, 234, 235, 236, 237, 238, 239, 240, 23, 24, 162, 163, 164, 165, 21, 166, 167, 168, 169, 140, 170, 171, 172, 173, 152, 26, 153, 154, 29, 148, 149, 150, 151, 174, 175, 176, 177, 44, 45, 46, 47, 48, 49, 50, 178, 179, 180, 181, 30, 189, 190, 191, 192, 259, 260, 261, 262, 241, 242, 243, 363, 364, 365, 366, 367, 368, 369, 370, 371, 372, 373, 374, 375, 376, 377, 378, 382, 383, 384, 385, 386, 387, 388, 389, 390, 391, 392, 393, 379, 380, 381] (by decide +kernel) (by decide +kernel)) (goodIn_sub (fun _ h => List.mem_cons_of_mem _ (List.mem_append_left _ (List.mem_append_right _ h))) (by decide +kernel))
set_option maxRecDepth 20000 in
theorem gL_act_L_bears : GoodIn wsL_act (va_wsS RL 144 yL_bears wsL_bears) := goodIn_app (goodIn_of _ (by decide +kernel)) ggL_act_L_bears
set_option maxRecDepth 20000 in
theorem ggL_act_X4_breaches : GoodIn wsL_act wsX4_breaches := goodIn_r _ [273, 98, 99, 100, 15, 101, 71, 72, 204, 75, 205, 206, 207, 208, 274, 275, 276, 277, 166, 167, 168, 169, 140, 278, 279, 280, 281, 21, 148, 149, 150, 151, 152, 26, 153, 154, 29, 23, 24, 282, 283, 284, 177, 44, 45, 46, 47, 48, 49, 50, 170, 171, 172, 173, 174, 175, 176, 178, 363, 364, 365, 366, 367, 368, 369, 370, 371, 372, 373, 374, 375, 376, 377, 378, 382, 383, 384, 385, 386, 387, 388, 389, 390, 391, 379, 380, 381] (by decide +kernel) (by decide +kernel)
set_option maxRecDepth 20000 in
theorem gL_act_X4_breaches : GoodIn wsL_act (wsV RL 146 RX4 yX4_breaches wsX4_breaches) := goodIn_app (goodIn_of _ (by decide +kernel)) ggL_act_X4_breaches
set_option maxRecDepth 20000 in
theorem ggL_act_L_curfew : GoodIn wsL_act wsL_curfew := goodIn_ca (goodIn_r _ [287, 10, 11, 288, 289, 290, 15, 291, 19, 20, 292, 293, 363, 364, 365, 366, 367, 368, 369, 370, 371, 372, 373, 374, 375, 376, 377, 378] (by decide +kernel) (by decide +kernel)) (goodIn_sub (fun _ h => List.mem_cons_of_mem _ (List.mem_append_left _ (List.mem_append_right _ h))) (by decide +kernel))
set_option maxRecDepth 20000 in
theorem gL_act_L_curfew : GoodIn wsL_act (va_wsS RL 149 yL_curfew wsL_curfew) := goodIn_app (goodIn_of _ (by decide +kernel)) ggL_act_L_curfew
set_option maxRecDepth 20000 in
theorem ggL_act_L_ready : GoodIn wsL_act wsL_ready := goodIn_ca (goodIn_ca (goodIn_r _ [296, 9, 10, 11, 297, 298, 299, 15, 300, 17, 18, 19, 20, 132, 98, 99, 100, 101, 71, 72, 382, 383, 384, 385, 386, 387, 388, 389, 390, 391, 363, 364, 365, 366, 367, 368, 369, 370, 371, 372, 373, 374, 375, 376, 377, 378] (by decide +kernel) (by decide +kernel)) (goodIn_sub (fun _ h => List.mem_cons_of_mem _ (List.mem_append_left _ (List.mem_append_left _ (List.mem_append_right _ h)))) (by decide +kernel))) (goodIn_sub (fun _ h => List.mem_cons_of_mem _ (List.mem_append_left _ (List.mem_append_right _ h))) (by decide +kernel))
set_option maxRecDepth 20000 in
theorem gL_act_L_ready : GoodIn wsL_act (va_wsS RL 151 yL_ready wsL_ready) := goodIn_app (goodIn_of _ (by decide +kernel)) ggL_act_L_ready
set_option maxRecDepth 20000 in
theorem ggL_act_L_propose : GoodIn wsL_act wsL_propose := goodIn_ca (goodIn_ca (goodIn_r _ [303, 9, 10, 11, 304, 305, 306, 15, 307, 17, 18, 19, 20, 308, 309, 310, 311, 312, 394, 395, 363, 364, 365, 366, 367, 368, 369, 370, 371, 372, 373, 374, 375, 376, 377, 378] (by decide +kernel) (by decide +kernel)) (goodIn_sub (fun _ h => List.mem_cons_of_mem _ (List.mem_append_left _ (List.mem_append_left _ (List.mem_append_right _ h)))) (by decide +kernel))) (goodIn_sub (fun _ h => List.mem_cons_of_mem _ (List.mem_append_left _ (List.mem_append_right _ h))) (by decide +kernel))
set_option maxRecDepth 20000 in
theorem gL_act_L_propose : GoodIn wsL_act (va_wsS RL 153 yL_propose wsL_propose) := goodIn_app (goodIn_of _ (by decide +kernel)) ggL_act_L_propose
set_option maxRecDepth 20000 in
theorem ggL_act_L_answer : GoodIn wsL_act wsL_answer := goodIn_ca (goodIn_ca (goodIn_r _ [315, 9, 34, 11, 316, 317, 318, 15, 319, 17, 18, 39, 40, 308, 309, 310, 311, 312, 394, 395, 363, 364, 365, 366, 367, 368, 369, 370, 371, 372, 373, 374, 375, 376, 377, 378] (by decide +kernel) (by decide +kernel)) (goodIn_sub (fun _ h => List.mem_cons_of_mem _ (List.mem_append_left _ (List.mem_append_left _ (List.mem_append_right _ h)))) (by decide +kernel))) (goodIn_sub (fun _ h => List.mem_cons_of_mem _ (List.mem_append_right _ h)) (by decide +kernel))
set_option maxRecDepth 20000 in
theorem gL_act_L_answer : GoodIn wsL_act (va_wsS RL 155 yL_answer wsL_answer) := goodIn_app (goodIn_of _ (by decide +kernel)) ggL_act_L_answer
set_option maxRecDepth 20000 in
theorem ggL_act_L_scene : GoodIn wsL_act wsL_scene := goodIn_ca (goodIn_r _ [322, 9, 11, 323, 324, 325, 15, 326, 17, 18, 308, 309, 310, 311, 312, 394, 395, 363, 364, 365, 366, 367, 368, 369, 370, 371, 372, 373, 374, 375, 376, 377, 378] (by decide +kernel) (by decide +kernel)) (goodIn_sub (fun _ h => List.mem_cons_of_mem _ (List.mem_append_left _ (List.mem_append_left _ (List.mem_append_right _ h)))) (by decide +kernel))
set_option maxRecDepth 20000 in
theorem gL_act_L_scene : GoodIn wsL_act (va_wsS RL 157 yL_scene wsL_scene) := goodIn_app (goodIn_of _ (by decide +kernel)) ggL_act_L_scene
set_option maxRecDepth 20000 in
theorem ggL_act_L_show : GoodIn wsL_act wsL_show := goodIn_ca (goodIn_r _ [329, 10, 11, 330, 331, 332, 15, 333, 19, 20, 334, 335, 336, 337, 338, 339, 340, 341, 342, 98, 99, 100, 101, 71, 72, 363, 364, 365, 366, 367, 368, 369, 370, 371, 372, 373, 374, 375, 376, 377, 378, 382, 383, 384, 385, 386, 387, 388, 389, 390, 391] (by decide +kernel) (by decide +kernel)) (goodIn_sub (fun _ h => List.mem_cons_of_mem _ (List.mem_append_left _ (List.mem_append_right _ h))) (by decide +kernel))
set_option maxRecDepth 20000 in
theorem gL_act_L_show : GoodIn wsL_act (va_wsS RL 159 yL_show wsL_show) := goodIn_app (goodIn_of _ (by decide +kernel)) ggL_act_L_show
set_option maxRecDepth 20000 in
theorem ggL_act_L_pass : GoodIn wsL_act wsL_pass := goodIn_ca (goodIn_ca (goodIn_r _ [345, 10, 34, 11, 346, 347, 348, 15, 349, 19, 20, 39, 40, 132, 338, 336, 337, 334, 335, 350, 271, 272, 273, 98, 99, 100, 101, 71, 72, 204, 75, 205, 206, 207, 208, 274, 275, 276, 277, 166, 167, 168, 169, 140, 278, 279, 280, 281, 21, 148, 149, 150, 151, 152, 26, 153, 154, 29, 23, 24, 282, 283, 284, 177, 44, 45, 46, 47, 48, 49, 50, 170, 171, 172, 173, 174, 175, 176, 178, 339, 340, 341, 342, 351, 352, 353, 354, 109, 110, 111, 112, 355, 356, 357, 358, 359, 360, 361, 362, 292, 293, 363, 364, 365, 366, 367, 368, 369, 370, 371, 372, 373, 374, 375, 376, 377, 378, 382, 383, 384, 385, 386, 387, 388, 389, 390, 391, 379, 380, 381] (by decide +kernel) (by decide +kernel)) (goodIn_sub (fun _ h => List.mem_cons_of_mem _ (List.mem_append_left _ (List.mem_append_right _ h))) (by decide +kernel))) (goodIn_sub (fun _ h => List.mem_cons_of_mem _ (List.mem_append_right _ h)) (by decide +kernel))
set_option maxRecDepth 20000 in
theorem gL_act_L_pass : GoodIn wsL_act (va_wsS RL 161 yL_pass wsL_pass) := goodIn_app (goodIn_of _ (by decide +kernel)) ggL_act_L_pass
theorem dL_act_0 : decode cL_act 0 = .ok (.iload_n 1, 1) := by decide +kernel
theorem dL_act_1 : decode cL_act 1 = .ok (.bipush 26, 2) := by decide +kernel
theorem dL_act_3 : decode cL_act 3 = .ok (.ishr, 1) := by decide +kernel
theorem dL_act_4 : decode cL_act 4 = .ok (.bipush 14, 2) := by decide +kernel
theorem dL_act_6 : decode cL_act 6 = .ok (.invokestatic 98, 3) := by decide +kernel
theorem dL_act_9 : decode cL_act 9 = .ok (.ifCond .ne 7, 3) := by decide +kernel
theorem dL_act_12 : decode cL_act 12 = .ok (.iconst 1, 1) := by decide +kernel
theorem dL_act_13 : decode cL_act 13 = .ok (.goto 4, 3) := by decide +kernel
theorem dL_act_16 : decode cL_act 16 = .ok (.iconst 0, 1) := by decide +kernel
theorem dL_act_17 : decode cL_act 17 = .ok (.istore_n 2, 1) := by decide +kernel
theorem dL_act_18 : decode cL_act 18 = .ok (.iload_n 2, 1) := by decide +kernel
theorem dL_act_19 : decode cL_act 19 = .ok (.ifCond .eq 16, 3) := by decide +kernel
theorem dL_act_22 : decode cL_act 22 = .ok (.iload_n 1, 1) := by decide +kernel
theorem dL_act_23 : decode cL_act 23 = .ok (.iconst 4, 1) := by decide +kernel
theorem dL_act_24 : decode cL_act 24 = .ok (.ishr, 1) := by decide +kernel
theorem dL_act_25 : decode cL_act 25 = .ok (.bipush 14, 2) := by decide +kernel
theorem dL_act_27 : decode cL_act 27 = .ok (.invokestatic 98, 3) := by decide +kernel
theorem dL_act_30 : decode cL_act 30 = .ok (.iconst 2, 1) := by decide +kernel
theorem dL_act_31 : decode cL_act 31 = .ok (.isub, 1) := by decide +kernel
theorem dL_act_32 : decode cL_act 32 = .ok (.goto 10, 3) := by decide +kernel
theorem dL_act_35 : decode cL_act 35 = .ok (.iload_n 1, 1) := by decide +kernel
theorem dL_act_36 : decode cL_act 36 = .ok (.iconst 4, 1) := by decide +kernel
theorem dL_act_37 : decode cL_act 37 = .ok (.ishr, 1) := by decide +kernel
theorem dL_act_38 : decode cL_act 38 = .ok (.iconst 5, 1) := by decide +kernel
theorem dL_act_39 : decode cL_act 39 = .ok (.invokestatic 98, 3) := by decide +kernel
theorem dL_act_42 : decode cL_act 42 = .ok (.istore_n 3, 1) := by decide +kernel
theorem dL_act_43 : decode cL_act 43 = .ok (.iload_n 2, 1) := by decide +kernel
theorem dL_act_44 : decode cL_act 44 = .ok (.ifCond .eq 17, 3) := by decide +kernel
theorem dL_act_47 : decode cL_act 47 = .ok (.iload_n 1, 1) := by decide +kernel
theorem dL_act_48 : decode cL_act 48 = .ok (.bipush 7, 2) := by decide +kernel
theorem dL_act_50 : decode cL_act 50 = .ok (.ishr, 1) := by decide +kernel
theorem dL_act_51 : decode cL_act 51 = .ok (.bipush 20, 2) := by decide +kernel
theorem dL_act_53 : decode cL_act 53 = .ok (.invokestatic 98, 3) := by decide +kernel
theorem dL_act_56 : decode cL_act 56 = .ok (.iconst 2, 1) := by decide +kernel
theorem dL_act_57 : decode cL_act 57 = .ok (.isub, 1) := by decide +kernel
theorem dL_act_58 : decode cL_act 58 = .ok (.goto 12, 3) := by decide +kernel
theorem dL_act_61 : decode cL_act 61 = .ok (.iload_n 1, 1) := by decide +kernel
theorem dL_act_62 : decode cL_act 62 = .ok (.bipush 7, 2) := by decide +kernel
theorem dL_act_64 : decode cL_act 64 = .ok (.ishr, 1) := by decide +kernel
theorem dL_act_65 : decode cL_act 65 = .ok (.bipush 16, 2) := by decide +kernel
theorem dL_act_67 : decode cL_act 67 = .ok (.invokestatic 98, 3) := by decide +kernel
theorem dL_act_70 : decode cL_act 70 = .ok (.istore 4, 2) := by decide +kernel
theorem dL_act_72 : decode cL_act 72 = .ok (.iload_n 2, 1) := by decide +kernel
theorem dL_act_73 : decode cL_act 73 = .ok (.ifCond .eq 16, 3) := by decide +kernel
theorem dL_act_76 : decode cL_act 76 = .ok (.iload_n 1, 1) := by decide +kernel
theorem dL_act_77 : decode cL_act 77 = .ok (.iconst 5, 1) := by decide +kernel
theorem dL_act_78 : decode cL_act 78 = .ok (.ishr, 1) := by decide +kernel
theorem dL_act_79 : decode cL_act 79 = .ok (.bipush 15, 2) := by decide +kernel
theorem dL_act_81 : decode cL_act 81 = .ok (.invokestatic 98, 3) := by decide +kernel
theorem dL_act_84 : decode cL_act 84 = .ok (.iconst 1, 1) := by decide +kernel
theorem dL_act_85 : decode cL_act 85 = .ok (.isub, 1) := by decide +kernel
theorem dL_act_86 : decode cL_act 86 = .ok (.goto 13, 3) := by decide +kernel
theorem dL_act_89 : decode cL_act 89 = .ok (.iconst 3, 1) := by decide +kernel
theorem dL_act_90 : decode cL_act 90 = .ok (.iload_n 1, 1) := by decide +kernel
theorem dL_act_91 : decode cL_act 91 = .ok (.iconst 5, 1) := by decide +kernel
theorem dL_act_92 : decode cL_act 92 = .ok (.ishr, 1) := by decide +kernel
theorem dL_act_93 : decode cL_act 93 = .ok (.bipush 9, 2) := by decide +kernel
theorem dL_act_95 : decode cL_act 95 = .ok (.invokestatic 98, 3) := by decide +kernel
theorem dL_act_98 : decode cL_act 98 = .ok (.iadd, 1) := by decide +kernel
theorem dL_act_99 : decode cL_act 99 = .ok (.istore 5, 2) := by decide +kernel
theorem dL_act_101 : decode cL_act 101 = .ok (.iload_n 2, 1) := by decide +kernel
theorem dL_act_102 : decode cL_act 102 = .ok (.ifCond .eq 10, 3) := by decide +kernel
theorem dL_act_105 : decode cL_act 105 = .ok (.iload_n 1, 1) := by decide +kernel
theorem dL_act_106 : decode cL_act 106 = .ok (.bipush 9, 2) := by decide +kernel
theorem dL_act_108 : decode cL_act 108 = .ok (.ishr, 1) := by decide +kernel
theorem dL_act_109 : decode cL_act 109 = .ok (.goto 12, 3) := by decide +kernel
theorem dL_act_112 : decode cL_act 112 = .ok (.iload_n 1, 1) := by decide +kernel
theorem dL_act_113 : decode cL_act 113 = .ok (.bipush 9, 2) := by decide +kernel
theorem dL_act_115 : decode cL_act 115 = .ok (.ishr, 1) := by decide +kernel
theorem dL_act_116 : decode cL_act 116 = .ok (.bipush 90, 2) := by decide +kernel
theorem dL_act_118 : decode cL_act 118 = .ok (.invokestatic 98, 3) := by decide +kernel
theorem dL_act_121 : decode cL_act 121 = .ok (.istore 6, 2) := by decide +kernel
theorem dL_act_123 : decode cL_act 123 = .ok (.iload_n 2, 1) := by decide +kernel
theorem dL_act_124 : decode cL_act 124 = .ok (.ifCond .eq 17, 3) := by decide +kernel
theorem dL_act_127 : decode cL_act 127 = .ok (.iload_n 1, 1) := by decide +kernel
theorem dL_act_128 : decode cL_act 128 = .ok (.bipush 11, 2) := by decide +kernel
theorem dL_act_130 : decode cL_act 130 = .ok (.ishr, 1) := by decide +kernel
theorem dL_act_131 : decode cL_act 131 = .ok (.bipush 12, 2) := by decide +kernel
theorem dL_act_133 : decode cL_act 133 = .ok (.invokestatic 98, 3) := by decide +kernel
theorem dL_act_136 : decode cL_act 136 = .ok (.iconst 2, 1) := by decide +kernel
theorem dL_act_137 : decode cL_act 137 = .ok (.isub, 1) := by decide +kernel
theorem dL_act_138 : decode cL_act 138 = .ok (.goto 11, 3) := by decide +kernel
theorem dL_act_141 : decode cL_act 141 = .ok (.iload_n 1, 1) := by decide +kernel
theorem dL_act_142 : decode cL_act 142 = .ok (.bipush 11, 2) := by decide +kernel
theorem dL_act_144 : decode cL_act 144 = .ok (.ishr, 1) := by decide +kernel
theorem dL_act_145 : decode cL_act 145 = .ok (.iconst 3, 1) := by decide +kernel
theorem dL_act_146 : decode cL_act 146 = .ok (.invokestatic 98, 3) := by decide +kernel
theorem dL_act_149 : decode cL_act 149 = .ok (.istore 7, 2) := by decide +kernel
theorem dL_act_151 : decode cL_act 151 = .ok (.iload_n 1, 1) := by decide +kernel
theorem dL_act_152 : decode cL_act 152 = .ok (.bipush 15, 2) := by decide +kernel
theorem dL_act_154 : decode cL_act 154 = .ok (.ishr, 1) := by decide +kernel
theorem dL_act_155 : decode cL_act 155 = .ok (.iconst 1, 1) := by decide +kernel
theorem dL_act_156 : decode cL_act 156 = .ok (.iand, 1) := by decide +kernel
theorem dL_act_157 : decode cL_act 157 = .ok (.iconst 1, 1) := by decide +kernel
theorem dL_act_158 : decode cL_act 158 = .ok (.if_icmp .ne 7, 3) := by decide +kernel
theorem dL_act_161 : decode cL_act 161 = .ok (.iconst 1, 1) := by decide +kernel
theorem dL_act_162 : decode cL_act 162 = .ok (.goto 4, 3) := by decide +kernel
theorem dL_act_165 : decode cL_act 165 = .ok (.iconst 0, 1) := by decide +kernel
theorem dL_act_166 : decode cL_act 166 = .ok (.istore 8, 2) := by decide +kernel
theorem dL_act_168 : decode cL_act 168 = .ok (.iload_n 1, 1) := by decide +kernel
theorem dL_act_169 : decode cL_act 169 = .ok (.bipush 38, 2) := by decide +kernel
theorem dL_act_171 : decode cL_act 171 = .ok (.invokestatic 98, 3) := by decide +kernel
theorem dL_act_174 : decode cL_act 174 = .ok (.tableswitch 665 0 34 #[154, 154, 180, 180, 206, 249, 249, 249, 249, 249, 302, 302, 302, 351, 351, 351, 351, 373, 381, 401, 424, 449, 457, 465, 472, 480, 501, 541, 547, 589, 589, 607, 624, 633, 642], 154) := by decide +kernel
theorem dL_act_328 : decode cL_act 328 = .ok (.aload_n 0, 1) := by decide +kernel
theorem dL_act_329 : decode cL_act 329 = .ok (.iload 4, 2) := by decide +kernel
theorem dL_act_331 : decode cL_act 331 = .ok (.iload 7, 2) := by decide +kernel
theorem dL_act_333 : decode cL_act 333 = .ok (.iload_n 2, 1) := by decide +kernel
theorem dL_act_334 : decode cL_act 334 = .ok (.ifCond .eq 8, 3) := by decide +kernel
theorem dL_act_337 : decode cL_act 337 = .ok (.iload 6, 2) := by decide +kernel
theorem dL_act_339 : decode cL_act 339 = .ok (.goto 11, 3) := by decide +kernel
theorem dL_act_342 : decode cL_act 342 = .ok (.iload_n 1, 1) := by decide +kernel
theorem dL_act_343 : decode cL_act 343 = .ok (.bipush 13, 2) := by decide +kernel
theorem dL_act_345 : decode cL_act 345 = .ok (.ishr, 1) := by decide +kernel
theorem dL_act_346 : decode cL_act 346 = .ok (.iconst 2, 1) := by decide +kernel
theorem dL_act_347 : decode cL_act 347 = .ok (.invokestatic 98, 3) := by decide +kernel
theorem dL_act_350 : decode cL_act 350 = .ok (.invokestatic 103, 3) := by decide +kernel
theorem dL_act_353 : decode cL_act 353 = .ok (.lreturn, 1) := by decide +kernel
theorem dL_act_354 : decode cL_act 354 = .ok (.aload_n 0, 1) := by decide +kernel
theorem dL_act_355 : decode cL_act 355 = .ok (.iload 4, 2) := by decide +kernel
theorem dL_act_357 : decode cL_act 357 = .ok (.iload 5, 2) := by decide +kernel
theorem dL_act_359 : decode cL_act 359 = .ok (.iload_n 2, 1) := by decide +kernel
theorem dL_act_360 : decode cL_act 360 = .ok (.ifCond .eq 8, 3) := by decide +kernel
theorem dL_act_363 : decode cL_act 363 = .ok (.iload 6, 2) := by decide +kernel
theorem dL_act_365 : decode cL_act 365 = .ok (.goto 11, 3) := by decide +kernel
theorem dL_act_368 : decode cL_act 368 = .ok (.iload_n 1, 1) := by decide +kernel
theorem dL_act_369 : decode cL_act 369 = .ok (.bipush 12, 2) := by decide +kernel
theorem dL_act_371 : decode cL_act 371 = .ok (.ishr, 1) := by decide +kernel
theorem dL_act_372 : decode cL_act 372 = .ok (.iconst 4, 1) := by decide +kernel
theorem dL_act_373 : decode cL_act 373 = .ok (.invokestatic 98, 3) := by decide +kernel
theorem dL_act_376 : decode cL_act 376 = .ok (.invokestatic 106, 3) := by decide +kernel
theorem dL_act_379 : decode cL_act 379 = .ok (.lreturn, 1) := by decide +kernel
theorem dL_act_380 : decode cL_act 380 = .ok (.aload_n 0, 1) := by decide +kernel
theorem dL_act_381 : decode cL_act 381 = .ok (.iload_n 2, 1) := by decide +kernel
theorem dL_act_382 : decode cL_act 382 = .ok (.ifCond .eq 7, 3) := by decide +kernel
theorem dL_act_385 : decode cL_act 385 = .ok (.iload_n 1, 1) := by decide +kernel
theorem dL_act_386 : decode cL_act 386 = .ok (.goto 18, 3) := by decide +kernel
theorem dL_act_389 : decode cL_act 389 = .ok (.iconst 1, 1) := by decide +kernel
theorem dL_act_390 : decode cL_act 390 = .ok (.iload 4, 2) := by decide +kernel
theorem dL_act_392 : decode cL_act 392 = .ok (.ishl, 1) := by decide +kernel
theorem dL_act_393 : decode cL_act 393 = .ok (.iconst 1, 1) := by decide +kernel
theorem dL_act_394 : decode cL_act 394 = .ok (.iload_n 1, 1) := by decide +kernel
theorem dL_act_395 : decode cL_act 395 = .ok (.iconst 3, 1) := by decide +kernel
theorem dL_act_396 : decode cL_act 396 = .ok (.ishr, 1) := by decide +kernel
theorem dL_act_397 : decode cL_act 397 = .ok (.bipush 16, 2) := by decide +kernel
theorem dL_act_399 : decode cL_act 399 = .ok (.invokestatic 98, 3) := by decide +kernel
theorem dL_act_402 : decode cL_act 402 = .ok (.ishl, 1) := by decide +kernel
theorem dL_act_403 : decode cL_act 403 = .ok (.ior, 1) := by decide +kernel
theorem dL_act_404 : decode cL_act 404 = .ok (.iload_n 2, 1) := by decide +kernel
theorem dL_act_405 : decode cL_act 405 = .ok (.ifCond .eq 8, 3) := by decide +kernel
theorem dL_act_408 : decode cL_act 408 = .ok (.iload 6, 2) := by decide +kernel
theorem dL_act_410 : decode cL_act 410 = .ok (.goto 9, 3) := by decide +kernel
theorem dL_act_413 : decode cL_act 413 = .ok (.iconst 1, 1) := by decide +kernel
theorem dL_act_414 : decode cL_act 414 = .ok (.iconst 2, 1) := by decide +kernel
theorem dL_act_415 : decode cL_act 415 = .ok (.iload 6, 2) := by decide +kernel
theorem dL_act_417 : decode cL_act 417 = .ok (.imul, 1) := by decide +kernel
theorem dL_act_418 : decode cL_act 418 = .ok (.iadd, 1) := by decide +kernel
theorem dL_act_419 : decode cL_act 419 = .ok (.invokestatic 109, 3) := by decide +kernel
theorem dL_act_422 : decode cL_act 422 = .ok (.lreturn, 1) := by decide +kernel
theorem dL_act_423 : decode cL_act 423 = .ok (.aload_n 0, 1) := by decide +kernel
theorem dL_act_424 : decode cL_act 424 = .ok (.iload 4, 2) := by decide +kernel
theorem dL_act_426 : decode cL_act 426 = .ok (.iload 5, 2) := by decide +kernel
theorem dL_act_428 : decode cL_act 428 = .ok (.iload_n 2, 1) := by decide +kernel
theorem dL_act_429 : decode cL_act 429 = .ok (.ifCond .eq 8, 3) := by decide +kernel
theorem dL_act_432 : decode cL_act 432 = .ok (.iload 6, 2) := by decide +kernel
theorem dL_act_434 : decode cL_act 434 = .ok (.goto 11, 3) := by decide +kernel
theorem dL_act_437 : decode cL_act 437 = .ok (.bipush 100, 2) := by decide +kernel
theorem dL_act_439 : decode cL_act 439 = .ok (.bipush 40, 2) := by decide +kernel
theorem dL_act_441 : decode cL_act 441 = .ok (.iload 6, 2) := by decide +kernel
theorem dL_act_443 : decode cL_act 443 = .ok (.imul, 1) := by decide +kernel
theorem dL_act_444 : decode cL_act 444 = .ok (.iadd, 1) := by decide +kernel
theorem dL_act_445 : decode cL_act 445 = .ok (.iload 7, 2) := by decide +kernel
theorem dL_act_447 : decode cL_act 447 = .ok (.iload_n 2, 1) := by decide +kernel
theorem dL_act_448 : decode cL_act 448 = .ok (.ifCond .eq 14, 3) := by decide +kernel
theorem dL_act_451 : decode cL_act 451 = .ok (.iload_n 1, 1) := by decide +kernel
theorem dL_act_452 : decode cL_act 452 = .ok (.iconst 3, 1) := by decide +kernel
theorem dL_act_453 : decode cL_act 453 = .ok (.ishr, 1) := by decide +kernel
theorem dL_act_454 : decode cL_act 454 = .ok (.bipush 14, 2) := by decide +kernel
theorem dL_act_456 : decode cL_act 456 = .ok (.invokestatic 98, 3) := by decide +kernel
theorem dL_act_459 : decode cL_act 459 = .ok (.goto 13, 3) := by decide +kernel
theorem dL_act_462 : decode cL_act 462 = .ok (.iconst 1, 1) := by decide +kernel
theorem dL_act_463 : decode cL_act 463 = .ok (.iload_n 1, 1) := by decide +kernel
theorem dL_act_464 : decode cL_act 464 = .ok (.iconst 3, 1) := by decide +kernel
theorem dL_act_465 : decode cL_act 465 = .ok (.ishr, 1) := by decide +kernel
theorem dL_act_466 : decode cL_act 466 = .ok (.bipush 11, 2) := by decide +kernel
theorem dL_act_468 : decode cL_act 468 = .ok (.invokestatic 98, 3) := by decide +kernel
theorem dL_act_471 : decode cL_act 471 = .ok (.iadd, 1) := by decide +kernel
theorem dL_act_472 : decode cL_act 472 = .ok (.invokestatic 112, 3) := by decide +kernel
theorem dL_act_475 : decode cL_act 475 = .ok (.lreturn, 1) := by decide +kernel
theorem dL_act_476 : decode cL_act 476 = .ok (.aload_n 0, 1) := by decide +kernel
theorem dL_act_477 : decode cL_act 477 = .ok (.iload_n 3, 1) := by decide +kernel
theorem dL_act_478 : decode cL_act 478 = .ok (.iload 4, 2) := by decide +kernel
theorem dL_act_480 : decode cL_act 480 = .ok (.iload_n 2, 1) := by decide +kernel
theorem dL_act_481 : decode cL_act 481 = .ok (.ifCond .eq 10, 3) := by decide +kernel
theorem dL_act_484 : decode cL_act 484 = .ok (.iload_n 1, 1) := by decide +kernel
theorem dL_act_485 : decode cL_act 485 = .ok (.bipush 6, 2) := by decide +kernel
theorem dL_act_487 : decode cL_act 487 = .ok (.ishr, 1) := by decide +kernel
theorem dL_act_488 : decode cL_act 488 = .ok (.goto 33, 3) := by decide +kernel
theorem dL_act_491 : decode cL_act 491 = .ok (.iload 4, 2) := by decide +kernel
theorem dL_act_493 : decode cL_act 493 = .ok (.iload_n 1, 1) := by decide +kernel
theorem dL_act_494 : decode cL_act 494 = .ok (.bipush 12, 2) := by decide +kernel
theorem dL_act_496 : decode cL_act 496 = .ok (.ishr, 1) := by decide +kernel
theorem dL_act_497 : decode cL_act 497 = .ok (.bipush 8, 2) := by decide +kernel
theorem dL_act_499 : decode cL_act 499 = .ok (.bipush 16, 2) := by decide +kernel
theorem dL_act_501 : decode cL_act 501 = .ok (.iload 4, 2) := by decide +kernel
theorem dL_act_503 : decode cL_act 503 = .ok (.isub, 1) := by decide +kernel
theorem dL_act_504 : decode cL_act 504 = .ok (.if_icmp .ge 8, 3) := by decide +kernel
theorem dL_act_507 : decode cL_act 507 = .ok (.bipush 8, 2) := by decide +kernel
theorem dL_act_509 : decode cL_act 509 = .ok (.goto 8, 3) := by decide +kernel
theorem dL_act_512 : decode cL_act 512 = .ok (.bipush 16, 2) := by decide +kernel
theorem dL_act_514 : decode cL_act 514 = .ok (.iload 4, 2) := by decide +kernel
theorem dL_act_516 : decode cL_act 516 = .ok (.isub, 1) := by decide +kernel
theorem dL_act_517 : decode cL_act 517 = .ok (.invokestatic 98, 3) := by decide +kernel
theorem dL_act_520 : decode cL_act 520 = .ok (.iadd, 1) := by decide +kernel
theorem dL_act_521 : decode cL_act 521 = .ok (.invokestatic 115, 3) := by decide +kernel
theorem dL_act_524 : decode cL_act 524 = .ok (.lreturn, 1) := by decide +kernel
theorem dL_act_525 : decode cL_act 525 = .ok (.aload_n 0, 1) := by decide +kernel
theorem dL_act_526 : decode cL_act 526 = .ok (.iload_n 3, 1) := by decide +kernel
theorem dL_act_527 : decode cL_act 527 = .ok (.iload_n 1, 1) := by decide +kernel
theorem dL_act_528 : decode cL_act 528 = .ok (.bipush 8, 2) := by decide +kernel
theorem dL_act_530 : decode cL_act 530 = .ok (.ishr, 1) := by decide +kernel
theorem dL_act_531 : decode cL_act 531 = .ok (.iconst 4, 1) := by decide +kernel
theorem dL_act_532 : decode cL_act 532 = .ok (.invokestatic 98, 3) := by decide +kernel
theorem dL_act_535 : decode cL_act 535 = .ok (.ifCond .le 7, 3) := by decide +kernel
theorem dL_act_538 : decode cL_act 538 = .ok (.iconst 1, 1) := by decide +kernel
theorem dL_act_539 : decode cL_act 539 = .ok (.goto 4, 3) := by decide +kernel
theorem dL_act_542 : decode cL_act 542 = .ok (.iconst 0, 1) := by decide +kernel
theorem dL_act_543 : decode cL_act 543 = .ok (.invokestatic 117, 3) := by decide +kernel
theorem dL_act_546 : decode cL_act 546 = .ok (.lreturn, 1) := by decide +kernel
theorem dL_act_547 : decode cL_act 547 = .ok (.aload_n 0, 1) := by decide +kernel
theorem dL_act_548 : decode cL_act 548 = .ok (.iload_n 3, 1) := by decide +kernel
theorem dL_act_549 : decode cL_act 549 = .ok (.iload 8, 2) := by decide +kernel
theorem dL_act_551 : decode cL_act 551 = .ok (.invokestatic 120, 3) := by decide +kernel
theorem dL_act_554 : decode cL_act 554 = .ok (.lreturn, 1) := by decide +kernel
theorem dL_act_555 : decode cL_act 555 = .ok (.aload_n 0, 1) := by decide +kernel
theorem dL_act_556 : decode cL_act 556 = .ok (.iload 7, 2) := by decide +kernel
theorem dL_act_558 : decode cL_act 558 = .ok (.iload_n 2, 1) := by decide +kernel
theorem dL_act_559 : decode cL_act 559 = .ok (.ifCond .eq 7, 3) := by decide +kernel
theorem dL_act_562 : decode cL_act 562 = .ok (.iload_n 1, 1) := by decide +kernel
theorem dL_act_563 : decode cL_act 563 = .ok (.goto 8, 3) := by decide +kernel
theorem dL_act_566 : decode cL_act 566 = .ok (.bipush 100, 2) := by decide +kernel
theorem dL_act_568 : decode cL_act 568 = .ok (.iload 6, 2) := by decide +kernel
theorem dL_act_570 : decode cL_act 570 = .ok (.imul, 1) := by decide +kernel
theorem dL_act_571 : decode cL_act 571 = .ok (.invokestatic 122, 3) := by decide +kernel
theorem dL_act_574 : decode cL_act 574 = .ok (.lreturn, 1) := by decide +kernel
theorem dL_act_575 : decode cL_act 575 = .ok (.aload_n 0, 1) := by decide +kernel
theorem dL_act_576 : decode cL_act 576 = .ok (.iload_n 2, 1) := by decide +kernel
theorem dL_act_577 : decode cL_act 577 = .ok (.ifCond .eq 8, 3) := by decide +kernel
theorem dL_act_580 : decode cL_act 580 = .ok (.iload 6, 2) := by decide +kernel
theorem dL_act_582 : decode cL_act 582 = .ok (.goto 12, 3) := by decide +kernel
theorem dL_act_585 : decode cL_act 585 = .ok (.iload_n 1, 1) := by decide +kernel
theorem dL_act_586 : decode cL_act 586 = .ok (.bipush 9, 2) := by decide +kernel
theorem dL_act_588 : decode cL_act 588 = .ok (.ishr, 1) := by decide +kernel
theorem dL_act_589 : decode cL_act 589 = .ok (.bipush 9, 2) := by decide +kernel
theorem dL_act_591 : decode cL_act 591 = .ok (.invokestatic 98, 3) := by decide +kernel
theorem dL_act_594 : decode cL_act 594 = .ok (.invokestatic 124, 3) := by decide +kernel
theorem dL_act_597 : decode cL_act 597 = .ok (.lreturn, 1) := by decide +kernel
theorem dL_act_598 : decode cL_act 598 = .ok (.aload_n 0, 1) := by decide +kernel
theorem dL_act_599 : decode cL_act 599 = .ok (.iload_n 3, 1) := by decide +kernel
theorem dL_act_600 : decode cL_act 600 = .ok (.iload 4, 2) := by decide +kernel
theorem dL_act_602 : decode cL_act 602 = .ok (.iload_n 2, 1) := by decide +kernel
theorem dL_act_603 : decode cL_act 603 = .ok (.ifCond .eq 8, 3) := by decide +kernel
theorem dL_act_606 : decode cL_act 606 = .ok (.iload 5, 2) := by decide +kernel
theorem dL_act_608 : decode cL_act 608 = .ok (.goto 11, 3) := by decide +kernel
theorem dL_act_611 : decode cL_act 611 = .ok (.iload_n 1, 1) := by decide +kernel
theorem dL_act_612 : decode cL_act 612 = .ok (.iconst 3, 1) := by decide +kernel
theorem dL_act_613 : decode cL_act 613 = .ok (.ishr, 1) := by decide +kernel
theorem dL_act_614 : decode cL_act 614 = .ok (.bipush 12, 2) := by decide +kernel
theorem dL_act_616 : decode cL_act 616 = .ok (.invokestatic 98, 3) := by decide +kernel
theorem dL_act_619 : decode cL_act 619 = .ok (.invokestatic 127, 3) := by decide +kernel
theorem dL_act_622 : decode cL_act 622 = .ok (.lreturn, 1) := by decide +kernel
theorem dL_act_623 : decode cL_act 623 = .ok (.aload_n 0, 1) := by decide +kernel
theorem dL_act_624 : decode cL_act 624 = .ok (.iload_n 3, 1) := by decide +kernel
theorem dL_act_625 : decode cL_act 625 = .ok (.iload 4, 2) := by decide +kernel
theorem dL_act_627 : decode cL_act 627 = .ok (.invokestatic 129, 3) := by decide +kernel
theorem dL_act_630 : decode cL_act 630 = .ok (.lreturn, 1) := by decide +kernel
theorem dL_act_631 : decode cL_act 631 = .ok (.aload_n 0, 1) := by decide +kernel
theorem dL_act_632 : decode cL_act 632 = .ok (.iload_n 3, 1) := by decide +kernel
theorem dL_act_633 : decode cL_act 633 = .ok (.iload 4, 2) := by decide +kernel
theorem dL_act_635 : decode cL_act 635 = .ok (.invokestatic 131, 3) := by decide +kernel
theorem dL_act_638 : decode cL_act 638 = .ok (.lreturn, 1) := by decide +kernel
theorem dL_act_639 : decode cL_act 639 = .ok (.aload_n 0, 1) := by decide +kernel
theorem dL_act_640 : decode cL_act 640 = .ok (.iload 4, 2) := by decide +kernel
theorem dL_act_642 : decode cL_act 642 = .ok (.invokestatic 134, 3) := by decide +kernel
theorem dL_act_645 : decode cL_act 645 = .ok (.lreturn, 1) := by decide +kernel
theorem dL_act_646 : decode cL_act 646 = .ok (.aload_n 0, 1) := by decide +kernel
theorem dL_act_647 : decode cL_act 647 = .ok (.iload_n 3, 1) := by decide +kernel
theorem dL_act_648 : decode cL_act 648 = .ok (.iload 4, 2) := by decide +kernel
theorem dL_act_650 : decode cL_act 650 = .ok (.invokestatic 136, 3) := by decide +kernel
theorem dL_act_653 : decode cL_act 653 = .ok (.lreturn, 1) := by decide +kernel
theorem dL_act_654 : decode cL_act 654 = .ok (.aload_n 0, 1) := by decide +kernel
theorem dL_act_655 : decode cL_act 655 = .ok (.iload_n 2, 1) := by decide +kernel
theorem dL_act_656 : decode cL_act 656 = .ok (.ifCond .eq 7, 3) := by decide +kernel
theorem dL_act_659 : decode cL_act 659 = .ok (.iload_n 1, 1) := by decide +kernel
theorem dL_act_660 : decode cL_act 660 = .ok (.goto 11, 3) := by decide +kernel
theorem dL_act_663 : decode cL_act 663 = .ok (.iload_n 1, 1) := by decide +kernel
theorem dL_act_664 : decode cL_act 664 = .ok (.iconst 3, 1) := by decide +kernel
theorem dL_act_665 : decode cL_act 665 = .ok (.ishr, 1) := by decide +kernel
theorem dL_act_666 : decode cL_act 666 = .ok (.bipush 8, 2) := by decide +kernel
theorem dL_act_668 : decode cL_act 668 = .ok (.invokestatic 98, 3) := by decide +kernel
theorem dL_act_671 : decode cL_act 671 = .ok (.invokestatic 138, 3) := by decide +kernel
theorem dL_act_674 : decode cL_act 674 = .ok (.lreturn, 1) := by decide +kernel
theorem dL_act_675 : decode cL_act 675 = .ok (.iload_n 1, 1) := by decide +kernel
theorem dL_act_676 : decode cL_act 676 = .ok (.bipush 12, 2) := by decide +kernel
theorem dL_act_678 : decode cL_act 678 = .ok (.ishr, 1) := by decide +kernel
theorem dL_act_679 : decode cL_act 679 = .ok (.iconst 3, 1) := by decide +kernel
theorem dL_act_680 : decode cL_act 680 = .ok (.invokestatic 98, 3) := by decide +kernel
theorem dL_act_683 : decode cL_act 683 = .ok (.ifCond .ne 11, 3) := by decide +kernel
theorem dL_act_686 : decode cL_act 686 = .ok (.aload_n 0, 1) := by decide +kernel
theorem dL_act_687 : decode cL_act 687 = .ok (.invokevirtual 140, 3) := by decide +kernel
theorem dL_act_690 : decode cL_act 690 = .ok (.i2l, 1) := by decide +kernel
theorem dL_act_691 : decode cL_act 691 = .ok (.goto 23, 3) := by decide +kernel
theorem dL_act_694 : decode cL_act 694 = .ok (.aload_n 0, 1) := by decide +kernel
theorem dL_act_695 : decode cL_act 695 = .ok (.iload_n 2, 1) := by decide +kernel
theorem dL_act_696 : decode cL_act 696 = .ok (.ifCond .eq 7, 3) := by decide +kernel
theorem dL_act_699 : decode cL_act 699 = .ok (.iload_n 1, 1) := by decide +kernel
theorem dL_act_700 : decode cL_act 700 = .ok (.goto 11, 3) := by decide +kernel
theorem dL_act_703 : decode cL_act 703 = .ok (.iload_n 1, 1) := by decide +kernel
theorem dL_act_704 : decode cL_act 704 = .ok (.iconst 3, 1) := by decide +kernel
theorem dL_act_705 : decode cL_act 705 = .ok (.ishr, 1) := by decide +kernel
theorem dL_act_706 : decode cL_act 706 = .ok (.bipush 8, 2) := by decide +kernel
theorem dL_act_708 : decode cL_act 708 = .ok (.invokestatic 98, 3) := by decide +kernel
theorem dL_act_711 : decode cL_act 711 = .ok (.invokestatic 144, 3) := by decide +kernel
theorem dL_act_714 : decode cL_act 714 = .ok (.lreturn, 1) := by decide +kernel
theorem dL_act_715 : decode cL_act 715 = .ok (.aload_n 0, 1) := by decide +kernel
theorem dL_act_716 : decode cL_act 716 = .ok (.invokevirtual 146, 3) := by decide +kernel
theorem dL_act_719 : decode cL_act 719 = .ok (.i2l, 1) := by decide +kernel
theorem dL_act_720 : decode cL_act 720 = .ok (.lreturn, 1) := by decide +kernel
theorem dL_act_721 : decode cL_act 721 = .ok (.aload_n 0, 1) := by decide +kernel
theorem dL_act_722 : decode cL_act 722 = .ok (.iload_n 2, 1) := by decide +kernel
theorem dL_act_723 : decode cL_act 723 = .ok (.ifCond .eq 7, 3) := by decide +kernel
theorem dL_act_726 : decode cL_act 726 = .ok (.iload_n 1, 1) := by decide +kernel
theorem dL_act_727 : decode cL_act 727 = .ok (.goto 8, 3) := by decide +kernel
theorem dL_act_730 : decode cL_act 730 = .ok (.bipush 10, 2) := by decide +kernel
theorem dL_act_732 : decode cL_act 732 = .ok (.iload 6, 2) := by decide +kernel
theorem dL_act_734 : decode cL_act 734 = .ok (.imul, 1) := by decide +kernel
theorem dL_act_735 : decode cL_act 735 = .ok (.iload_n 2, 1) := by decide +kernel
theorem dL_act_736 : decode cL_act 736 = .ok (.ifCond .eq 8, 3) := by decide +kernel
theorem dL_act_739 : decode cL_act 739 = .ok (.iload 6, 2) := by decide +kernel
theorem dL_act_741 : decode cL_act 741 = .ok (.goto 18, 3) := by decide +kernel
theorem dL_act_744 : decode cL_act 744 = .ok (.bipush 10, 2) := by decide +kernel
theorem dL_act_746 : decode cL_act 746 = .ok (.iload 6, 2) := by decide +kernel
theorem dL_act_748 : decode cL_act 748 = .ok (.imul, 1) := by decide +kernel
theorem dL_act_749 : decode cL_act 749 = .ok (.iload_n 1, 1) := by decide +kernel
theorem dL_act_750 : decode cL_act 750 = .ok (.iconst 3, 1) := by decide +kernel
theorem dL_act_751 : decode cL_act 751 = .ok (.ishr, 1) := by decide +kernel
theorem dL_act_752 : decode cL_act 752 = .ok (.sipush 300, 3) := by decide +kernel
theorem dL_act_755 : decode cL_act 755 = .ok (.invokestatic 98, 3) := by decide +kernel
theorem dL_act_758 : decode cL_act 758 = .ok (.iadd, 1) := by decide +kernel
theorem dL_act_759 : decode cL_act 759 = .ok (.invokestatic 149, 3) := by decide +kernel
theorem dL_act_762 : decode cL_act 762 = .ok (.lreturn, 1) := by decide +kernel
theorem dL_act_763 : decode cL_act 763 = .ok (.aload_n 0, 1) := by decide +kernel
theorem dL_act_764 : decode cL_act 764 = .ok (.iload_n 3, 1) := by decide +kernel
theorem dL_act_765 : decode cL_act 765 = .ok (.iload_n 2, 1) := by decide +kernel
theorem dL_act_766 : decode cL_act 766 = .ok (.ifCond .eq 7, 3) := by decide +kernel
theorem dL_act_769 : decode cL_act 769 = .ok (.iload_n 1, 1) := by decide +kernel
theorem dL_act_770 : decode cL_act 770 = .ok (.goto 7, 3) := by decide +kernel
theorem dL_act_773 : decode cL_act 773 = .ok (.iconst 3, 1) := by decide +kernel
theorem dL_act_774 : decode cL_act 774 = .ok (.iload 6, 2) := by decide +kernel
theorem dL_act_776 : decode cL_act 776 = .ok (.imul, 1) := by decide +kernel
theorem dL_act_777 : decode cL_act 777 = .ok (.invokestatic 151, 3) := by decide +kernel
theorem dL_act_780 : decode cL_act 780 = .ok (.lreturn, 1) := by decide +kernel
theorem dL_act_781 : decode cL_act 781 = .ok (.aload_n 0, 1) := by decide +kernel
theorem dL_act_782 : decode cL_act 782 = .ok (.iload 7, 2) := by decide +kernel
theorem dL_act_784 : decode cL_act 784 = .ok (.iload_n 2, 1) := by decide +kernel
theorem dL_act_785 : decode cL_act 785 = .ok (.ifCond .eq 7, 3) := by decide +kernel
theorem dL_act_788 : decode cL_act 788 = .ok (.iload_n 1, 1) := by decide +kernel
theorem dL_act_789 : decode cL_act 789 = .ok (.goto 5, 3) := by decide +kernel
theorem dL_act_792 : decode cL_act 792 = .ok (.iload 6, 2) := by decide +kernel
theorem dL_act_794 : decode cL_act 794 = .ok (.invokestatic 153, 3) := by decide +kernel
theorem dL_act_797 : decode cL_act 797 = .ok (.lreturn, 1) := by decide +kernel
theorem dL_act_798 : decode cL_act 798 = .ok (.aload_n 0, 1) := by decide +kernel
theorem dL_act_799 : decode cL_act 799 = .ok (.iload 7, 2) := by decide +kernel
theorem dL_act_801 : decode cL_act 801 = .ok (.iload 8, 2) := by decide +kernel
theorem dL_act_803 : decode cL_act 803 = .ok (.invokestatic 155, 3) := by decide +kernel
theorem dL_act_806 : decode cL_act 806 = .ok (.lreturn, 1) := by decide +kernel
theorem dL_act_807 : decode cL_act 807 = .ok (.aload_n 0, 1) := by decide +kernel
theorem dL_act_808 : decode cL_act 808 = .ok (.iload 7, 2) := by decide +kernel
theorem dL_act_810 : decode cL_act 810 = .ok (.iload 8, 2) := by decide +kernel
theorem dL_act_812 : decode cL_act 812 = .ok (.invokestatic 157, 3) := by decide +kernel
theorem dL_act_815 : decode cL_act 815 = .ok (.lreturn, 1) := by decide +kernel
theorem dL_act_816 : decode cL_act 816 = .ok (.aload_n 0, 1) := by decide +kernel
theorem dL_act_817 : decode cL_act 817 = .ok (.iload_n 2, 1) := by decide +kernel
theorem dL_act_818 : decode cL_act 818 = .ok (.ifCond .eq 8, 3) := by decide +kernel
theorem dL_act_821 : decode cL_act 821 = .ok (.iload 6, 2) := by decide +kernel
theorem dL_act_823 : decode cL_act 823 = .ok (.goto 12, 3) := by decide +kernel
theorem dL_act_826 : decode cL_act 826 = .ok (.iload_n 1, 1) := by decide +kernel
theorem dL_act_827 : decode cL_act 827 = .ok (.bipush 9, 2) := by decide +kernel
theorem dL_act_829 : decode cL_act 829 = .ok (.ishr, 1) := by decide +kernel
theorem dL_act_830 : decode cL_act 830 = .ok (.bipush 6, 2) := by decide +kernel
theorem dL_act_832 : decode cL_act 832 = .ok (.invokestatic 98, 3) := by decide +kernel
theorem dL_act_835 : decode cL_act 835 = .ok (.invokestatic 159, 3) := by decide +kernel
theorem dL_act_838 : decode cL_act 838 = .ok (.lreturn, 1) := by decide +kernel
theorem dL_act_839 : decode cL_act 839 = .ok (.aload_n 0, 1) := by decide +kernel
theorem dL_act_840 : decode cL_act 840 = .ok (.iload_n 2, 1) := by decide +kernel
theorem dL_act_841 : decode cL_act 841 = .ok (.ifCond .eq 8, 3) := by decide +kernel
theorem dL_act_844 : decode cL_act 844 = .ok (.iload 6, 2) := by decide +kernel
theorem dL_act_846 : decode cL_act 846 = .ok (.goto 14, 3) := by decide +kernel
theorem dL_act_849 : decode cL_act 849 = .ok (.iconst 1, 1) := by decide +kernel
theorem dL_act_850 : decode cL_act 850 = .ok (.iload_n 1, 1) := by decide +kernel
theorem dL_act_851 : decode cL_act 851 = .ok (.bipush 9, 2) := by decide +kernel
theorem dL_act_853 : decode cL_act 853 = .ok (.ishr, 1) := by decide +kernel
theorem dL_act_854 : decode cL_act 854 = .ok (.bipush 40, 2) := by decide +kernel
theorem dL_act_856 : decode cL_act 856 = .ok (.invokestatic 98, 3) := by decide +kernel
theorem dL_act_859 : decode cL_act 859 = .ok (.iadd, 1) := by decide +kernel
theorem dL_act_860 : decode cL_act 860 = .ok (.invokestatic 161, 3) := by decide +kernel
theorem dL_act_863 : decode cL_act 863 = .ok (.lreturn, 1) := by decide +kernel
