theorem dL_cell_0 : decode cL_cell 0 = .ok (.iload_n 1, 1) := by decide +kernel
theorem dL_cell_1 : decode cL_cell 1 = .ok (.aload_n 0, 1) := by decide +kernel
theorem dL_cell_2 : decode cL_cell 2 = .ok (.arraylength, 1) := by decide +kernel
theorem dL_cell_3 : decode cL_cell 3 = .ok (.if_icmp .ge 9, 3) := by decide +kernel
theorem dL_cell_6 : decode cL_cell 6 = .ok (.aload_n 0, 1) := by decide +kernel
theorem dL_cell_7 : decode cL_cell 7 = .ok (.iload_n 1, 1) := by decide +kernel
theorem dL_cell_8 : decode cL_cell 8 = .ok (.iaload, 1) := by decide +kernel
theorem dL_cell_9 : decode cL_cell 9 = .ok (.goto 18, 3) := by decide +kernel
theorem dL_cell_12 : decode cL_cell 12 = .ok (.sipush 7919, 3) := by decide +kernel
theorem dL_cell_15 : decode cL_cell 15 = .ok (.iload_n 1, 1) := by decide +kernel
theorem dL_cell_16 : decode cL_cell 16 = .ok (.sipush 2729, 3) := by decide +kernel
theorem dL_cell_19 : decode cL_cell 19 = .ok (.iadd, 1) := by decide +kernel
theorem dL_cell_20 : decode cL_cell 20 = .ok (.imul, 1) := by decide +kernel
theorem dL_cell_21 : decode cL_cell 21 = .ok (.iload_n 1, 1) := by decide +kernel
theorem dL_cell_22 : decode cL_cell 22 = .ok (.sipush 461, 3) := by decide +kernel
theorem dL_cell_25 : decode cL_cell 25 = .ok (.iadd, 1) := by decide +kernel
theorem dL_cell_26 : decode cL_cell 26 = .ok (.imul, 1) := by decide +kernel
theorem dL_cell_27 : decode cL_cell 27 = .ok (.ireturn, 1) := by decide +kernel
theorem dL_low_0 : decode cL_low 0 = .ok (.iload_n 0, 1) := by decide +kernel
theorem dL_low_1 : decode cL_low 1 = .ok (.ldc 7, 2) := by decide +kernel
theorem dL_low_3 : decode cL_low 3 = .ok (.iand, 1) := by decide +kernel
theorem dL_low_4 : decode cL_low 4 = .ok (.iload_n 1, 1) := by decide +kernel
theorem dL_low_5 : decode cL_low 5 = .ok (.irem, 1) := by decide +kernel
theorem dL_low_6 : decode cL_low 6 = .ok (.ireturn, 1) := by decide +kernel
set_option maxRecDepth 20000 in
theorem ggL_column_X4_column : GoodIn wsL_column wsX4_column := goodIn_ca (goodIn_ca (goodIn_r _ [8, 9, 10, 11, 12, 13, 14, 15, 7, 16, 17, 18, 19, 20, 21, 22, 23, 24, 25, 26, 27, 28, 29, 30, 31, 32, 33, 34, 35, 36, 37, 38, 39, 40, 41] (by decide +kernel) (by decide +kernel)) (goodIn_sub (fun _ h => List.mem_cons_of_mem _ (List.mem_append_left _ (List.mem_append_right _ h))) (by decide +kernel))) (goodIn_sub (fun _ h => List.mem_cons_of_mem _ (List.mem_append_right _ h)) (by decide +kernel))
set_option maxRecDepth 20000 in
theorem gL_column_X4_column : GoodIn wsL_column (wsV RL 8 RX4 yX4_column wsX4_column) := goodIn_app (goodIn_of _ (by decide +kernel)) ggL_column_X4_column
theorem dL_column_0 : decode cL_column 0 = .ok (.aload_n 0, 1) := by decide +kernel
theorem dL_column_1 : decode cL_column 1 = .ok (.iload_n 1, 1) := by decide +kernel
theorem dL_column_2 : decode cL_column 2 = .ok (.iload_n 2, 1) := by decide +kernel
theorem dL_column_3 : decode cL_column 3 = .ok (.iload_n 3, 1) := by decide +kernel
theorem dL_column_4 : decode cL_column 4 = .ok (.invokevirtual 8, 3) := by decide +kernel
theorem dL_column_7 : decode cL_column 7 = .ok (.lconst 0, 1) := by decide +kernel
theorem dL_column_8 : decode cL_column 8 = .ok (.lreturn, 1) := by decide +kernel
theorem dL_column_9 : decode cL_column 9 = .ok (.astore 4, 2) := by decide +kernel
theorem dL_column_11 : decode cL_column 11 = .ok (.ldc2_w 16, 3) := by decide +kernel
theorem dL_column_14 : decode cL_column 14 = .ok (.lreturn, 1) := by decide +kernel
theorem dL_column_15 : decode cL_column 15 = .ok (.astore 4, 2) := by decide +kernel
theorem dL_column_17 : decode cL_column 17 = .ok (.ldc2_w 16, 3) := by decide +kernel
theorem dL_column_20 : decode cL_column 20 = .ok (.lreturn, 1) := by decide +kernel
set_option maxRecDepth 20000 in
theorem ggL_tells_X4_cell : GoodIn wsL_tells wsX4_cell := goodIn_ca (goodIn_ca (goodIn_ca (goodIn_r _ [9, 10, 11, 12, 13, 14, 15, 16, 17, 18, 8, 19, 20, 21, 22, 23, 24, 25, 26, 27, 28, 29, 30, 31, 32, 33, 34, 35, 36, 37, 38, 39, 40, 41, 42, 43, 44, 45, 46, 47, 48, 49, 50, 51, 52] (by decide +kernel) (by decide +kernel)) (goodIn_sub (fun _ h => List.mem_cons_of_mem _ (List.mem_append_left _ (List.mem_append_left _ (List.mem_append_right _ h)))) (by decide +kernel))) (goodIn_sub (fun _ h => List.mem_cons_of_mem _ (List.mem_append_left _ (List.mem_append_right _ h))) (by decide +kernel))) (goodIn_sub (fun _ h => List.mem_cons_of_mem _ (List.mem_append_right _ h)) (by decide +kernel))
set_option maxRecDepth 20000 in
theorem gL_tells_X4_cell : GoodIn wsL_tells (wsV RL 20 RX4 yX4_cell wsX4_cell) := goodIn_app (goodIn_of _ (by decide +kernel)) ggL_tells_X4_cell
theorem dL_tells_0 : decode cL_tells 0 = .ok (.aload_n 0, 1) := by decide +kernel
theorem dL_tells_1 : decode cL_tells 1 = .ok (.iload_n 1, 1) := by decide +kernel
theorem dL_tells_2 : decode cL_tells 2 = .ok (.iload_n 2, 1) := by decide +kernel
theorem dL_tells_3 : decode cL_tells 3 = .ok (.iload_n 3, 1) := by decide +kernel
theorem dL_tells_4 : decode cL_tells 4 = .ok (.invokevirtual 20, 3) := by decide +kernel
theorem dL_tells_7 : decode cL_tells 7 = .ok (.i2l, 1) := by decide +kernel
theorem dL_tells_8 : decode cL_tells 8 = .ok (.lreturn, 1) := by decide +kernel
theorem dL_tells_9 : decode cL_tells 9 = .ok (.astore 4, 2) := by decide +kernel
theorem dL_tells_11 : decode cL_tells 11 = .ok (.ldc2_w 16, 3) := by decide +kernel
theorem dL_tells_14 : decode cL_tells 14 = .ok (.lreturn, 1) := by decide +kernel
theorem dL_tells_15 : decode cL_tells 15 = .ok (.astore 4, 2) := by decide +kernel
theorem dL_tells_17 : decode cL_tells 17 = .ok (.ldc2_w 16, 3) := by decide +kernel
theorem dL_tells_20 : decode cL_tells 20 = .ok (.lreturn, 1) := by decide +kernel
theorem dL_tells_21 : decode cL_tells 21 = .ok (.astore 4, 2) := by decide +kernel
theorem dL_tells_23 : decode cL_tells 23 = .ok (.ldc2_w 16, 3) := by decide +kernel
theorem dL_tells_26 : decode cL_tells 26 = .ok (.lreturn, 1) := by decide +kernel
set_option maxRecDepth 20000 in
theorem ggL_need_X4_need : GoodIn wsL_need wsX4_need := goodIn_ca (goodIn_r _ [7, 8, 9, 10, 11, 12, 13, 14, 15, 16, 17, 18, 19, 20, 21, 22, 23, 24, 25, 26, 27, 28] (by decide +kernel) (by decide +kernel)) (goodIn_sub (fun _ h => List.mem_cons_of_mem _ (List.mem_append_right _ h)) (by decide +kernel))
set_option maxRecDepth 20000 in
theorem gL_need_X4_need : GoodIn wsL_need (wsV RL 26 RX4 yX4_need wsX4_need) := goodIn_app (goodIn_of _ (by decide +kernel)) ggL_need_X4_need
theorem dL_need_0 : decode cL_need 0 = .ok (.aload_n 0, 1) := by decide +kernel
theorem dL_need_1 : decode cL_need 1 = .ok (.iload_n 1, 1) := by decide +kernel
theorem dL_need_2 : decode cL_need 2 = .ok (.iload_n 2, 1) := by decide +kernel
theorem dL_need_3 : decode cL_need 3 = .ok (.invokevirtual 26, 3) := by decide +kernel
theorem dL_need_6 : decode cL_need 6 = .ok (.lconst 0, 1) := by decide +kernel
theorem dL_need_7 : decode cL_need 7 = .ok (.lreturn, 1) := by decide +kernel
theorem dL_need_8 : decode cL_need 8 = .ok (.astore_n 3, 1) := by decide +kernel
theorem dL_need_9 : decode cL_need 9 = .ok (.ldc2_w 16, 3) := by decide +kernel
theorem dL_need_12 : decode cL_need 12 = .ok (.lreturn, 1) := by decide +kernel
set_option maxRecDepth 20000 in
theorem ggL_projector_X4_projector : GoodIn wsL_projector wsX4_projector := goodIn_ca (goodIn_ca (goodIn_ca (goodIn_r _ [9, 10, 11, 12, 13, 14, 15, 16, 17, 18, 19, 20, 21, 22, 23, 8, 24, 25, 26, 27, 28, 29, 30, 31, 32, 33, 34, 35, 36, 37, 38, 39, 40, 41, 42, 43, 44, 45, 46, 47, 48, 49, 50, 51, 52, 53, 54, 55, 56, 57, 58, 59, 60, 61, 62, 63, 64, 65, 66, 67, 68, 69, 70, 71, 72, 73, 74, 75, 76, 77, 78, 79, 80, 81, 82] (by decide +kernel) (by decide +kernel)) (goodIn_sub (fun _ h => List.mem_cons_of_mem _ (List.mem_append_left _ (List.mem_append_left _ (List.mem_append_right _ h)))) (by decide +kernel))) (goodIn_sub (fun _ h => List.mem_cons_of_mem _ (List.mem_append_left _ (List.mem_append_right _ h))) (by decide +kernel))) (goodIn_sub (fun _ h => List.mem_cons_of_mem _ (List.mem_append_right _ h)) (by decide +kernel))
set_option maxRecDepth 20000 in
theorem gL_projector_X4_projector : GoodIn wsL_projector (wsV RL 30 RX4 yX4_projector wsX4_projector) := goodIn_app (goodIn_of _ (by decide +kernel)) ggL_projector_X4_projector
theorem dL_projector_0 : decode cL_projector 0 = .ok (.aload_n 0, 1) := by decide +kernel
theorem dL_projector_1 : decode cL_projector 1 = .ok (.iload_n 1, 1) := by decide +kernel
theorem dL_projector_2 : decode cL_projector 2 = .ok (.iload_n 2, 1) := by decide +kernel
theorem dL_projector_3 : decode cL_projector 3 = .ok (.iload_n 3, 1) := by decide +kernel
theorem dL_projector_4 : decode cL_projector 4 = .ok (.iload 4, 2) := by decide +kernel
theorem dL_projector_6 : decode cL_projector 6 = .ok (.iload 5, 2) := by decide +kernel
theorem dL_projector_8 : decode cL_projector 8 = .ok (.invokevirtual 30, 3) := by decide +kernel
theorem dL_projector_11 : decode cL_projector 11 = .ok (.i2l, 1) := by decide +kernel
theorem dL_projector_12 : decode cL_projector 12 = .ok (.lreturn, 1) := by decide +kernel
theorem dL_projector_13 : decode cL_projector 13 = .ok (.astore 6, 2) := by decide +kernel
theorem dL_projector_15 : decode cL_projector 15 = .ok (.ldc2_w 16, 3) := by decide +kernel
theorem dL_projector_18 : decode cL_projector 18 = .ok (.lreturn, 1) := by decide +kernel
theorem dL_projector_19 : decode cL_projector 19 = .ok (.astore 6, 2) := by decide +kernel
theorem dL_projector_21 : decode cL_projector 21 = .ok (.ldc2_w 16, 3) := by decide +kernel
theorem dL_projector_24 : decode cL_projector 24 = .ok (.lreturn, 1) := by decide +kernel
theorem dL_projector_25 : decode cL_projector 25 = .ok (.astore 6, 2) := by decide +kernel
theorem dL_projector_27 : decode cL_projector 27 = .ok (.ldc2_w 16, 3) := by decide +kernel
theorem dL_projector_30 : decode cL_projector 30 = .ok (.lreturn, 1) := by decide +kernel
set_option maxRecDepth 20000 in
theorem ggL_aim_X4_aim : GoodIn wsL_aim wsX4_aim := goodIn_ca (goodIn_ca (goodIn_r _ [8, 9, 10, 11, 12, 13, 14, 15, 7, 16, 17, 18, 19, 20, 21, 22, 23, 24, 25, 26, 27, 28, 29, 30, 31, 32, 33, 34, 35, 36, 37, 38, 39, 40, 41, 42, 43, 44, 45, 46, 47] (by decide +kernel) (by decide +kernel)) (goodIn_sub (fun _ h => List.mem_cons_of_mem _ (List.mem_append_left _ (List.mem_append_right _ h))) (by decide +kernel))) (goodIn_sub (fun _ h => List.mem_cons_of_mem _ (List.mem_append_right _ h)) (by decide +kernel))
set_option maxRecDepth 20000 in
theorem gL_aim_X4_aim : GoodIn wsL_aim (wsV RL 34 RX4 yX4_aim wsX4_aim) := goodIn_app (goodIn_of _ (by decide +kernel)) ggL_aim_X4_aim
theorem dL_aim_0 : decode cL_aim 0 = .ok (.aload_n 0, 1) := by decide +kernel
theorem dL_aim_1 : decode cL_aim 1 = .ok (.iload_n 1, 1) := by decide +kernel
theorem dL_aim_2 : decode cL_aim 2 = .ok (.iload_n 2, 1) := by decide +kernel
theorem dL_aim_3 : decode cL_aim 3 = .ok (.iload_n 3, 1) := by decide +kernel
theorem dL_aim_4 : decode cL_aim 4 = .ok (.invokevirtual 34, 3) := by decide +kernel
theorem dL_aim_7 : decode cL_aim 7 = .ok (.lconst 0, 1) := by decide +kernel
theorem dL_aim_8 : decode cL_aim 8 = .ok (.lreturn, 1) := by decide +kernel
theorem dL_aim_9 : decode cL_aim 9 = .ok (.astore 4, 2) := by decide +kernel
theorem dL_aim_11 : decode cL_aim 11 = .ok (.ldc2_w 16, 3) := by decide +kernel
theorem dL_aim_14 : decode cL_aim 14 = .ok (.lreturn, 1) := by decide +kernel
theorem dL_aim_15 : decode cL_aim 15 = .ok (.astore 4, 2) := by decide +kernel
theorem dL_aim_17 : decode cL_aim 17 = .ok (.ldc2_w 16, 3) := by decide +kernel
theorem dL_aim_20 : decode cL_aim 20 = .ok (.lreturn, 1) := by decide +kernel
set_option maxRecDepth 20000 in
theorem ggL_turn_X4_turn : GoodIn wsL_turn wsX4_turn := goodIn_ca (goodIn_ca (goodIn_r _ [8, 9, 10, 11, 12, 13, 14, 15, 7, 16, 17, 18, 19, 20, 21, 22, 23, 24, 25, 26, 27, 28, 29, 30, 31, 32, 33, 34, 35, 36, 37, 38, 39, 40, 41, 42, 43, 44, 45, 46, 47, 48, 49, 50, 51, 52, 53, 54, 55, 56] (by decide +kernel) (by decide +kernel)) (goodIn_sub (fun _ h => List.mem_cons_of_mem _ (List.mem_append_left _ (List.mem_append_right _ h))) (by decide +kernel))) (goodIn_sub (fun _ h => List.mem_cons_of_mem _ (List.mem_append_right _ h)) (by decide +kernel))
set_option maxRecDepth 20000 in
theorem gL_turn_X4_turn : GoodIn wsL_turn (wsV RL 37 RX4 yX4_turn wsX4_turn) := goodIn_app (goodIn_of _ (by decide +kernel)) ggL_turn_X4_turn
theorem dL_turn_0 : decode cL_turn 0 = .ok (.aload_n 0, 1) := by decide +kernel
theorem dL_turn_1 : decode cL_turn 1 = .ok (.iload_n 1, 1) := by decide +kernel
theorem dL_turn_2 : decode cL_turn 2 = .ok (.iload_n 2, 1) := by decide +kernel
theorem dL_turn_3 : decode cL_turn 3 = .ok (.invokevirtual 37, 3) := by decide +kernel
theorem dL_turn_6 : decode cL_turn 6 = .ok (.ifCond .eq 7, 3) := by decide +kernel
theorem dL_turn_9 : decode cL_turn 9 = .ok (.lconst 1, 1) := by decide +kernel
theorem dL_turn_10 : decode cL_turn 10 = .ok (.goto 4, 3) := by decide +kernel
theorem dL_turn_13 : decode cL_turn 13 = .ok (.lconst 0, 1) := by decide +kernel
theorem dL_turn_14 : decode cL_turn 14 = .ok (.lreturn, 1) := by decide +kernel
theorem dL_turn_15 : decode cL_turn 15 = .ok (.astore_n 3, 1) := by decide +kernel
theorem dL_turn_16 : decode cL_turn 16 = .ok (.ldc2_w 16, 3) := by decide +kernel
theorem dL_turn_19 : decode cL_turn 19 = .ok (.lreturn, 1) := by decide +kernel
theorem dL_turn_20 : decode cL_turn 20 = .ok (.astore_n 3, 1) := by decide +kernel
theorem dL_turn_21 : decode cL_turn 21 = .ok (.ldc2_w 16, 3) := by decide +kernel
theorem dL_turn_24 : decode cL_turn 24 = .ok (.lreturn, 1) := by decide +kernel
set_option maxRecDepth 20000 in
theorem ggL_fail_X4_fail : GoodIn wsL_fail wsX4_fail := goodIn_ca (goodIn_r _ [7, 8, 9, 10, 11, 12, 6, 13, 14, 15, 16, 17, 18, 19, 20, 21, 22, 23, 24, 25, 26, 27, 28, 29, 30, 31, 32, 33, 34, 35, 36, 37, 38, 39, 40, 41] (by decide +kernel) (by decide +kernel)) (goodIn_sub (fun _ h => List.mem_cons_of_mem _ (List.mem_append_right _ h)) (by decide +kernel))
set_option maxRecDepth 20000 in
theorem gL_fail_X4_fail : GoodIn wsL_fail (wsV RL 41 RX4 yX4_fail wsX4_fail) := goodIn_app (goodIn_of _ (by decide +kernel)) ggL_fail_X4_fail
theorem dL_fail_0 : decode cL_fail 0 = .ok (.aload_n 0, 1) := by decide +kernel
theorem dL_fail_1 : decode cL_fail 1 = .ok (.iload_n 1, 1) := by decide +kernel
theorem dL_fail_2 : decode cL_fail 2 = .ok (.iload_n 2, 1) := by decide +kernel
theorem dL_fail_3 : decode cL_fail 3 = .ok (.invokevirtual 41, 3) := by decide +kernel
theorem dL_fail_6 : decode cL_fail 6 = .ok (.ifCond .eq 7, 3) := by decide +kernel
theorem dL_fail_9 : decode cL_fail 9 = .ok (.lconst 1, 1) := by decide +kernel
theorem dL_fail_10 : decode cL_fail 10 = .ok (.goto 4, 3) := by decide +kernel
theorem dL_fail_13 : decode cL_fail 13 = .ok (.lconst 0, 1) := by decide +kernel
theorem dL_fail_14 : decode cL_fail 14 = .ok (.lreturn, 1) := by decide +kernel
theorem dL_fail_15 : decode cL_fail 15 = .ok (.astore_n 3, 1) := by decide +kernel
theorem dL_fail_16 : decode cL_fail 16 = .ok (.ldc2_w 16, 3) := by decide +kernel
theorem dL_fail_19 : decode cL_fail 19 = .ok (.lreturn, 1) := by decide +kernel
set_option maxRecDepth 20000 in
theorem ggL_phase_X4_phase : GoodIn wsL_phase wsX4_phase := goodIn_ca (goodIn_r _ [7, 8, 9, 10, 11, 12, 13, 6, 14, 15, 16, 17, 18, 19, 20, 21, 22, 23, 24, 25, 26, 27, 28, 29, 30] (by decide +kernel) (by decide +kernel)) (goodIn_sub (fun _ h => List.mem_cons_of_mem _ (List.mem_append_right _ h)) (by decide +kernel))
set_option maxRecDepth 20000 in
theorem gL_phase_X4_phase : GoodIn wsL_phase (wsV RL 44 RX4 yX4_phase wsX4_phase) := goodIn_app (goodIn_of _ (by decide +kernel)) ggL_phase_X4_phase
theorem dL_phase_0 : decode cL_phase 0 = .ok (.aload_n 0, 1) := by decide +kernel
theorem dL_phase_1 : decode cL_phase 1 = .ok (.iload_n 1, 1) := by decide +kernel
theorem dL_phase_2 : decode cL_phase 2 = .ok (.iload_n 2, 1) := by decide +kernel
theorem dL_phase_3 : decode cL_phase 3 = .ok (.invokevirtual 44, 3) := by decide +kernel
theorem dL_phase_6 : decode cL_phase 6 = .ok (.i2l, 1) := by decide +kernel
theorem dL_phase_7 : decode cL_phase 7 = .ok (.lreturn, 1) := by decide +kernel
theorem dL_phase_8 : decode cL_phase 8 = .ok (.astore_n 3, 1) := by decide +kernel
theorem dL_phase_9 : decode cL_phase 9 = .ok (.ldc2_w 16, 3) := by decide +kernel
theorem dL_phase_12 : decode cL_phase 12 = .ok (.lreturn, 1) := by decide +kernel
set_option maxRecDepth 20000 in
theorem ggL_wind_X4_wind : GoodIn wsL_wind wsX4_wind := goodIn_ca (goodIn_r _ [7, 8, 9, 10, 11, 12, 13, 14, 15, 16, 17, 18, 19, 20, 21, 22, 23, 24, 25, 26] (by decide +kernel) (by decide +kernel)) (goodIn_sub (fun _ h => List.mem_cons_of_mem _ (List.mem_append_right _ h)) (by decide +kernel))
set_option maxRecDepth 20000 in
theorem gL_wind_X4_wind : GoodIn wsL_wind (wsV RL 48 RX4 yX4_wind wsX4_wind) := goodIn_app (goodIn_of _ (by decide +kernel)) ggL_wind_X4_wind
theorem dL_wind_0 : decode cL_wind 0 = .ok (.aload_n 0, 1) := by decide +kernel
theorem dL_wind_1 : decode cL_wind 1 = .ok (.iload_n 1, 1) := by decide +kernel
theorem dL_wind_2 : decode cL_wind 2 = .ok (.invokevirtual 48, 3) := by decide +kernel
theorem dL_wind_5 : decode cL_wind 5 = .ok (.i2l, 1) := by decide +kernel
theorem dL_wind_6 : decode cL_wind 6 = .ok (.lreturn, 1) := by decide +kernel
theorem dL_wind_7 : decode cL_wind 7 = .ok (.astore_n 2, 1) := by decide +kernel
theorem dL_wind_8 : decode cL_wind 8 = .ok (.ldc2_w 16, 3) := by decide +kernel
theorem dL_wind_11 : decode cL_wind 11 = .ok (.lreturn, 1) := by decide +kernel
set_option maxRecDepth 20000 in
theorem ggL_through_X4_through : GoodIn wsL_through wsX4_through := goodIn_ca (goodIn_r _ [7, 8, 9, 10, 11, 12, 6, 13, 14, 15, 16, 17, 18, 19, 20, 21, 22, 23, 24, 25, 26, 27, 28, 29, 30, 31, 32, 33, 34, 35, 36, 37, 38, 39, 40, 41, 42, 43, 44, 45, 46, 47, 48, 49, 50, 51, 52, 53, 54, 55, 56, 57] (by decide +kernel) (by decide +kernel)) (goodIn_sub (fun _ h => List.mem_cons_of_mem _ (List.mem_append_right _ h)) (by decide +kernel))
set_option maxRecDepth 20000 in
theorem gL_through_X4_through : GoodIn wsL_through (wsV RL 52 RX4 yX4_through wsX4_through) := goodIn_app (goodIn_of _ (by decide +kernel)) ggL_through_X4_through
theorem dL_through_0 : decode cL_through 0 = .ok (.aload_n 0, 1) := by decide +kernel
theorem dL_through_1 : decode cL_through 1 = .ok (.iload_n 1, 1) := by decide +kernel
theorem dL_through_2 : decode cL_through 2 = .ok (.iload_n 2, 1) := by decide +kernel
theorem dL_through_3 : decode cL_through 3 = .ok (.iload_n 3, 1) := by decide +kernel
theorem dL_through_4 : decode cL_through 4 = .ok (.invokevirtual 52, 3) := by decide +kernel
theorem dL_through_7 : decode cL_through 7 = .ok (.i2l, 1) := by decide +kernel
theorem dL_through_8 : decode cL_through 8 = .ok (.lreturn, 1) := by decide +kernel
theorem dL_through_9 : decode cL_through 9 = .ok (.astore 4, 2) := by decide +kernel
theorem dL_through_11 : decode cL_through 11 = .ok (.ldc2_w 16, 3) := by decide +kernel
theorem dL_through_14 : decode cL_through 14 = .ok (.lreturn, 1) := by decide +kernel
set_option maxRecDepth 20000 in
theorem ggL_gives_X4_gives : GoodIn wsL_gives wsX4_gives := goodIn_ca (goodIn_r _ [7, 8, 9, 10, 11, 12, 6, 13, 14, 15, 16, 17, 18, 19, 20, 21, 22, 23, 24, 25, 26, 27, 28, 29, 30, 31, 32, 33, 34, 35, 36, 37, 38, 39, 40, 41, 42, 43, 44, 45, 46, 47, 48, 49, 50, 51, 52, 53, 54, 55, 56, 57, 58, 59, 60, 61, 62, 63, 64, 65, 66, 67, 68, 69, 70, 71, 72, 73, 74, 75, 76, 77, 78, 79, 80, 81, 82, 83, 84, 85, 86] (by decide +kernel) (by decide +kernel)) (goodIn_sub (fun _ h => List.mem_cons_of_mem _ (List.mem_append_right _ h)) (by decide +kernel))
set_option maxRecDepth 20000 in
theorem gL_gives_X4_gives : GoodIn wsL_gives (wsV RL 55 RX4 yX4_gives wsX4_gives) := goodIn_app (goodIn_of _ (by decide +kernel)) ggL_gives_X4_gives
theorem dL_gives_0 : decode cL_gives 0 = .ok (.aload_n 0, 1) := by decide +kernel
theorem dL_gives_1 : decode cL_gives 1 = .ok (.iload_n 1, 1) := by decide +kernel
theorem dL_gives_2 : decode cL_gives 2 = .ok (.iload_n 2, 1) := by decide +kernel
theorem dL_gives_3 : decode cL_gives 3 = .ok (.invokevirtual 55, 3) := by decide +kernel
theorem dL_gives_6 : decode cL_gives 6 = .ok (.i2l, 1) := by decide +kernel
theorem dL_gives_7 : decode cL_gives 7 = .ok (.lreturn, 1) := by decide +kernel
theorem dL_gives_8 : decode cL_gives 8 = .ok (.astore_n 3, 1) := by decide +kernel
theorem dL_gives_9 : decode cL_gives 9 = .ok (.ldc2_w 16, 3) := by decide +kernel
theorem dL_gives_12 : decode cL_gives 12 = .ok (.lreturn, 1) := by decide +kernel
set_option maxRecDepth 20000 in
theorem ggL_sharp_X4_isSharp : GoodIn wsL_sharp wsX4_isSharp := goodIn_ca (goodIn_r _ [7, 8, 9, 10, 11, 12, 6, 13, 14, 15, 16, 17, 18, 19, 20, 21, 22, 23, 24, 25, 26, 27, 28, 29, 30, 31, 32, 33, 34, 35, 36, 37, 38, 39, 40, 41, 42, 43, 44, 45, 46, 47, 48, 49, 50, 51, 52, 53, 54, 55, 56, 57] (by decide +kernel) (by decide +kernel)) (goodIn_sub (fun _ h => List.mem_cons_of_mem _ (List.mem_append_right _ h)) (by decide +kernel))
set_option maxRecDepth 20000 in
theorem gL_sharp_X4_isSharp : GoodIn wsL_sharp (wsV RL 58 RX4 yX4_isSharp wsX4_isSharp) := goodIn_app (goodIn_of _ (by decide +kernel)) ggL_sharp_X4_isSharp
theorem dL_sharp_0 : decode cL_sharp 0 = .ok (.aload_n 0, 1) := by decide +kernel
theorem dL_sharp_1 : decode cL_sharp 1 = .ok (.iload_n 1, 1) := by decide +kernel
theorem dL_sharp_2 : decode cL_sharp 2 = .ok (.iload_n 2, 1) := by decide +kernel
theorem dL_sharp_3 : decode cL_sharp 3 = .ok (.invokevirtual 58, 3) := by decide +kernel
theorem dL_sharp_6 : decode cL_sharp 6 = .ok (.ifCond .eq 7, 3) := by decide +kernel
theorem dL_sharp_9 : decode cL_sharp 9 = .ok (.lconst 1, 1) := by decide +kernel
theorem dL_sharp_10 : decode cL_sharp 10 = .ok (.goto 4, 3) := by decide +kernel
theorem dL_sharp_13 : decode cL_sharp 13 = .ok (.lconst 0, 1) := by decide +kernel
theorem dL_sharp_14 : decode cL_sharp 14 = .ok (.lreturn, 1) := by decide +kernel
theorem dL_sharp_15 : decode cL_sharp 15 = .ok (.astore_n 3, 1) := by decide +kernel
theorem dL_sharp_16 : decode cL_sharp 16 = .ok (.ldc2_w 16, 3) := by decide +kernel
theorem dL_sharp_19 : decode cL_sharp 19 = .ok (.lreturn, 1) := by decide +kernel
set_option maxRecDepth 20000 in
theorem ggL_light_X4_light : GoodIn wsL_light wsX4_light := goodIn_ca (goodIn_r _ [7, 8, 9, 10, 11, 6, 12, 13, 14, 15, 16, 17, 18, 19, 20, 21, 22, 23, 24, 25, 26, 27, 28, 29, 30, 31, 32, 33, 34, 35, 36, 37, 38, 39, 40, 41, 42, 43, 44, 45, 46, 47, 48, 49, 50, 51, 52, 53, 54, 55, 56, 57, 58, 59, 60, 61, 62, 63, 64, 65, 66, 67, 68, 69, 70, 71, 72, 73, 74, 75, 76, 77, 78, 79, 80, 81, 82, 83, 84, 85, 86, 87, 88, 89, 90, 91, 92, 93, 94, 95, 96] (by decide +kernel) (by decide +kernel)) (goodIn_sub (fun _ h => List.mem_cons_of_mem _ (List.mem_append_right _ h)) (by decide +kernel))
set_option maxRecDepth 20000 in
theorem gL_light_X4_light : GoodIn wsL_light (wsV RL 62 RX4 yX4_light wsX4_light) := goodIn_app (goodIn_of _ (by decide +kernel)) ggL_light_X4_light
theorem dL_light_0 : decode cL_light 0 = .ok (.aload_n 0, 1) := by decide +kernel
theorem dL_light_1 : decode cL_light 1 = .ok (.iload_n 1, 1) := by decide +kernel
theorem dL_light_2 : decode cL_light 2 = .ok (.invokevirtual 62, 3) := by decide +kernel
theorem dL_light_5 : decode cL_light 5 = .ok (.i2l, 1) := by decide +kernel
theorem dL_light_6 : decode cL_light 6 = .ok (.lreturn, 1) := by decide +kernel
theorem dL_light_7 : decode cL_light 7 = .ok (.astore_n 2, 1) := by decide +kernel
theorem dL_light_8 : decode cL_light 8 = .ok (.ldc2_w 16, 3) := by decide +kernel
theorem dL_light_11 : decode cL_light 11 = .ok (.lreturn, 1) := by decide +kernel
set_option maxRecDepth 20000 in
theorem ggL_blended_X4_blended : GoodIn wsL_blended wsX4_blended := goodIn_ca (goodIn_r _ [7, 8, 9, 10, 11, 12, 13, 6, 14, 15, 16, 17, 18, 19, 20, 21, 22, 23, 24, 25, 26, 27, 28, 29, 30, 31, 32, 33, 34, 35, 36, 37, 38, 39, 40, 41, 42, 43, 44, 45, 46, 47, 48, 49, 50, 51, 52, 53, 54, 55, 56, 57, 58, 59, 60, 61, 62, 63, 64, 65, 66, 67, 68, 69, 70, 71, 72, 73, 74, 75, 76, 77, 78, 79, 80, 81, 82, 83, 84, 85, 86, 87, 88, 89, 90, 91, 92, 93, 94, 95, 96, 97] (by decide +kernel) (by decide +kernel)) (goodIn_sub (fun _ h => List.mem_cons_of_mem _ (List.mem_append_right _ h)) (by decide +kernel))
set_option maxRecDepth 20000 in
theorem gL_blended_X4_blended : GoodIn wsL_blended (wsV RL 65 RX4 yX4_blended wsX4_blended) := goodIn_app (goodIn_of _ (by decide +kernel)) ggL_blended_X4_blended
theorem dL_blended_0 : decode cL_blended 0 = .ok (.aload_n 0, 1) := by decide +kernel
theorem dL_blended_1 : decode cL_blended 1 = .ok (.iload_n 1, 1) := by decide +kernel
theorem dL_blended_2 : decode cL_blended 2 = .ok (.iload_n 2, 1) := by decide +kernel
theorem dL_blended_3 : decode cL_blended 3 = .ok (.invokevirtual 65, 3) := by decide +kernel
theorem dL_blended_6 : decode cL_blended 6 = .ok (.i2l, 1) := by decide +kernel
theorem dL_blended_7 : decode cL_blended 7 = .ok (.lreturn, 1) := by decide +kernel
theorem dL_blended_8 : decode cL_blended 8 = .ok (.astore_n 3, 1) := by decide +kernel
theorem dL_blended_9 : decode cL_blended 9 = .ok (.ldc2_w 16, 3) := by decide +kernel
theorem dL_blended_12 : decode cL_blended 12 = .ok (.lreturn, 1) := by decide +kernel
set_option maxRecDepth 20000 in
theorem ggL_covered_X4_covered : GoodIn wsL_covered wsX4_covered := goodIn_ca (goodIn_r _ [7, 8, 9, 10, 11, 12, 13, 14, 6, 15, 16, 17, 18, 19, 20, 21, 22, 23, 24, 25, 26, 27, 28, 29, 30, 31, 32, 33, 34, 35, 36, 37, 38, 39, 40, 41, 42, 43, 44, 45, 46, 47, 48, 49, 50, 51, 52, 53, 54, 55, 56, 57, 58, 59, 60, 61, 62, 63, 64, 65, 66, 67, 68, 69, 70, 71, 72, 73, 74, 75, 76, 77, 78, 79, 80, 81, 82, 83, 84, 85, 86, 87, 88, 89, 90, 91, 92, 93, 94, 95, 96, 97, 98, 99, 100, 101, 102, 103, 104, 105, 106, 107, 108, 109, 110, 111, 112, 113] (by decide +kernel) (by decide +kernel)) (goodIn_sub (fun _ h => List.mem_cons_of_mem _ (List.mem_append_right _ h)) (by decide +kernel))
set_option maxRecDepth 20000 in
theorem gL_covered_X4_covered : GoodIn wsL_covered (wsV RL 68 RX4 yX4_covered wsX4_covered) := goodIn_app (goodIn_of _ (by decide +kernel)) ggL_covered_X4_covered
theorem dL_covered_0 : decode cL_covered 0 = .ok (.aload_n 0, 1) := by decide +kernel
theorem dL_covered_1 : decode cL_covered 1 = .ok (.iload_n 1, 1) := by decide +kernel
theorem dL_covered_2 : decode cL_covered 2 = .ok (.invokevirtual 68, 3) := by decide +kernel
theorem dL_covered_5 : decode cL_covered 5 = .ok (.i2l, 1) := by decide +kernel
theorem dL_covered_6 : decode cL_covered 6 = .ok (.lreturn, 1) := by decide +kernel
theorem dL_covered_7 : decode cL_covered 7 = .ok (.astore_n 2, 1) := by decide +kernel
theorem dL_covered_8 : decode cL_covered 8 = .ok (.ldc2_w 16, 3) := by decide +kernel
theorem dL_covered_11 : decode cL_covered 11 = .ok (.lreturn, 1) := by decide +kernel
set_option maxRecDepth 20000 in
theorem ggL_bears_X4_bears : GoodIn wsL_bears wsX4_bears := goodIn_ca (goodIn_r _ [7, 8, 9, 10, 11, 12, 13, 14, 15, 6, 16, 17, 18, 19, 20, 21, 22, 23, 24, 25, 26, 27, 28, 29, 30, 31, 32, 33, 34, 35, 36, 37, 38, 39, 40, 41, 42, 43, 44, 45, 46, 47, 48, 49, 50, 51, 52, 53, 54, 55, 56, 57, 58, 59, 60, 61, 62, 63, 64, 65, 66, 67, 68, 69, 70, 71, 72, 73, 74, 75, 76, 77, 78, 79, 80, 81, 82, 83, 84, 85, 86, 87, 88, 89, 90, 91, 92, 93, 94, 95, 96, 97, 98, 99, 100, 101, 102, 103, 104, 105, 106, 107, 108, 109, 110, 111, 112, 113, 114, 115, 116, 117, 118] (by decide +kernel) (by decide +kernel)) (goodIn_sub (fun _ h => List.mem_cons_of_mem _ (List.mem_append_right _ h)) (by decide +kernel))
set_option maxRecDepth 20000 in
theorem gL_bears_X4_bears : GoodIn wsL_bears (wsV RL 71 RX4 yX4_bears wsX4_bears) := goodIn_app (goodIn_of _ (by decide +kernel)) ggL_bears_X4_bears
theorem dL_bears_0 : decode cL_bears 0 = .ok (.aload_n 0, 1) := by decide +kernel
theorem dL_bears_1 : decode cL_bears 1 = .ok (.iload_n 1, 1) := by decide +kernel
theorem dL_bears_2 : decode cL_bears 2 = .ok (.invokevirtual 71, 3) := by decide +kernel
theorem dL_bears_5 : decode cL_bears 5 = .ok (.ifCond .eq 7, 3) := by decide +kernel
theorem dL_bears_8 : decode cL_bears 8 = .ok (.lconst 1, 1) := by decide +kernel
theorem dL_bears_9 : decode cL_bears 9 = .ok (.goto 4, 3) := by decide +kernel
theorem dL_bears_12 : decode cL_bears 12 = .ok (.lconst 0, 1) := by decide +kernel
theorem dL_bears_13 : decode cL_bears 13 = .ok (.lreturn, 1) := by decide +kernel
theorem dL_bears_14 : decode cL_bears 14 = .ok (.astore_n 2, 1) := by decide +kernel
theorem dL_bears_15 : decode cL_bears 15 = .ok (.ldc2_w 16, 3) := by decide +kernel
theorem dL_bears_18 : decode cL_bears 18 = .ok (.lreturn, 1) := by decide +kernel
set_option maxRecDepth 20000 in
theorem ggL_curfew_X4_curfew : GoodIn wsL_curfew wsX4_curfew := goodIn_ca (goodIn_r _ [7, 8, 9, 10, 11, 12, 13, 14, 15, 16, 17, 18, 19, 20, 21, 22, 23, 24, 25, 26, 27] (by decide +kernel) (by decide +kernel)) (goodIn_sub (fun _ h => List.mem_cons_of_mem _ (List.mem_append_right _ h)) (by decide +kernel))
set_option maxRecDepth 20000 in
theorem gL_curfew_X4_curfew : GoodIn wsL_curfew (wsV RL 75 RX4 yX4_curfew wsX4_curfew) := goodIn_app (goodIn_of _ (by decide +kernel)) ggL_curfew_X4_curfew
theorem dL_curfew_0 : decode cL_curfew 0 = .ok (.aload_n 0, 1) := by decide +kernel
theorem dL_curfew_1 : decode cL_curfew 1 = .ok (.iload_n 1, 1) := by decide +kernel
theorem dL_curfew_2 : decode cL_curfew 2 = .ok (.iload_n 2, 1) := by decide +kernel
theorem dL_curfew_3 : decode cL_curfew 3 = .ok (.invokevirtual 75, 3) := by decide +kernel
theorem dL_curfew_6 : decode cL_curfew 6 = .ok (.lconst 0, 1) := by decide +kernel
theorem dL_curfew_7 : decode cL_curfew 7 = .ok (.lreturn, 1) := by decide +kernel
theorem dL_curfew_8 : decode cL_curfew 8 = .ok (.astore_n 3, 1) := by decide +kernel
theorem dL_curfew_9 : decode cL_curfew 9 = .ok (.ldc2_w 16, 3) := by decide +kernel
theorem dL_curfew_12 : decode cL_curfew 12 = .ok (.lreturn, 1) := by decide +kernel
set_option maxRecDepth 20000 in
theorem ggL_ready_X4_ready : GoodIn wsL_ready wsX4_ready := goodIn_ca (goodIn_ca (goodIn_r _ [8, 9, 10, 11, 12, 13, 14, 15, 16, 7, 17, 18, 19, 20, 21, 22, 23, 24, 25, 26, 27, 28, 29, 30, 31, 32, 33, 34, 35, 36, 37, 38, 39, 40, 41, 42, 43, 44, 45] (by decide +kernel) (by decide +kernel)) (goodIn_sub (fun _ h => List.mem_cons_of_mem _ (List.mem_append_left _ (List.mem_append_right _ h))) (by decide +kernel))) (goodIn_sub (fun _ h => List.mem_cons_of_mem _ (List.mem_append_right _ h)) (by decide +kernel))
set_option maxRecDepth 20000 in
theorem gL_ready_X4_ready : GoodIn wsL_ready (wsV RL 78 RX4 yX4_ready wsX4_ready) := goodIn_app (goodIn_of _ (by decide +kernel)) ggL_ready_X4_ready
theorem dL_ready_0 : decode cL_ready 0 = .ok (.aload_n 0, 1) := by decide +kernel
theorem dL_ready_1 : decode cL_ready 1 = .ok (.iload_n 1, 1) := by decide +kernel
theorem dL_ready_2 : decode cL_ready 2 = .ok (.iload_n 2, 1) := by decide +kernel
theorem dL_ready_3 : decode cL_ready 3 = .ok (.invokevirtual 78, 3) := by decide +kernel
theorem dL_ready_6 : decode cL_ready 6 = .ok (.i2l, 1) := by decide +kernel
theorem dL_ready_7 : decode cL_ready 7 = .ok (.lreturn, 1) := by decide +kernel
theorem dL_ready_8 : decode cL_ready 8 = .ok (.astore_n 3, 1) := by decide +kernel
theorem dL_ready_9 : decode cL_ready 9 = .ok (.ldc2_w 16, 3) := by decide +kernel
theorem dL_ready_12 : decode cL_ready 12 = .ok (.lreturn, 1) := by decide +kernel
theorem dL_ready_13 : decode cL_ready 13 = .ok (.astore_n 3, 1) := by decide +kernel
theorem dL_ready_14 : decode cL_ready 14 = .ok (.ldc2_w 16, 3) := by decide +kernel
theorem dL_ready_17 : decode cL_ready 17 = .ok (.lreturn, 1) := by decide +kernel
set_option maxRecDepth 20000 in
theorem ggL_propose_X4_propose : GoodIn wsL_propose wsX4_propose := goodIn_ca (goodIn_ca (goodIn_r _ [8, 9, 10, 11, 12, 13, 14, 15, 7, 16, 17, 18, 19, 20, 21, 22, 23, 24, 25, 26, 27, 28, 29, 30, 31, 32, 33, 34, 35] (by decide +kernel) (by decide +kernel)) (goodIn_sub (fun _ h => List.mem_cons_of_mem _ (List.mem_append_left _ (List.mem_append_right _ h))) (by decide +kernel))) (goodIn_sub (fun _ h => List.mem_cons_of_mem _ (List.mem_append_right _ h)) (by decide +kernel))
set_option maxRecDepth 20000 in
theorem gL_propose_X4_propose : GoodIn wsL_propose (wsV RL 81 RX4 yX4_propose wsX4_propose) := goodIn_app (goodIn_of _ (by decide +kernel)) ggL_propose_X4_propose
theorem dL_propose_0 : decode cL_propose 0 = .ok (.aload_n 0, 1) := by decide +kernel
theorem dL_propose_1 : decode cL_propose 1 = .ok (.iload_n 1, 1) := by decide +kernel
theorem dL_propose_2 : decode cL_propose 2 = .ok (.iload_n 2, 1) := by decide +kernel
theorem dL_propose_3 : decode cL_propose 3 = .ok (.invokevirtual 81, 3) := by decide +kernel
theorem dL_propose_6 : decode cL_propose 6 = .ok (.i2l, 1) := by decide +kernel
theorem dL_propose_7 : decode cL_propose 7 = .ok (.lreturn, 1) := by decide +kernel
theorem dL_propose_8 : decode cL_propose 8 = .ok (.astore_n 3, 1) := by decide +kernel
theorem dL_propose_9 : decode cL_propose 9 = .ok (.ldc2_w 16, 3) := by decide +kernel
theorem dL_propose_12 : decode cL_propose 12 = .ok (.lreturn, 1) := by decide +kernel
theorem dL_propose_13 : decode cL_propose 13 = .ok (.astore_n 3, 1) := by decide +kernel
theorem dL_propose_14 : decode cL_propose 14 = .ok (.ldc2_w 16, 3) := by decide +kernel
theorem dL_propose_17 : decode cL_propose 17 = .ok (.lreturn, 1) := by decide +kernel
set_option maxRecDepth 20000 in
theorem ggL_answer_X4_answer : GoodIn wsL_answer wsX4_answer := goodIn_ca (goodIn_ca (goodIn_r _ [8, 9, 10, 11, 12, 13, 14, 15, 7, 16, 17, 18, 19, 20, 21, 22, 23, 24, 25, 26, 27, 28, 29, 30, 31, 32, 33, 34, 35] (by decide +kernel) (by decide +kernel)) (goodIn_sub (fun _ h => List.mem_cons_of_mem _ (List.mem_append_left _ (List.mem_append_right _ h))) (by decide +kernel))) (goodIn_sub (fun _ h => List.mem_cons_of_mem _ (List.mem_append_right _ h)) (by decide +kernel))
set_option maxRecDepth 20000 in
theorem gL_answer_X4_answer : GoodIn wsL_answer (wsV RL 84 RX4 yX4_answer wsX4_answer) := goodIn_app (goodIn_of _ (by decide +kernel)) ggL_answer_X4_answer
theorem dL_answer_0 : decode cL_answer 0 = .ok (.aload_n 0, 1) := by decide +kernel
theorem dL_answer_1 : decode cL_answer 1 = .ok (.iload_n 1, 1) := by decide +kernel
theorem dL_answer_2 : decode cL_answer 2 = .ok (.iload_n 2, 1) := by decide +kernel
theorem dL_answer_3 : decode cL_answer 3 = .ok (.invokevirtual 84, 3) := by decide +kernel
theorem dL_answer_6 : decode cL_answer 6 = .ok (.i2l, 1) := by decide +kernel
theorem dL_answer_7 : decode cL_answer 7 = .ok (.lreturn, 1) := by decide +kernel
theorem dL_answer_8 : decode cL_answer 8 = .ok (.astore_n 3, 1) := by decide +kernel
theorem dL_answer_9 : decode cL_answer 9 = .ok (.ldc2_w 16, 3) := by decide +kernel
theorem dL_answer_12 : decode cL_answer 12 = .ok (.lreturn, 1) := by decide +kernel
theorem dL_answer_13 : decode cL_answer 13 = .ok (.astore_n 3, 1) := by decide +kernel
theorem dL_answer_14 : decode cL_answer 14 = .ok (.ldc2_w 16, 3) := by decide +kernel
theorem dL_answer_17 : decode cL_answer 17 = .ok (.lreturn, 1) := by decide +kernel
set_option maxRecDepth 20000 in
theorem ggL_scene_X4_scene : GoodIn wsL_scene wsX4_scene := goodIn_ca (goodIn_r _ [7, 8, 9, 10, 11, 12, 6, 13, 14, 15, 16, 17, 18, 19, 20, 21, 22, 23, 24, 25, 26, 27, 28, 29, 30, 31, 32] (by decide +kernel) (by decide +kernel)) (goodIn_sub (fun _ h => List.mem_cons_of_mem _ (List.mem_append_right _ h)) (by decide +kernel))
set_option maxRecDepth 20000 in
theorem gL_scene_X4_scene : GoodIn wsL_scene (wsV RL 88 RX4 yX4_scene wsX4_scene) := goodIn_app (goodIn_of _ (by decide +kernel)) ggL_scene_X4_scene
theorem dL_scene_0 : decode cL_scene 0 = .ok (.aload_n 0, 1) := by decide +kernel
theorem dL_scene_1 : decode cL_scene 1 = .ok (.iload_n 1, 1) := by decide +kernel
theorem dL_scene_2 : decode cL_scene 2 = .ok (.iload_n 2, 1) := by decide +kernel
theorem dL_scene_3 : decode cL_scene 3 = .ok (.invokevirtual 88, 3) := by decide +kernel
theorem dL_scene_6 : decode cL_scene 6 = .ok (.i2l, 1) := by decide +kernel
theorem dL_scene_7 : decode cL_scene 7 = .ok (.lreturn, 1) := by decide +kernel
theorem dL_scene_8 : decode cL_scene 8 = .ok (.astore_n 3, 1) := by decide +kernel
theorem dL_scene_9 : decode cL_scene 9 = .ok (.ldc2_w 16, 3) := by decide +kernel
theorem dL_scene_12 : decode cL_scene 12 = .ok (.lreturn, 1) := by decide +kernel
set_option maxRecDepth 20000 in
theorem ggL_show_X4_show : GoodIn wsL_show wsX4_show := goodIn_ca (goodIn_r _ [7, 8, 9, 10, 11, 12, 13, 14, 15, 16, 17, 6, 18, 19, 20, 21, 22, 23, 24, 25, 26, 27, 28, 29, 30, 31, 32, 33, 34, 35, 36, 37, 38, 39, 40, 41, 42, 43, 44, 45, 46, 47, 48, 49, 50] (by decide +kernel) (by decide +kernel)) (goodIn_sub (fun _ h => List.mem_cons_of_mem _ (List.mem_append_right _ h)) (by decide +kernel))
set_option maxRecDepth 20000 in
theorem gL_show_X4_show : GoodIn wsL_show (wsV RL 91 RX4 yX4_show wsX4_show) := goodIn_app (goodIn_of _ (by decide +kernel)) ggL_show_X4_show
theorem dL_show_0 : decode cL_show 0 = .ok (.aload_n 0, 1) := by decide +kernel
theorem dL_show_1 : decode cL_show 1 = .ok (.iload_n 1, 1) := by decide +kernel
theorem dL_show_2 : decode cL_show 2 = .ok (.invokevirtual 91, 3) := by decide +kernel
theorem dL_show_5 : decode cL_show 5 = .ok (.lreturn, 1) := by decide +kernel
theorem dL_show_6 : decode cL_show 6 = .ok (.astore_n 2, 1) := by decide +kernel
theorem dL_show_7 : decode cL_show 7 = .ok (.ldc2_w 16, 3) := by decide +kernel
theorem dL_show_10 : decode cL_show 10 = .ok (.lreturn, 1) := by decide +kernel
set_option maxRecDepth 20000 in
theorem ggL_pass_X4_pass : GoodIn wsL_pass wsX4_pass := goodIn_ca (goodIn_ca (goodIn_r _ [8, 9, 10, 11, 12, 13, 14, 15, 16, 17, 18, 19, 20, 21, 7, 22, 23, 24, 25, 26, 27, 28, 29, 30, 31, 32, 33, 34, 35, 36, 37, 38, 39, 40, 41, 42, 43, 44, 45, 46, 47, 48, 49, 50, 51, 52, 53, 54, 55, 56, 57, 58, 59, 60, 61, 62, 63, 64, 65, 66, 67, 68, 69, 70, 71, 72, 73, 74, 75, 76, 77, 78, 79, 80, 81, 82, 83, 84, 85, 86, 87, 88, 89, 90, 91, 92, 93, 94, 95, 96, 97, 98, 99, 100, 101, 102, 103, 104, 105, 106, 107, 108, 109, 110, 111, 112, 113, 114, 115, 116, 117, 118, 119, 120, 121, 122, 123, 124, 125, 126, 127, 128, 129] (by decide +kernel) (by decide +kernel)) (goodIn_sub (fun _ h => List.mem_cons_of_mem _ (List.mem_append_left _ (List.mem_append_right _ h))) (by decide +kernel))) (goodIn_sub (fun _ h => List.mem_cons_of_mem _ (List.mem_append_right _ h)) (by decide +kernel))
set_option maxRecDepth 20000 in
theorem gL_pass_X4_pass : GoodIn wsL_pass (wsV RL 95 RX4 yX4_pass wsX4_pass) := goodIn_app (goodIn_of _ (by decide +kernel)) ggL_pass_X4_pass
theorem dL_pass_0 : decode cL_pass 0 = .ok (.aload_n 0, 1) := by decide +kernel
theorem dL_pass_1 : decode cL_pass 1 = .ok (.iload_n 1, 1) := by decide +kernel
theorem dL_pass_2 : decode cL_pass 2 = .ok (.invokevirtual 95, 3) := by decide +kernel
theorem dL_pass_5 : decode cL_pass 5 = .ok (.i2l, 1) := by decide +kernel
theorem dL_pass_6 : decode cL_pass 6 = .ok (.lreturn, 1) := by decide +kernel
theorem dL_pass_7 : decode cL_pass 7 = .ok (.astore_n 2, 1) := by decide +kernel
theorem dL_pass_8 : decode cL_pass 8 = .ok (.ldc2_w 16, 3) := by decide +kernel
theorem dL_pass_11 : decode cL_pass 11 = .ok (.lreturn, 1) := by decide +kernel
theorem dL_pass_12 : decode cL_pass 12 = .ok (.astore_n 2, 1) := by decide +kernel
theorem dL_pass_13 : decode cL_pass 13 = .ok (.ldc2_w 16, 3) := by decide +kernel
theorem dL_pass_16 : decode cL_pass 16 = .ok (.lreturn, 1) := by decide +kernel
