set_option maxRecDepth 20000 in
theorem ggL_isSo_X4_least : GoodIn wsL_isSo wsX4_least := goodIn_r _ [6, 7, 8, 9, 10, 11, 12, 13, 5, 14, 15, 16, 17, 18, 19, 20, 21, 22, 23, 24, 25, 26, 27, 28, 29, 30, 31, 32, 33, 34, 35, 36, 37, 38, 39, 40, 41, 42, 43, 44, 45, 46, 47, 48, 49, 50, 51, 52, 53, 54, 55, 56, 57, 58, 59, 60, 61, 62, 63, 64, 65, 66, 67, 68, 69, 70, 71, 72, 73, 74, 75, 76, 77, 78, 79, 80, 81, 82, 83, 84, 85, 86, 87, 88, 89, 90, 91, 160, 161, 162, 163, 164, 165, 166, 167, 168, 169, 170, 171, 172, 173, 174, 175, 176, 177, 178, 179, 180, 181, 182, 183, 184, 185, 186, 187, 188, 189, 190] (by decide +kernel) (by decide +kernel)
set_option maxRecDepth 20000 in
theorem gL_isSo_X4_least : GoodIn wsL_isSo (wsV RL 140 RX4 yX4_least wsX4_least) := goodIn_app (goodIn_of _ (by decide +kernel)) ggL_isSo_X4_least
set_option maxRecDepth 20000 in
theorem ggL_isSo_X4_leastAnew : GoodIn wsL_isSo wsX4_leastAnew := goodIn_r _ [95, 7, 8, 9, 10, 11, 12, 13, 5, 14, 15, 16, 17, 18, 19, 20, 21, 22, 23, 24, 25, 26, 27, 28, 29, 30, 31, 32, 33, 34, 35, 36, 37, 38, 39, 40, 41, 42, 43, 44, 45, 46, 47, 48, 49, 50, 51, 52, 53, 54, 55, 56, 57, 58, 59, 60, 61, 62, 63, 64, 65, 66, 67, 68, 69, 70, 71, 72, 73, 74, 75, 76, 77, 78, 79, 80, 81, 82, 83, 84, 85, 86, 87, 88, 89, 90, 91, 160, 161, 162, 163, 164, 165, 166, 167, 168, 169, 170, 171, 172, 173, 174, 175, 176, 177, 178, 179, 180, 181, 182, 183, 184, 185, 186, 187, 188, 189, 190] (by decide +kernel) (by decide +kernel)
set_option maxRecDepth 20000 in
theorem gL_isSo_X4_leastAnew : GoodIn wsL_isSo (wsV RL 163 RX4 yX4_leastAnew wsX4_leastAnew) := goodIn_app (goodIn_of _ (by decide +kernel)) ggL_isSo_X4_leastAnew
set_option maxRecDepth 20000 in
theorem ggL_isSo_X4_covered : GoodIn wsL_isSo wsX4_covered := goodIn_ca (goodIn_r _ [99, 100, 101, 8, 10, 102, 103, 104, 5, 105, 7, 11, 12, 13, 14, 15, 16, 17, 18, 19, 20, 21, 22, 23, 24, 25, 26, 27, 28, 29, 30, 31, 32, 33, 34, 35, 36, 37, 38, 39, 40, 41, 42, 43, 44, 45, 46, 47, 48, 49, 50, 51, 52, 53, 54, 55, 56, 57, 58, 59, 60, 61, 62, 63, 64, 65, 66, 67, 68, 69, 70, 71, 72, 73, 89, 90, 91, 160, 161, 162, 163, 164, 165, 166, 167, 168, 169, 170, 171, 172, 173, 174, 175, 176, 177, 178, 179, 180, 181, 182, 183, 184, 185, 186, 187, 188, 189, 190] (by decide +kernel) (by decide +kernel)) (goodIn_sub (fun _ h => List.mem_cons_of_mem _ (List.mem_append_left _ (List.mem_append_right _ h))) (by decide +kernel))
set_option maxRecDepth 20000 in
theorem gL_isSo_X4_covered : GoodIn wsL_isSo (wsV RL 68 RX4 yX4_covered wsX4_covered) := goodIn_app (goodIn_of _ (by decide +kernel)) ggL_isSo_X4_covered
set_option maxRecDepth 20000 in
theorem ggL_isSo_X4_bears : GoodIn wsL_isSo wsX4_bears := goodIn_ca (goodIn_r _ [109, 100, 101, 8, 9, 10, 102, 103, 104, 5, 105, 7, 11, 12, 13, 14, 15, 16, 17, 18, 19, 20, 21, 22, 23, 24, 25, 26, 27, 28, 29, 30, 31, 32, 33, 34, 35, 36, 37, 38, 39, 40, 41, 42, 43, 44, 45, 46, 47, 48, 49, 50, 51, 52, 53, 54, 55, 56, 57, 58, 59, 60, 61, 62, 63, 64, 65, 66, 67, 68, 69, 70, 71, 72, 73, 85, 86, 87, 88, 89, 90, 91, 160, 161, 162, 163, 164, 165, 166, 167, 168, 169, 170, 171, 172, 173, 174, 175, 176, 177, 178, 179, 180, 181, 182, 183, 184, 185, 186, 187, 188, 189, 190] (by decide +kernel) (by decide +kernel)) (goodIn_sub (fun _ h => List.mem_cons_of_mem _ (List.mem_append_left _ (List.mem_append_right _ h))) (by decide +kernel))
set_option maxRecDepth 20000 in
theorem gL_isSo_X4_bears : GoodIn wsL_isSo (wsV RL 71 RX4 yX4_bears wsX4_bears) := goodIn_app (goodIn_of _ (by decide +kernel)) ggL_isSo_X4_bears
set_option maxRecDepth 20000 in
theorem ggL_isSo_L_blended : GoodIn wsL_isSo wsL_blended := goodIn_ca (goodIn_r _ [113, 114, 1, 115, 116, 117, 5, 118, 119, 120, 10, 15, 16, 17, 18, 7, 19, 121, 29, 30, 122, 123, 124, 125, 126, 127, 31, 32, 33, 34, 35, 36, 37, 38, 39, 40, 41, 42, 43, 44, 45, 46, 47, 48, 49, 50, 51, 52, 53, 54, 55, 56, 57, 58, 59, 60, 61, 62, 63, 64, 65, 66, 67, 68, 69, 128, 129, 130, 131, 160, 161, 162, 163, 164, 165, 166, 167, 168, 169, 170, 171, 172, 173, 174, 175, 176, 177, 178, 179, 180, 181, 182, 183, 184, 185, 188, 189, 190] (by decide +kernel) (by decide +kernel)) (goodIn_sub (fun _ h => List.mem_cons_of_mem _ (List.mem_append_right _ h)) (by decide +kernel))
set_option maxRecDepth 20000 in
theorem gL_isSo_L_blended : GoodIn wsL_isSo (va_wsS RL 136 yL_blended wsL_blended) := goodIn_app (goodIn_of _ (by decide +kernel)) ggL_isSo_L_blended
set_option maxRecDepth 20000 in
theorem ggL_isSo_X4_gives : GoodIn wsL_isSo wsX4_gives := goodIn_ca (goodIn_r _ [135, 119, 120, 15, 16, 17, 5, 18, 7, 19, 121, 29, 30, 31, 32, 33, 34, 35, 36, 37, 38, 39, 40, 41, 42, 43, 44, 45, 46, 47, 48, 49, 50, 51, 52, 53, 54, 55, 56, 57, 58, 59, 60, 61, 62, 63, 64, 65, 66, 67, 68, 69, 160, 161, 162, 163, 164, 165, 166, 167, 168, 169, 170, 171, 172, 173, 174, 175, 176, 177, 178, 179, 180, 181, 182, 183, 184, 185, 188, 189, 190] (by decide +kernel) (by decide +kernel)) (goodIn_sub (fun _ h => List.mem_cons_of_mem _ (List.mem_append_right _ h)) (by decide +kernel))
set_option maxRecDepth 20000 in
theorem gL_isSo_X4_gives : GoodIn wsL_isSo (wsV RL 55 RX4 yX4_gives wsX4_gives) := goodIn_app (goodIn_of _ (by decide +kernel)) ggL_isSo_X4_gives
set_option maxRecDepth 20000 in
theorem ggL_isSo_X4_light : GoodIn wsL_isSo wsX4_light := goodIn_ca (goodIn_r _ [139, 119, 120, 121, 29, 5, 30, 128, 129, 130, 131, 15, 16, 17, 18, 7, 19, 122, 123, 124, 125, 126, 127, 31, 32, 33, 34, 35, 36, 37, 38, 39, 40, 41, 42, 43, 44, 45, 46, 47, 48, 49, 50, 51, 52, 53, 54, 55, 56, 57, 58, 59, 60, 61, 62, 63, 64, 65, 66, 67, 68, 69, 160, 161, 162, 163, 164, 165, 166, 167, 168, 169, 170, 171, 172, 173, 174, 175, 176, 177, 178, 179, 180, 181, 182, 183, 184, 185, 188, 189, 190] (by decide +kernel) (by decide +kernel)) (goodIn_sub (fun _ h => List.mem_cons_of_mem _ (List.mem_append_right _ h)) (by decide +kernel))
set_option maxRecDepth 20000 in
theorem gL_isSo_X4_light : GoodIn wsL_isSo (wsV RL 62 RX4 yX4_light wsX4_light) := goodIn_app (goodIn_of _ (by decide +kernel)) ggL_isSo_X4_light
set_option maxRecDepth 20000 in
theorem ggL_isSo_L_light : GoodIn wsL_isSo wsL_light := goodIn_ca (goodIn_r _ [142, 114, 1, 136, 137, 138, 5, 139, 119, 120, 121, 29, 30, 128, 129, 130, 131, 15, 16, 17, 18, 7, 19, 122, 123, 124, 125, 126, 127, 31, 32, 33, 34, 35, 36, 37, 38, 39, 40, 41, 42, 43, 44, 45, 46, 47, 48, 49, 50, 51, 52, 53, 54, 55, 56, 57, 58, 59, 60, 61, 62, 63, 64, 65, 66, 67, 68, 69, 160, 161, 162, 163, 164, 165, 166, 167, 168, 169, 170, 171, 172, 173, 174, 175, 176, 177, 178, 179, 180, 181, 182, 183, 184, 185, 188, 189, 190] (by decide +kernel) (by decide +kernel)) (goodIn_sub (fun _ h => List.mem_cons_of_mem _ (List.mem_append_right _ h)) (by decide +kernel))
set_option maxRecDepth 20000 in
theorem gL_isSo_L_light : GoodIn wsL_isSo (va_wsS RL 134 yL_light wsL_light) := goodIn_app (goodIn_of _ (by decide +kernel)) ggL_isSo_L_light
set_option maxRecDepth 20000 in
theorem ggL_isSo_L_show : GoodIn wsL_isSo wsL_show := goodIn_ca (goodIn_r _ [145, 146, 1, 147, 148, 149, 5, 150, 100, 101, 151, 152, 153, 154, 155, 156, 157, 158, 159, 15, 16, 17, 18, 7, 19, 160, 161, 162, 163, 164, 165, 166, 167, 168, 169, 170, 171, 172, 173, 174, 175, 176, 177, 178, 179, 180, 181, 182, 183, 184, 185] (by decide +kernel) (by decide +kernel)) (goodIn_sub (fun _ h => List.mem_cons_of_mem _ (List.mem_append_left _ (List.mem_append_right _ h))) (by decide +kernel))
set_option maxRecDepth 20000 in
theorem gL_isSo_L_show : GoodIn wsL_isSo (va_wsS RL 159 yL_show wsL_show) := goodIn_app (goodIn_of _ (by decide +kernel)) ggL_isSo_L_show
theorem dL_isSo_0 : decode cL_isSo 0 = .ok (.iconst 1, 1) := by decide +kernel
theorem dL_isSo_1 : decode cL_isSo 1 = .ok (.istore_n 3, 1) := by decide +kernel
theorem dL_isSo_2 : decode cL_isSo 2 = .ok (.aload_n 0, 1) := by decide +kernel
theorem dL_isSo_3 : decode cL_isSo 3 = .ok (.invokevirtual 140, 3) := by decide +kernel
theorem dL_isSo_6 : decode cL_isSo 6 = .ok (.istore 4, 2) := by decide +kernel
theorem dL_isSo_8 : decode cL_isSo 8 = .ok (.iconst 0, 1) := by decide +kernel
theorem dL_isSo_9 : decode cL_isSo 9 = .ok (.istore 5, 2) := by decide +kernel
theorem dL_isSo_11 : decode cL_isSo 11 = .ok (.iconst 0, 1) := by decide +kernel
theorem dL_isSo_12 : decode cL_isSo 12 = .ok (.istore 6, 2) := by decide +kernel
theorem dL_isSo_14 : decode cL_isSo 14 = .ok (.iload 6, 2) := by decide +kernel
theorem dL_isSo_16 : decode cL_isSo 16 = .ok (.bipush 10, 2) := by decide +kernel
theorem dL_isSo_18 : decode cL_isSo 18 = .ok (.if_icmp .ge 30, 3) := by decide +kernel
theorem dL_isSo_21 : decode cL_isSo 21 = .ok (.iload 5, 2) := by decide +kernel
theorem dL_isSo_23 : decode cL_isSo 23 = .ok (.iload 4, 2) := by decide +kernel
theorem dL_isSo_25 : decode cL_isSo 25 = .ok (.ifCond .lt 13, 3) := by decide +kernel
theorem dL_isSo_28 : decode cL_isSo 28 = .ok (.iload 4, 2) := by decide +kernel
theorem dL_isSo_30 : decode cL_isSo 30 = .ok (.iload 6, 2) := by decide +kernel
theorem dL_isSo_32 : decode cL_isSo 32 = .ok (.ishr, 1) := by decide +kernel
theorem dL_isSo_33 : decode cL_isSo 33 = .ok (.iconst 1, 1) := by decide +kernel
theorem dL_isSo_34 : decode cL_isSo 34 = .ok (.iand, 1) := by decide +kernel
theorem dL_isSo_35 : decode cL_isSo 35 = .ok (.goto 4, 3) := by decide +kernel
theorem dL_isSo_38 : decode cL_isSo 38 = .ok (.iconst 0, 1) := by decide +kernel
theorem dL_isSo_39 : decode cL_isSo 39 = .ok (.iadd, 1) := by decide +kernel
theorem dL_isSo_40 : decode cL_isSo 40 = .ok (.istore 5, 2) := by decide +kernel
theorem dL_isSo_42 : decode cL_isSo 42 = .ok (.iinc 6 1, 3) := by decide +kernel
theorem dL_isSo_45 : decode cL_isSo 45 = .ok (.goto (-31), 3) := by decide +kernel
theorem dL_isSo_48 : decode cL_isSo 48 = .ok (.aload_n 0, 1) := by decide +kernel
theorem dL_isSo_49 : decode cL_isSo 49 = .ok (.invokevirtual 163, 3) := by decide +kernel
theorem dL_isSo_52 : decode cL_isSo 52 = .ok (.iload 4, 2) := by decide +kernel
theorem dL_isSo_54 : decode cL_isSo 54 = .ok (.ifCond .ge 7, 3) := by decide +kernel
theorem dL_isSo_57 : decode cL_isSo 57 = .ok (.iconst (-1), 1) := by decide +kernel
theorem dL_isSo_58 : decode cL_isSo 58 = .ok (.goto 5, 3) := by decide +kernel
theorem dL_isSo_61 : decode cL_isSo 61 = .ok (.iload 5, 2) := by decide +kernel
theorem dL_isSo_63 : decode cL_isSo 63 = .ok (.if_icmp .ne 25, 3) := by decide +kernel
theorem dL_isSo_66 : decode cL_isSo 66 = .ok (.iload 4, 2) := by decide +kernel
theorem dL_isSo_68 : decode cL_isSo 68 = .ok (.ifCond .lt 16, 3) := by decide +kernel
theorem dL_isSo_71 : decode cL_isSo 71 = .ok (.iload_n 1, 1) := by decide +kernel
theorem dL_isSo_72 : decode cL_isSo 72 = .ok (.aload_n 0, 1) := by decide +kernel
theorem dL_isSo_73 : decode cL_isSo 73 = .ok (.iload 4, 2) := by decide +kernel
theorem dL_isSo_75 : decode cL_isSo 75 = .ok (.invokevirtual 68, 3) := by decide +kernel
theorem dL_isSo_78 : decode cL_isSo 78 = .ok (.iconst (-1), 1) := by decide +kernel
theorem dL_isSo_79 : decode cL_isSo 79 = .ok (.ixor, 1) := by decide +kernel
theorem dL_isSo_80 : decode cL_isSo 80 = .ok (.iand, 1) := by decide +kernel
theorem dL_isSo_81 : decode cL_isSo 81 = .ok (.ifCond .ne 7, 3) := by decide +kernel
theorem dL_isSo_84 : decode cL_isSo 84 = .ok (.iconst 1, 1) := by decide +kernel
theorem dL_isSo_85 : decode cL_isSo 85 = .ok (.goto 4, 3) := by decide +kernel
theorem dL_isSo_88 : decode cL_isSo 88 = .ok (.iconst 0, 1) := by decide +kernel
theorem dL_isSo_89 : decode cL_isSo 89 = .ok (.istore_n 3, 1) := by decide +kernel
theorem dL_isSo_90 : decode cL_isSo 90 = .ok (.iconst 0, 1) := by decide +kernel
theorem dL_isSo_91 : decode cL_isSo 91 = .ok (.istore 6, 2) := by decide +kernel
theorem dL_isSo_93 : decode cL_isSo 93 = .ok (.iload 6, 2) := by decide +kernel
theorem dL_isSo_95 : decode cL_isSo 95 = .ok (.bipush 10, 2) := by decide +kernel
theorem dL_isSo_97 : decode cL_isSo 97 = .ok (.if_icmp .ge 61, 3) := by decide +kernel
theorem dL_isSo_100 : decode cL_isSo 100 = .ok (.iload_n 3, 1) := by decide +kernel
theorem dL_isSo_101 : decode cL_isSo 101 = .ok (.ifCond .eq 57, 3) := by decide +kernel
theorem dL_isSo_104 : decode cL_isSo 104 = .ok (.iload 4, 2) := by decide +kernel
theorem dL_isSo_106 : decode cL_isSo 106 = .ok (.ifCond .le 52, 3) := by decide +kernel
theorem dL_isSo_109 : decode cL_isSo 109 = .ok (.iload 4, 2) := by decide +kernel
theorem dL_isSo_111 : decode cL_isSo 111 = .ok (.iload 6, 2) := by decide +kernel
theorem dL_isSo_113 : decode cL_isSo 113 = .ok (.ishr, 1) := by decide +kernel
theorem dL_isSo_114 : decode cL_isSo 114 = .ok (.iconst 1, 1) := by decide +kernel
theorem dL_isSo_115 : decode cL_isSo 115 = .ok (.iand, 1) := by decide +kernel
theorem dL_isSo_116 : decode cL_isSo 116 = .ok (.ifCond .eq 30, 3) := by decide +kernel
theorem dL_isSo_119 : decode cL_isSo 119 = .ok (.iload_n 1, 1) := by decide +kernel
theorem dL_isSo_120 : decode cL_isSo 120 = .ok (.aload_n 0, 1) := by decide +kernel
theorem dL_isSo_121 : decode cL_isSo 121 = .ok (.iload 4, 2) := by decide +kernel
theorem dL_isSo_123 : decode cL_isSo 123 = .ok (.iconst 1, 1) := by decide +kernel
theorem dL_isSo_124 : decode cL_isSo 124 = .ok (.iload 6, 2) := by decide +kernel
theorem dL_isSo_126 : decode cL_isSo 126 = .ok (.ishl, 1) := by decide +kernel
theorem dL_isSo_127 : decode cL_isSo 127 = .ok (.isub, 1) := by decide +kernel
theorem dL_isSo_128 : decode cL_isSo 128 = .ok (.invokevirtual 68, 3) := by decide +kernel
theorem dL_isSo_131 : decode cL_isSo 131 = .ok (.iconst (-1), 1) := by decide +kernel
theorem dL_isSo_132 : decode cL_isSo 132 = .ok (.ixor, 1) := by decide +kernel
theorem dL_isSo_133 : decode cL_isSo 133 = .ok (.iand, 1) := by decide +kernel
theorem dL_isSo_134 : decode cL_isSo 134 = .ok (.ifCond .eq 16, 3) := by decide +kernel
theorem dL_isSo_137 : decode cL_isSo 137 = .ok (.aload_n 0, 1) := by decide +kernel
theorem dL_isSo_138 : decode cL_isSo 138 = .ok (.iload 4, 2) := by decide +kernel
theorem dL_isSo_140 : decode cL_isSo 140 = .ok (.invokevirtual 71, 3) := by decide +kernel
theorem dL_isSo_143 : decode cL_isSo 143 = .ok (.ifCond .ne 7, 3) := by decide +kernel
theorem dL_isSo_146 : decode cL_isSo 146 = .ok (.iconst 1, 1) := by decide +kernel
theorem dL_isSo_147 : decode cL_isSo 147 = .ok (.goto 4, 3) := by decide +kernel
theorem dL_isSo_150 : decode cL_isSo 150 = .ok (.iconst 0, 1) := by decide +kernel
theorem dL_isSo_151 : decode cL_isSo 151 = .ok (.istore_n 3, 1) := by decide +kernel
theorem dL_isSo_152 : decode cL_isSo 152 = .ok (.iinc 6 1, 3) := by decide +kernel
theorem dL_isSo_155 : decode cL_isSo 155 = .ok (.goto (-62), 3) := by decide +kernel
theorem dL_isSo_158 : decode cL_isSo 158 = .ok (.iconst 0, 1) := by decide +kernel
theorem dL_isSo_159 : decode cL_isSo 159 = .ok (.istore 6, 2) := by decide +kernel
theorem dL_isSo_161 : decode cL_isSo 161 = .ok (.iload 6, 2) := by decide +kernel
theorem dL_isSo_163 : decode cL_isSo 163 = .ok (.bipush 16, 2) := by decide +kernel
theorem dL_isSo_165 : decode cL_isSo 165 = .ok (.if_icmp .ge 175, 3) := by decide +kernel
theorem dL_isSo_168 : decode cL_isSo 168 = .ok (.iload_n 3, 1) := by decide +kernel
theorem dL_isSo_169 : decode cL_isSo 169 = .ok (.ifCond .eq 171, 3) := by decide +kernel
theorem dL_isSo_172 : decode cL_isSo 172 = .ok (.lconst 0, 1) := by decide +kernel
theorem dL_isSo_173 : decode cL_isSo 173 = .ok (.lstore 7, 2) := by decide +kernel
theorem dL_isSo_175 : decode cL_isSo 175 = .ok (.lconst 0, 1) := by decide +kernel
theorem dL_isSo_176 : decode cL_isSo 176 = .ok (.lstore 9, 2) := by decide +kernel
theorem dL_isSo_178 : decode cL_isSo 178 = .ok (.iconst 0, 1) := by decide +kernel
theorem dL_isSo_179 : decode cL_isSo 179 = .ok (.istore 11, 2) := by decide +kernel
theorem dL_isSo_181 : decode cL_isSo 181 = .ok (.iload 11, 2) := by decide +kernel
theorem dL_isSo_183 : decode cL_isSo 183 = .ok (.bipush 10, 2) := by decide +kernel
theorem dL_isSo_185 : decode cL_isSo 185 = .ok (.if_icmp .ge 62, 3) := by decide +kernel
theorem dL_isSo_188 : decode cL_isSo 188 = .ok (.aload_n 0, 1) := by decide +kernel
theorem dL_isSo_189 : decode cL_isSo 189 = .ok (.iload 11, 2) := by decide +kernel
theorem dL_isSo_191 : decode cL_isSo 191 = .ok (.iload 6, 2) := by decide +kernel
theorem dL_isSo_193 : decode cL_isSo 193 = .ok (.invokestatic 136, 3) := by decide +kernel
theorem dL_isSo_196 : decode cL_isSo 196 = .ok (.lstore 12, 2) := by decide +kernel
theorem dL_isSo_198 : decode cL_isSo 198 = .ok (.lload 9, 2) := by decide +kernel
theorem dL_isSo_200 : decode cL_isSo 200 = .ok (.lload 12, 2) := by decide +kernel
theorem dL_isSo_202 : decode cL_isSo 202 = .ok (.lconst 0, 1) := by decide +kernel
theorem dL_isSo_203 : decode cL_isSo 203 = .ok (.lcmp, 1) := by decide +kernel
theorem dL_isSo_204 : decode cL_isSo 204 = .ok (.ifCond .le 8, 3) := by decide +kernel
theorem dL_isSo_207 : decode cL_isSo 207 = .ok (.lload 12, 2) := by decide +kernel
theorem dL_isSo_209 : decode cL_isSo 209 = .ok (.goto 4, 3) := by decide +kernel
theorem dL_isSo_212 : decode cL_isSo 212 = .ok (.lconst 0, 1) := by decide +kernel
theorem dL_isSo_213 : decode cL_isSo 213 = .ok (.ladd, 1) := by decide +kernel
theorem dL_isSo_214 : decode cL_isSo 214 = .ok (.lstore 9, 2) := by decide +kernel
theorem dL_isSo_216 : decode cL_isSo 216 = .ok (.lload 7, 2) := by decide +kernel
theorem dL_isSo_218 : decode cL_isSo 218 = .ok (.lload 12, 2) := by decide +kernel
theorem dL_isSo_220 : decode cL_isSo 220 = .ok (.lconst 0, 1) := by decide +kernel
theorem dL_isSo_221 : decode cL_isSo 221 = .ok (.lcmp, 1) := by decide +kernel
theorem dL_isSo_222 : decode cL_isSo 222 = .ok (.ifCond .le 15, 3) := by decide +kernel
theorem dL_isSo_225 : decode cL_isSo 225 = .ok (.aload_n 0, 1) := by decide +kernel
theorem dL_isSo_226 : decode cL_isSo 226 = .ok (.iload 11, 2) := by decide +kernel
theorem dL_isSo_228 : decode cL_isSo 228 = .ok (.iload 6, 2) := by decide +kernel
theorem dL_isSo_230 : decode cL_isSo 230 = .ok (.invokevirtual 55, 3) := by decide +kernel
theorem dL_isSo_233 : decode cL_isSo 233 = .ok (.i2l, 1) := by decide +kernel
theorem dL_isSo_234 : decode cL_isSo 234 = .ok (.goto 4, 3) := by decide +kernel
theorem dL_isSo_237 : decode cL_isSo 237 = .ok (.lconst 0, 1) := by decide +kernel
theorem dL_isSo_238 : decode cL_isSo 238 = .ok (.ladd, 1) := by decide +kernel
theorem dL_isSo_239 : decode cL_isSo 239 = .ok (.lstore 7, 2) := by decide +kernel
theorem dL_isSo_241 : decode cL_isSo 241 = .ok (.iinc 11 1, 3) := by decide +kernel
theorem dL_isSo_244 : decode cL_isSo 244 = .ok (.goto (-63), 3) := by decide +kernel
theorem dL_isSo_247 : decode cL_isSo 247 = .ok (.lload 9, 2) := by decide +kernel
theorem dL_isSo_249 : decode cL_isSo 249 = .ok (.aload_n 0, 1) := by decide +kernel
theorem dL_isSo_250 : decode cL_isSo 250 = .ok (.iload 6, 2) := by decide +kernel
theorem dL_isSo_252 : decode cL_isSo 252 = .ok (.invokevirtual 62, 3) := by decide +kernel
theorem dL_isSo_255 : decode cL_isSo 255 = .ok (.i2l, 1) := by decide +kernel
theorem dL_isSo_256 : decode cL_isSo 256 = .ok (.lcmp, 1) := by decide +kernel
theorem dL_isSo_257 : decode cL_isSo 257 = .ok (.ifCond .gt 75, 3) := by decide +kernel
theorem dL_isSo_260 : decode cL_isSo 260 = .ok (.aload_n 0, 1) := by decide +kernel
theorem dL_isSo_261 : decode cL_isSo 261 = .ok (.iload 6, 2) := by decide +kernel
theorem dL_isSo_263 : decode cL_isSo 263 = .ok (.invokevirtual 62, 3) := by decide +kernel
theorem dL_isSo_266 : decode cL_isSo 266 = .ok (.iload_n 2, 1) := by decide +kernel
theorem dL_isSo_267 : decode cL_isSo 267 = .ok (.if_icmp .gt 19, 3) := by decide +kernel
theorem dL_isSo_270 : decode cL_isSo 270 = .ok (.lload 9, 2) := by decide +kernel
theorem dL_isSo_272 : decode cL_isSo 272 = .ok (.aload_n 0, 1) := by decide +kernel
theorem dL_isSo_273 : decode cL_isSo 273 = .ok (.iload 6, 2) := by decide +kernel
theorem dL_isSo_275 : decode cL_isSo 275 = .ok (.invokevirtual 62, 3) := by decide +kernel
theorem dL_isSo_278 : decode cL_isSo 278 = .ok (.i2l, 1) := by decide +kernel
theorem dL_isSo_279 : decode cL_isSo 279 = .ok (.lcmp, 1) := by decide +kernel
theorem dL_isSo_280 : decode cL_isSo 280 = .ok (.ifCond .ne 52, 3) := by decide +kernel
theorem dL_isSo_283 : decode cL_isSo 283 = .ok (.goto 22, 3) := by decide +kernel
theorem dL_isSo_286 : decode cL_isSo 286 = .ok (.lload 9, 2) := by decide +kernel
theorem dL_isSo_288 : decode cL_isSo 288 = .ok (.iload_n 2, 1) := by decide +kernel
theorem dL_isSo_289 : decode cL_isSo 289 = .ok (.i2l, 1) := by decide +kernel
theorem dL_isSo_290 : decode cL_isSo 290 = .ok (.lcmp, 1) := by decide +kernel
theorem dL_isSo_291 : decode cL_isSo 291 = .ok (.ifCond .gt 41, 3) := by decide +kernel
theorem dL_isSo_294 : decode cL_isSo 294 = .ok (.lload 9, 2) := by decide +kernel
theorem dL_isSo_296 : decode cL_isSo 296 = .ok (.iload_n 2, 1) := by decide +kernel
theorem dL_isSo_297 : decode cL_isSo 297 = .ok (.bipush 10, 2) := by decide +kernel
theorem dL_isSo_299 : decode cL_isSo 299 = .ok (.isub, 1) := by decide +kernel
theorem dL_isSo_300 : decode cL_isSo 300 = .ok (.i2l, 1) := by decide +kernel
theorem dL_isSo_301 : decode cL_isSo 301 = .ok (.lcmp, 1) := by decide +kernel
theorem dL_isSo_302 : decode cL_isSo 302 = .ok (.ifCond .le 30, 3) := by decide +kernel
theorem dL_isSo_305 : decode cL_isSo 305 = .ok (.aload_n 0, 1) := by decide +kernel
theorem dL_isSo_306 : decode cL_isSo 306 = .ok (.iload 6, 2) := by decide +kernel
theorem dL_isSo_308 : decode cL_isSo 308 = .ok (.invokevirtual 62, 3) := by decide +kernel
theorem dL_isSo_311 : decode cL_isSo 311 = .ok (.iload_n 2, 1) := by decide +kernel
theorem dL_isSo_312 : decode cL_isSo 312 = .ok (.if_icmp .gt 16, 3) := by decide +kernel
theorem dL_isSo_315 : decode cL_isSo 315 = .ok (.lload 7, 2) := by decide +kernel
theorem dL_isSo_317 : decode cL_isSo 317 = .ok (.aload_n 0, 1) := by decide +kernel
theorem dL_isSo_318 : decode cL_isSo 318 = .ok (.iload 6, 2) := by decide +kernel
theorem dL_isSo_320 : decode cL_isSo 320 = .ok (.invokevirtual 62, 3) := by decide +kernel
theorem dL_isSo_323 : decode cL_isSo 323 = .ok (.i2l, 1) := by decide +kernel
theorem dL_isSo_324 : decode cL_isSo 324 = .ok (.lcmp, 1) := by decide +kernel
theorem dL_isSo_325 : decode cL_isSo 325 = .ok (.ifCond .ne 7, 3) := by decide +kernel
theorem dL_isSo_328 : decode cL_isSo 328 = .ok (.iconst 1, 1) := by decide +kernel
theorem dL_isSo_329 : decode cL_isSo 329 = .ok (.goto 4, 3) := by decide +kernel
theorem dL_isSo_332 : decode cL_isSo 332 = .ok (.iconst 0, 1) := by decide +kernel
theorem dL_isSo_333 : decode cL_isSo 333 = .ok (.istore_n 3, 1) := by decide +kernel
theorem dL_isSo_334 : decode cL_isSo 334 = .ok (.iinc 6 1, 3) := by decide +kernel
theorem dL_isSo_337 : decode cL_isSo 337 = .ok (.goto (-176), 3) := by decide +kernel
theorem dL_isSo_340 : decode cL_isSo 340 = .ok (.iload_n 3, 1) := by decide +kernel
theorem dL_isSo_341 : decode cL_isSo 341 = .ok (.ifCond .eq 33, 3) := by decide +kernel
theorem dL_isSo_344 : decode cL_isSo 344 = .ok (.aload_n 0, 1) := by decide +kernel
theorem dL_isSo_345 : decode cL_isSo 345 = .ok (.bipush 16, 2) := by decide +kernel
theorem dL_isSo_347 : decode cL_isSo 347 = .ok (.invokestatic 134, 3) := by decide +kernel
theorem dL_isSo_350 : decode cL_isSo 350 = .ok (.ldc2_w 16, 3) := by decide +kernel
theorem dL_isSo_353 : decode cL_isSo 353 = .ok (.lcmp, 1) := by decide +kernel
theorem dL_isSo_354 : decode cL_isSo 354 = .ok (.ifCond .ne 20, 3) := by decide +kernel
theorem dL_isSo_357 : decode cL_isSo 357 = .ok (.aload_n 0, 1) := by decide +kernel
theorem dL_isSo_358 : decode cL_isSo 358 = .ok (.bipush 6, 2) := by decide +kernel
theorem dL_isSo_360 : decode cL_isSo 360 = .ok (.invokestatic 159, 3) := by decide +kernel
theorem dL_isSo_363 : decode cL_isSo 363 = .ok (.ldc2_w 16, 3) := by decide +kernel
theorem dL_isSo_366 : decode cL_isSo 366 = .ok (.lcmp, 1) := by decide +kernel
theorem dL_isSo_367 : decode cL_isSo 367 = .ok (.ifCond .ne 7, 3) := by decide +kernel
theorem dL_isSo_370 : decode cL_isSo 370 = .ok (.iconst 1, 1) := by decide +kernel
theorem dL_isSo_371 : decode cL_isSo 371 = .ok (.goto 4, 3) := by decide +kernel
theorem dL_isSo_374 : decode cL_isSo 374 = .ok (.iconst 0, 1) := by decide +kernel
theorem dL_isSo_375 : decode cL_isSo 375 = .ok (.ireturn, 1) := by decide +kernel
