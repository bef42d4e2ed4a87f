set_option maxRecDepth 20000 in
theorem ggL_law_X4_init : GoodIn wsL_law wsX4_init := goodIn_r _ [6, 7, 8, 9, 10, 11, 12, 13, 14, 15, 16, 17, 18, 19, 20, 21, 22, 23, 24, 25, 26, 27, 28, 29, 30, 31, 32, 33, 34, 35, 36, 37, 38, 39, 40, 41, 42, 43, 44, 45, 46, 47, 48, 49, 50, 51, 52, 419, 420, 421, 403, 404, 405, 406, 407, 408, 409, 410, 411, 412, 413, 414, 415, 416, 417, 418, 422, 423, 424, 425] (by decide +kernel) (by decide +kernel)
set_option maxRecDepth 20000 in
theorem gL_law_X4_init : GoodIn wsL_law (wsX4_init) := ggL_law_X4_init
set_option maxRecDepth 20000 in
theorem ggL_law_L_cell : GoodIn wsL_law wsL_cell := goodIn_r _ [56] (by decide +kernel) (by decide +kernel)
set_option maxRecDepth 20000 in
theorem gL_law_L_cell : GoodIn wsL_law (va_wsS RL 167 yL_cell wsL_cell) := goodIn_app (goodIn_of _ (by decide +kernel)) ggL_law_L_cell
theorem goodIn_cons {big a : List Cond} {c : Cond} (ha : GoodIn big [c]) (hb : GoodIn big a) : GoodIn big (c :: a) := fun w h => (List.mem_cons.mp h).elim (fun e => ha w (List.mem_cons.mpr (Or.inl e))) (hb w)
set_option maxRecDepth 20000 in
theorem gkact_0 : GoodIn wsL_law [.code yL_act cL_act 9 (some .long)] := goodIn_r _ [59] rfl (by decide +kernel)
set_option maxRecDepth 20000 in
theorem gkact_1 : GoodIn wsL_law wsL_act_r1 := goodIn_r _ [60, 61, 55, 62, 63, 64, 65, 66, 67, 68, 3, 69, 70, 71, 2, 72, 73, 74, 75, 76, 13, 77, 78, 79] rfl (by decide +kernel)
set_option maxRecDepth 20000 in
theorem gkact_2 : GoodIn wsL_law wsL_act_r2 := goodIn_r _ [80, 12, 81, 82, 40, 41, 83, 84, 85, 86, 87, 88, 89, 90, 91, 92, 93, 94, 95, 96, 97, 98, 42, 99] rfl (by decide +kernel)
set_option maxRecDepth 20000 in
theorem gkact_3 : GoodIn wsL_law wsL_act_r3 := goodIn_r _ [100, 101, 102, 103, 104, 105, 106, 107, 108, 109, 110, 111, 112, 20, 21, 113, 114, 115, 116, 117, 118, 119, 16, 15] rfl (by decide +kernel)
set_option maxRecDepth 20000 in
theorem gkact_4 : GoodIn wsL_law wsL_act_r4 := goodIn_r _ [14, 120, 121, 122, 123, 124, 125, 126, 127, 8, 9, 128, 129, 130, 131, 132, 133, 134, 135, 136, 137, 138, 139, 140] rfl (by decide +kernel)
set_option maxRecDepth 20000 in
theorem gkact_5 : GoodIn wsL_law wsL_act_r5 := goodIn_r _ [141, 142, 143, 144, 145, 146, 147, 148, 149, 150, 151, 152, 153, 154, 155, 156, 157, 158, 159, 160, 18, 161, 162, 163] rfl (by decide +kernel)
set_option maxRecDepth 20000 in
theorem gkact_6 : GoodIn wsL_law wsL_act_r6 := goodIn_r _ [164, 165, 166, 167, 168, 169, 170, 171, 172, 173, 174, 175, 176, 177, 178, 179, 180, 181, 182, 19, 183, 184, 185, 186] rfl (by decide +kernel)
set_option maxRecDepth 20000 in
theorem gkact_7 : GoodIn wsL_law wsL_act_r7 := goodIn_r _ [187, 188, 189, 190, 191, 192, 193, 194, 195, 196, 197, 198, 199, 200, 201, 202, 203, 204, 205, 206, 207, 208, 209, 210] rfl (by decide +kernel)
set_option maxRecDepth 20000 in
theorem gkact_8 : GoodIn wsL_law wsL_act_r8 := goodIn_r _ [211, 212, 213, 214, 215, 216, 217, 218, 219, 220, 221, 222, 223, 224, 225, 226, 227, 228, 229, 230, 231, 232, 233, 234] rfl (by decide +kernel)
set_option maxRecDepth 20000 in
theorem gkact_9 : GoodIn wsL_law wsL_act_r9 := goodIn_r _ [235, 236, 237, 238, 239, 240, 241, 242, 243, 244, 245, 246, 247, 248, 249, 250, 251, 252, 253, 254, 255, 256, 257, 258] rfl (by decide +kernel)
set_option maxRecDepth 20000 in
theorem gkact_10 : GoodIn wsL_law wsL_act_r10 := goodIn_r _ [259, 260, 261, 262, 263, 264, 25, 265, 266, 267, 268, 269, 270, 271, 272, 273, 24, 274, 275, 46, 47, 276, 277, 278] rfl (by decide +kernel)
set_option maxRecDepth 20000 in
theorem gkact_11 : GoodIn wsL_law wsL_act_r11 := goodIn_r _ [279, 280, 281, 282, 283, 284, 285, 286, 287, 288, 289, 290, 291, 292, 293, 294, 295, 296, 297, 298, 299, 300, 301, 302] rfl (by decide +kernel)
set_option maxRecDepth 20000 in
theorem gkact_12 : GoodIn wsL_law wsL_act_r12 := goodIn_r _ [303, 304, 305, 306, 307, 308, 309, 310, 311, 312, 313, 314, 315, 316, 317, 318, 319, 320, 321, 322, 323, 324, 325, 326] rfl (by decide +kernel)
set_option maxRecDepth 20000 in
theorem gkact_13 : GoodIn wsL_law wsL_act_r13 := goodIn_r _ [327, 328, 329, 26, 27, 330, 331, 332, 333, 334, 335, 336, 337, 338, 339, 340, 341, 342, 343, 344, 345, 346, 347, 31] rfl (by decide +kernel)
set_option maxRecDepth 20000 in
theorem gkact_14 : GoodIn wsL_law wsL_act_r14 := goodIn_r _ [348, 349, 350, 351, 352, 353, 354, 355, 356, 357, 358, 359, 360, 361, 362, 363, 364, 365, 366, 367, 368, 32, 33, 34] rfl (by decide +kernel)
set_option maxRecDepth 20000 in
theorem gkact_15 : GoodIn wsL_law wsL_act_r15 := goodIn_r _ [35, 36, 369, 370, 371, 372, 373, 374, 375, 376, 377, 378, 379, 380, 381, 382, 383, 384, 385, 386, 387, 388, 389, 390] rfl (by decide +kernel)
set_option maxRecDepth 20000 in
theorem gkact_16 : GoodIn wsL_law wsL_act_r16 := goodIn_r _ [391, 392] rfl (by decide +kernel)
set_option maxRecDepth 20000 in
theorem ggL_law_L_act : GoodIn wsL_law wsL_act := goodIn_ca (goodIn_ca (goodIn_ca ((goodIn_cons gkact_0 (goodIn_app (goodIn_app (goodIn_app (goodIn_app (goodIn_app (goodIn_app gkact_1 (goodIn_app gkact_2 (goodIn_app gkact_3 (goodIn_app gkact_4 (goodIn_app gkact_5 (goodIn_app gkact_6 (goodIn_app gkact_7 (goodIn_app gkact_8 (goodIn_app gkact_9 (goodIn_app gkact_10 (goodIn_app gkact_11 (goodIn_app gkact_12 (goodIn_app gkact_13 (goodIn_app gkact_14 (goodIn_app gkact_15 (gkact_16)))))))))))))))) (goodIn_sub inlX4 (by decide +kernel))) (goodIn_sub inlX2 (by decide +kernel))) (goodIn_sub inlX0 (by decide +kernel))) (goodIn_sub inlX3 (by decide +kernel))) (goodIn_sub inlX1 (by decide +kernel))))) (goodIn_sub (fun _ h => List.mem_append_left _ (List.mem_append_left _ (List.mem_append_right _ h))) (by decide +kernel))) (goodIn_sub (fun _ h => List.mem_append_left _ (List.mem_append_right _ h)) (by decide +kernel))) (goodIn_sub (fun _ h => List.mem_append_right _ h) (by decide +kernel))
set_option maxRecDepth 20000 in
theorem gL_law_L_act : GoodIn wsL_law (va_wsS RL 170 yL_act wsL_act) := goodIn_app (goodIn_of _ (by decide +kernel)) ggL_law_L_act
set_option maxRecDepth 20000 in
theorem gkareAlike_0 : GoodIn wsL_law [.code yL_areAlike cL_areAlike 5 (some .boolean)] := goodIn_r _ [395] rfl (by decide +kernel)
set_option maxRecDepth 20000 in
theorem gkareAlike_1 : GoodIn wsL_law wsL_areAlike_r1 := goodIn_r _ [308, 309, 310, 2, 311, 142, 143, 144, 145, 16, 15, 246, 121, 247, 248, 249, 250, 312, 313, 314, 315, 208, 209, 210] rfl (by decide +kernel)
set_option maxRecDepth 20000 in
theorem gkareAlike_2 : GoodIn wsL_law wsL_areAlike_r2 := goodIn_r _ [211, 19, 316, 317, 318, 319, 13, 190, 191, 192, 193, 194, 12, 195, 196, 40, 78, 79, 320, 321, 322, 219, 96, 97] rfl (by decide +kernel)
set_option maxRecDepth 20000 in
theorem gkareAlike_3 : GoodIn wsL_law wsL_areAlike_r3 := goodIn_r _ [98, 42, 99, 100, 101, 212, 213, 214, 215, 216, 217, 218, 220, 60, 61, 55, 62, 63, 362, 363, 364, 68, 3, 365] rfl (by decide +kernel)
set_option maxRecDepth 20000 in
theorem gkareAlike_4 : GoodIn wsL_law wsL_areAlike_r4 := goodIn_r _ [366, 367, 368, 75, 76, 32, 33, 34, 35, 36, 369, 370, 371, 372, 282, 283, 284, 285, 25, 20, 21, 269, 270, 271] rfl (by decide +kernel)
set_option maxRecDepth 20000 in
theorem gkareAlike_5 : GoodIn wsL_law wsL_areAlike_r5 := goodIn_r _ [272, 273, 24, 274, 275, 46, 47, 276, 277, 278, 204, 205, 206, 207, 221, 222, 223, 41, 231, 232, 233, 234, 286, 287] rfl (by decide +kernel)
set_option maxRecDepth 20000 in
theorem gkareAlike_6 : GoodIn wsL_law wsL_areAlike_r6 := goodIn_r _ [288, 289, 290, 291, 292, 293, 294, 295, 296, 297, 298, 299, 300, 279, 280, 281, 235, 236, 237, 67, 238, 239, 240, 241] rfl (by decide +kernel)
set_option maxRecDepth 20000 in
theorem gkareAlike_7 : GoodIn wsL_law wsL_areAlike_r7 := goodIn_r _ [73, 74, 77, 242, 243, 244, 245, 197, 198, 199, 200, 201, 202, 203, 251, 252, 253, 254, 255, 256, 257, 355, 356, 357] rfl (by decide +kernel)
set_option maxRecDepth 20000 in
theorem gkareAlike_8 : GoodIn wsL_law wsL_areAlike_r8 := goodIn_r _ [358, 359, 360, 361, 344, 345, 346, 347, 31] rfl (by decide +kernel)
set_option maxRecDepth 20000 in
theorem ggL_law_L_areAlike : GoodIn wsL_law wsL_areAlike := goodIn_ca (goodIn_ca ((goodIn_cons gkareAlike_0 (goodIn_app (goodIn_app (goodIn_app (goodIn_app (goodIn_app (goodIn_app gkareAlike_1 (goodIn_app gkareAlike_2 (goodIn_app gkareAlike_3 (goodIn_app gkareAlike_4 (goodIn_app gkareAlike_5 (goodIn_app gkareAlike_6 (goodIn_app gkareAlike_7 (gkareAlike_8)))))))) (goodIn_sub inlX4 (by decide +kernel))) (goodIn_sub inlX0 (by decide +kernel))) (goodIn_sub inlX2 (by decide +kernel))) (goodIn_sub inlX3 (by decide +kernel))) (goodIn_sub inlX1 (by decide +kernel))))) (goodIn_sub (fun _ h => List.mem_append_left _ (List.mem_append_right _ h)) (by decide +kernel))) (goodIn_sub (fun _ h => List.mem_append_left _ (List.mem_append_left _ (List.mem_append_right _ h))) (by decide +kernel))
set_option maxRecDepth 20000 in
theorem gL_law_L_areAlike : GoodIn wsL_law (va_wsS RL 173 yL_areAlike wsL_areAlike) := goodIn_app (goodIn_of _ (by decide +kernel)) ggL_law_L_areAlike
set_option maxRecDepth 20000 in
theorem ggL_law_L_low : GoodIn wsL_law wsL_low := goodIn_r _ [62, 63] (by decide +kernel) (by decide +kernel)
set_option maxRecDepth 20000 in
theorem gL_law_L_low : GoodIn wsL_law (va_wsS RL 98 yL_low wsL_low) := goodIn_app (goodIn_of _ (by decide +kernel)) ggL_law_L_low
set_option maxRecDepth 20000 in
theorem gkisSo_0 : GoodIn wsL_law [.code yL_isSo cL_isSo 14 (some .boolean)] := goodIn_r _ [398] rfl (by decide +kernel)
set_option maxRecDepth 20000 in
theorem gkisSo_1 : GoodIn wsL_law wsL_isSo_r1 := goodIn_r _ [3, 282, 283, 284, 2, 285, 16, 25, 20, 21, 269, 270, 271, 272, 142, 143, 144, 145, 15, 273, 24, 274, 275, 46] rfl (by decide +kernel)
set_option maxRecDepth 20000 in
theorem gkisSo_2 : GoodIn wsL_law wsL_isSo_r2 := goodIn_r _ [47, 276, 277, 278, 78, 79, 204, 205, 206, 207, 13, 208, 209, 210, 211, 19, 212, 213, 214, 215, 194, 12, 195, 196] rfl (by decide +kernel)
set_option maxRecDepth 20000 in
theorem gkisSo_3 : GoodIn wsL_law wsL_isSo_r3 := goodIn_r _ [40, 190, 191, 192, 193, 216, 217, 218, 219, 96, 97, 98, 42, 99, 100, 101, 220, 221, 222, 223, 41, 231, 232, 233] rfl (by decide +kernel)
set_option maxRecDepth 20000 in
theorem gkisSo_4 : GoodIn wsL_law wsL_isSo_r4 := goodIn_r _ [234, 286, 287, 288, 289, 290, 291, 292, 293, 294, 295, 296, 297, 298, 299, 300, 279, 280, 281, 399, 400, 401, 402, 261] rfl (by decide +kernel)
set_option maxRecDepth 20000 in
theorem gkisSo_5 : GoodIn wsL_law wsL_isSo_r5 := goodIn_r _ [262, 263, 264, 75, 76, 265, 266, 267, 268, 304, 305, 306, 307, 251, 252, 55, 253, 67, 254, 255, 256, 257, 73, 74] rfl (by decide +kernel)
set_option maxRecDepth 20000 in
theorem gkisSo_6 : GoodIn wsL_law wsL_isSo_r6 := goodIn_r _ [77, 246, 121, 247, 248, 249, 250, 242, 243, 244, 245, 200, 201, 202, 203, 238, 239, 240, 241, 235, 236, 237, 362, 363] rfl (by decide +kernel)
set_option maxRecDepth 20000 in
theorem gkisSo_7 : GoodIn wsL_law wsL_isSo_r7 := goodIn_r _ [364, 68, 365, 366, 367, 368, 32, 33, 34, 35, 36, 369, 370, 371, 372] rfl (by decide +kernel)
set_option maxRecDepth 20000 in
theorem ggL_law_L_isSo : GoodIn wsL_law wsL_isSo := goodIn_ca (goodIn_ca ((goodIn_cons gkisSo_0 (goodIn_app (goodIn_app (goodIn_app (goodIn_app (goodIn_app gkisSo_1 (goodIn_app gkisSo_2 (goodIn_app gkisSo_3 (goodIn_app gkisSo_4 (goodIn_app gkisSo_5 (goodIn_app gkisSo_6 (gkisSo_7))))))) (goodIn_sub inlX4 (by decide +kernel))) (goodIn_sub inlX0 (by decide +kernel))) (goodIn_sub inlX3 (by decide +kernel))) (goodIn_sub inlX2 (by decide +kernel))))) (goodIn_sub (fun _ h => List.mem_append_left _ (List.mem_append_right _ h)) (by decide +kernel))) (goodIn_sub (fun _ h => List.mem_append_left _ (List.mem_append_left _ (List.mem_append_right _ h))) (by decide +kernel))
set_option maxRecDepth 20000 in
theorem gL_law_L_isSo : GoodIn wsL_law (va_wsS RL 177 yL_isSo wsL_isSo) := goodIn_app (goodIn_of _ (by decide +kernel)) ggL_law_L_isSo
theorem dL_law_0 : decode cL_law 0 = .ok (.new 9, 3) := by decide +kernel
theorem dL_law_3 : decode cL_law 3 = .ok (.dup, 1) := by decide +kernel
theorem dL_law_4 : decode cL_law 4 = .ok (.invokespecial 166, 3) := by decide +kernel
theorem dL_law_7 : decode cL_law 7 = .ok (.astore_n 1, 1) := by decide +kernel
theorem dL_law_8 : decode cL_law 8 = .ok (.new 9, 3) := by decide +kernel
theorem dL_law_11 : decode cL_law 11 = .ok (.dup, 1) := by decide +kernel
theorem dL_law_12 : decode cL_law 12 = .ok (.invokespecial 166, 3) := by decide +kernel
theorem dL_law_15 : decode cL_law 15 = .ok (.astore_n 2, 1) := by decide +kernel
theorem dL_law_16 : decode cL_law 16 = .ok (.iconst 0, 1) := by decide +kernel
theorem dL_law_17 : decode cL_law 17 = .ok (.istore_n 3, 1) := by decide +kernel
theorem dL_law_18 : decode cL_law 18 = .ok (.bipush 100, 2) := by decide +kernel
theorem dL_law_20 : decode cL_law 20 = .ok (.istore 4, 2) := by decide +kernel
theorem dL_law_22 : decode cL_law 22 = .ok (.iconst 0, 1) := by decide +kernel
theorem dL_law_23 : decode cL_law 23 = .ok (.istore 5, 2) := by decide +kernel
theorem dL_law_25 : decode cL_law 25 = .ok (.iload 5, 2) := by decide +kernel
theorem dL_law_27 : decode cL_law 27 = .ok (.bipush 110, 2) := by decide +kernel
theorem dL_law_29 : decode cL_law 29 = .ok (.if_icmp .ge 222, 3) := by decide +kernel
theorem dL_law_32 : decode cL_law 32 = .ok (.aload_n 0, 1) := by decide +kernel
theorem dL_law_33 : decode cL_law 33 = .ok (.iload 5, 2) := by decide +kernel
theorem dL_law_35 : decode cL_law 35 = .ok (.invokestatic 167, 3) := by decide +kernel
theorem dL_law_38 : decode cL_law 38 = .ok (.istore 6, 2) := by decide +kernel
theorem dL_law_40 : decode cL_law 40 = .ok (.aload_n 1, 1) := by decide +kernel
theorem dL_law_41 : decode cL_law 41 = .ok (.iload 6, 2) := by decide +kernel
theorem dL_law_43 : decode cL_law 43 = .ok (.invokestatic 170, 3) := by decide +kernel
theorem dL_law_46 : decode cL_law 46 = .ok (.lstore 7, 2) := by decide +kernel
theorem dL_law_48 : decode cL_law 48 = .ok (.lload 7, 2) := by decide +kernel
theorem dL_law_50 : decode cL_law 50 = .ok (.ldc2_w 16, 3) := by decide +kernel
theorem dL_law_53 : decode cL_law 53 = .ok (.lcmp, 1) := by decide +kernel
theorem dL_law_54 : decode cL_law 54 = .ok (.ifCond .eq 15, 3) := by decide +kernel
theorem dL_law_57 : decode cL_law 57 = .ok (.aload_n 2, 1) := by decide +kernel
theorem dL_law_58 : decode cL_law 58 = .ok (.iload 6, 2) := by decide +kernel
theorem dL_law_60 : decode cL_law 60 = .ok (.invokestatic 170, 3) := by decide +kernel
theorem dL_law_63 : decode cL_law 63 = .ok (.lload 7, 2) := by decide +kernel
theorem dL_law_65 : decode cL_law 65 = .ok (.lcmp, 1) := by decide +kernel
theorem dL_law_66 : decode cL_law 66 = .ok (.ifCond .ne 25, 3) := by decide +kernel
theorem dL_law_69 : decode cL_law 69 = .ok (.iload 5, 2) := by decide +kernel
theorem dL_law_71 : decode cL_law 71 = .ok (.bipush 36, 2) := by decide +kernel
theorem dL_law_73 : decode cL_law 73 = .ok (.irem, 1) := by decide +kernel
theorem dL_law_74 : decode cL_law 74 = .ok (.bipush 35, 2) := by decide +kernel
theorem dL_law_76 : decode cL_law 76 = .ok (.if_icmp .ne 17, 3) := by decide +kernel
theorem dL_law_79 : decode cL_law 79 = .ok (.aload_n 1, 1) := by decide +kernel
theorem dL_law_80 : decode cL_law 80 = .ok (.aload_n 2, 1) := by decide +kernel
theorem dL_law_81 : decode cL_law 81 = .ok (.iload 6, 2) := by decide +kernel
theorem dL_law_83 : decode cL_law 83 = .ok (.iconst 3, 1) := by decide +kernel
theorem dL_law_84 : decode cL_law 84 = .ok (.ishr, 1) := by decide +kernel
theorem dL_law_85 : decode cL_law 85 = .ok (.invokestatic 173, 3) := by decide +kernel
theorem dL_law_88 : decode cL_law 88 = .ok (.ifCond .ne 5, 3) := by decide +kernel
theorem dL_law_91 : decode cL_law 91 = .ok (.iconst 0, 1) := by decide +kernel
theorem dL_law_92 : decode cL_law 92 = .ok (.ireturn, 1) := by decide +kernel
theorem dL_law_93 : decode cL_law 93 = .ok (.iload 6, 2) := by decide +kernel
theorem dL_law_95 : decode cL_law 95 = .ok (.bipush 38, 2) := by decide +kernel
theorem dL_law_97 : decode cL_law 97 = .ok (.invokestatic 98, 3) := by decide +kernel
theorem dL_law_100 : decode cL_law 100 = .ok (.iconst 4, 1) := by decide +kernel
theorem dL_law_101 : decode cL_law 101 = .ok (.if_icmp .ne 14, 3) := by decide +kernel
theorem dL_law_104 : decode cL_law 104 = .ok (.lload 7, 2) := by decide +kernel
theorem dL_law_106 : decode cL_law 106 = .ok (.lconst 0, 1) := by decide +kernel
theorem dL_law_107 : decode cL_law 107 = .ok (.lcmp, 1) := by decide +kernel
theorem dL_law_108 : decode cL_law 108 = .ok (.ifCond .ne 7, 3) := by decide +kernel
theorem dL_law_111 : decode cL_law 111 = .ok (.iconst 1, 1) := by decide +kernel
theorem dL_law_112 : decode cL_law 112 = .ok (.goto 4, 3) := by decide +kernel
theorem dL_law_115 : decode cL_law 115 = .ok (.iconst 0, 1) := by decide +kernel
theorem dL_law_116 : decode cL_law 116 = .ok (.istore 9, 2) := by decide +kernel
theorem dL_law_118 : decode cL_law 118 = .ok (.iload 6, 2) := by decide +kernel
theorem dL_law_120 : decode cL_law 120 = .ok (.bipush 26, 2) := by decide +kernel
theorem dL_law_122 : decode cL_law 122 = .ok (.ishr, 1) := by decide +kernel
theorem dL_law_123 : decode cL_law 123 = .ok (.bipush 14, 2) := by decide +kernel
theorem dL_law_125 : decode cL_law 125 = .ok (.invokestatic 98, 3) := by decide +kernel
theorem dL_law_128 : decode cL_law 128 = .ok (.ifCond .ne 7, 3) := by decide +kernel
theorem dL_law_131 : decode cL_law 131 = .ok (.iconst 1, 1) := by decide +kernel
theorem dL_law_132 : decode cL_law 132 = .ok (.goto 4, 3) := by decide +kernel
theorem dL_law_135 : decode cL_law 135 = .ok (.iconst 0, 1) := by decide +kernel
theorem dL_law_136 : decode cL_law 136 = .ok (.istore 10, 2) := by decide +kernel
theorem dL_law_138 : decode cL_law 138 = .ok (.iload 10, 2) := by decide +kernel
theorem dL_law_140 : decode cL_law 140 = .ok (.ifCond .eq 18, 3) := by decide +kernel
theorem dL_law_143 : decode cL_law 143 = .ok (.iload 6, 2) := by decide +kernel
theorem dL_law_145 : decode cL_law 145 = .ok (.bipush 7, 2) := by decide +kernel
theorem dL_law_147 : decode cL_law 147 = .ok (.ishr, 1) := by decide +kernel
theorem dL_law_148 : decode cL_law 148 = .ok (.bipush 20, 2) := by decide +kernel
theorem dL_law_150 : decode cL_law 150 = .ok (.invokestatic 98, 3) := by decide +kernel
theorem dL_law_153 : decode cL_law 153 = .ok (.iconst 2, 1) := by decide +kernel
theorem dL_law_154 : decode cL_law 154 = .ok (.isub, 1) := by decide +kernel
theorem dL_law_155 : decode cL_law 155 = .ok (.goto 13, 3) := by decide +kernel
theorem dL_law_158 : decode cL_law 158 = .ok (.iload 6, 2) := by decide +kernel
theorem dL_law_160 : decode cL_law 160 = .ok (.bipush 7, 2) := by decide +kernel
theorem dL_law_162 : decode cL_law 162 = .ok (.ishr, 1) := by decide +kernel
theorem dL_law_163 : decode cL_law 163 = .ok (.bipush 16, 2) := by decide +kernel
theorem dL_law_165 : decode cL_law 165 = .ok (.invokestatic 98, 3) := by decide +kernel
theorem dL_law_168 : decode cL_law 168 = .ok (.istore 11, 2) := by decide +kernel
theorem dL_law_170 : decode cL_law 170 = .ok (.iload 9, 2) := by decide +kernel
theorem dL_law_172 : decode cL_law 172 = .ok (.ifCond .ne 7, 3) := by decide +kernel
theorem dL_law_175 : decode cL_law 175 = .ok (.iload_n 3, 1) := by decide +kernel
theorem dL_law_176 : decode cL_law 176 = .ok (.goto 29, 3) := by decide +kernel
theorem dL_law_179 : decode cL_law 179 = .ok (.iload 10, 2) := by decide +kernel
theorem dL_law_181 : decode cL_law 181 = .ok (.ifCond .eq 8, 3) := by decide +kernel
theorem dL_law_184 : decode cL_law 184 = .ok (.iload 6, 2) := by decide +kernel
theorem dL_law_186 : decode cL_law 186 = .ok (.goto 19, 3) := by decide +kernel
theorem dL_law_189 : decode cL_law 189 = .ok (.iconst 1, 1) := by decide +kernel
theorem dL_law_190 : decode cL_law 190 = .ok (.iload 11, 2) := by decide +kernel
theorem dL_law_192 : decode cL_law 192 = .ok (.ishl, 1) := by decide +kernel
theorem dL_law_193 : decode cL_law 193 = .ok (.iconst 1, 1) := by decide +kernel
theorem dL_law_194 : decode cL_law 194 = .ok (.iload 6, 2) := by decide +kernel
theorem dL_law_196 : decode cL_law 196 = .ok (.iconst 3, 1) := by decide +kernel
theorem dL_law_197 : decode cL_law 197 = .ok (.ishr, 1) := by decide +kernel
theorem dL_law_198 : decode cL_law 198 = .ok (.bipush 16, 2) := by decide +kernel
theorem dL_law_200 : decode cL_law 200 = .ok (.invokestatic 98, 3) := by decide +kernel
theorem dL_law_203 : decode cL_law 203 = .ok (.ishl, 1) := by decide +kernel
theorem dL_law_204 : decode cL_law 204 = .ok (.ior, 1) := by decide +kernel
theorem dL_law_205 : decode cL_law 205 = .ok (.istore_n 3, 1) := by decide +kernel
theorem dL_law_206 : decode cL_law 206 = .ok (.iload 9, 2) := by decide +kernel
theorem dL_law_208 : decode cL_law 208 = .ok (.ifCond .ne 8, 3) := by decide +kernel
theorem dL_law_211 : decode cL_law 211 = .ok (.iload 4, 2) := by decide +kernel
theorem dL_law_213 : decode cL_law 213 = .ok (.goto 30, 3) := by decide +kernel
theorem dL_law_216 : decode cL_law 216 = .ok (.iload 10, 2) := by decide +kernel
theorem dL_law_218 : decode cL_law 218 = .ok (.ifCond .eq 11, 3) := by decide +kernel
theorem dL_law_221 : decode cL_law 221 = .ok (.iload 6, 2) := by decide +kernel
theorem dL_law_223 : decode cL_law 223 = .ok (.bipush 9, 2) := by decide +kernel
theorem dL_law_225 : decode cL_law 225 = .ok (.ishr, 1) := by decide +kernel
theorem dL_law_226 : decode cL_law 226 = .ok (.goto 17, 3) := by decide +kernel
theorem dL_law_229 : decode cL_law 229 = .ok (.iconst 1, 1) := by decide +kernel
theorem dL_law_230 : decode cL_law 230 = .ok (.iconst 2, 1) := by decide +kernel
theorem dL_law_231 : decode cL_law 231 = .ok (.iload 6, 2) := by decide +kernel
theorem dL_law_233 : decode cL_law 233 = .ok (.bipush 9, 2) := by decide +kernel
theorem dL_law_235 : decode cL_law 235 = .ok (.ishr, 1) := by decide +kernel
theorem dL_law_236 : decode cL_law 236 = .ok (.bipush 90, 2) := by decide +kernel
theorem dL_law_238 : decode cL_law 238 = .ok (.invokestatic 98, 3) := by decide +kernel
theorem dL_law_241 : decode cL_law 241 = .ok (.imul, 1) := by decide +kernel
theorem dL_law_242 : decode cL_law 242 = .ok (.iadd, 1) := by decide +kernel
theorem dL_law_243 : decode cL_law 243 = .ok (.istore 4, 2) := by decide +kernel
theorem dL_law_245 : decode cL_law 245 = .ok (.iinc 5 1, 3) := by decide +kernel
theorem dL_law_248 : decode cL_law 248 = .ok (.goto (-223), 3) := by decide +kernel
theorem dL_law_251 : decode cL_law 251 = .ok (.aload_n 1, 1) := by decide +kernel
theorem dL_law_252 : decode cL_law 252 = .ok (.iload_n 3, 1) := by decide +kernel
theorem dL_law_253 : decode cL_law 253 = .ok (.iload 4, 2) := by decide +kernel
theorem dL_law_255 : decode cL_law 255 = .ok (.invokestatic 177, 3) := by decide +kernel
theorem dL_law_258 : decode cL_law 258 = .ok (.ireturn, 1) := by decide +kernel
