set_option maxRecDepth 20000 in
theorem ggX5_lightAt_X5_shines : GoodIn wsX5_lightAt wsX5_shines := goodIn_r _ [6, 7, 8, 42, 43, 44, 45, 46, 47, 48, 49, 50, 51, 52, 53, 54, 55, 56, 57, 58, 59, 60, 61, 62, 63, 64, 65, 66, 67, 68, 69, 70, 71] (by decide +kernel) (by decide +kernel)
set_option maxRecDepth 20000 in
theorem gX5_lightAt_X5_shines : GoodIn wsX5_lightAt (wsV RX5 125 RX5 yX5_shines wsX5_shines) := goodIn_app (goodIn_of _ (by decide +kernel)) ggX5_lightAt_X5_shines
set_option maxRecDepth 20000 in
theorem ggX5_lightAt_X5_lightOf : GoodIn wsX5_lightAt wsX5_lightOf := goodIn_r _ [12, 13, 14, 15, 16, 17, 18, 19, 20, 21, 5, 22, 23, 24, 25, 26, 27, 28, 29, 30, 31, 32, 33, 34, 35, 36, 37, 38, 39, 40, 41, 42, 43, 44, 45, 46, 47, 48, 49, 50, 51, 52, 53, 54, 55, 56, 57, 58, 59, 60, 61, 62, 63, 64, 65, 66, 67, 68, 69, 70, 71] (by decide +kernel) (by decide +kernel)
set_option maxRecDepth 20000 in
theorem gX5_lightAt_X5_lightOf : GoodIn wsX5_lightAt (wsV RX5 119 RX5 yX5_lightOf wsX5_lightOf) := goodIn_app (goodIn_of _ (by decide +kernel)) ggX5_lightAt_X5_lightOf
theorem dX5_lightAt_0 : decode cX5_lightAt 0 = .ok (.iconst 0, 1) := by decide +kernel
theorem dX5_lightAt_1 : decode cX5_lightAt 1 = .ok (.istore_n 2, 1) := by decide +kernel
theorem dX5_lightAt_2 : decode cX5_lightAt 2 = .ok (.iconst 0, 1) := by decide +kernel
theorem dX5_lightAt_3 : decode cX5_lightAt 3 = .ok (.istore_n 3, 1) := by decide +kernel
theorem dX5_lightAt_4 : decode cX5_lightAt 4 = .ok (.iload_n 3, 1) := by decide +kernel
theorem dX5_lightAt_5 : decode cX5_lightAt 5 = .ok (.aload_n 0, 1) := by decide +kernel
theorem dX5_lightAt_6 : decode cX5_lightAt 6 = .ok (.getfield 80, 3) := by decide +kernel
theorem dX5_lightAt_9 : decode cX5_lightAt 9 = .ok (.if_icmp .ge 30, 3) := by decide +kernel
theorem dX5_lightAt_12 : decode cX5_lightAt 12 = .ok (.iload_n 2, 1) := by decide +kernel
theorem dX5_lightAt_13 : decode cX5_lightAt 13 = .ok (.aload_n 0, 1) := by decide +kernel
theorem dX5_lightAt_14 : decode cX5_lightAt 14 = .ok (.iload_n 3, 1) := by decide +kernel
theorem dX5_lightAt_15 : decode cX5_lightAt 15 = .ok (.invokevirtual 125, 3) := by decide +kernel
theorem dX5_lightAt_18 : decode cX5_lightAt 18 = .ok (.ifCond .eq 12, 3) := by decide +kernel
theorem dX5_lightAt_21 : decode cX5_lightAt 21 = .ok (.aload_n 0, 1) := by decide +kernel
theorem dX5_lightAt_22 : decode cX5_lightAt 22 = .ok (.iload_n 3, 1) := by decide +kernel
theorem dX5_lightAt_23 : decode cX5_lightAt 23 = .ok (.iload_n 1, 1) := by decide +kernel
theorem dX5_lightAt_24 : decode cX5_lightAt 24 = .ok (.invokevirtual 119, 3) := by decide +kernel
theorem dX5_lightAt_27 : decode cX5_lightAt 27 = .ok (.goto 4, 3) := by decide +kernel
theorem dX5_lightAt_30 : decode cX5_lightAt 30 = .ok (.iconst 0, 1) := by decide +kernel
theorem dX5_lightAt_31 : decode cX5_lightAt 31 = .ok (.iadd, 1) := by decide +kernel
theorem dX5_lightAt_32 : decode cX5_lightAt 32 = .ok (.istore_n 2, 1) := by decide +kernel
theorem dX5_lightAt_33 : decode cX5_lightAt 33 = .ok (.iinc 3 1, 3) := by decide +kernel
theorem dX5_lightAt_36 : decode cX5_lightAt 36 = .ok (.goto (-32), 3) := by decide +kernel
theorem dX5_lightAt_39 : decode cX5_lightAt 39 = .ok (.iload_n 2, 1) := by decide +kernel
theorem dX5_lightAt_40 : decode cX5_lightAt 40 = .ok (.ireturn, 1) := by decide +kernel
set_option maxRecDepth 20000 in
theorem ggX5_light_X5_isColumn : GoodIn wsX5_light wsX5_isColumn := goodIn_r _ [4, 5, 6, 3, 7] (by decide +kernel) (by decide +kernel)
set_option maxRecDepth 20000 in
theorem gX5_light_X5_isColumn : GoodIn wsX5_light (va_wsS RX5 76 yX5_isColumn wsX5_isColumn) := goodIn_app (goodIn_of _ (by decide +kernel)) ggX5_light_X5_isColumn
set_option maxRecDepth 20000 in
theorem ggX5_light_X5_goesWell : GoodIn wsX5_light wsX5_goesWell := goodIn_r _ [11, 12, 54, 55, 56, 57, 58, 59, 60, 61, 62, 63, 64, 65, 66, 67, 68, 69, 70, 71, 72, 73, 74, 75, 76, 77, 78, 79, 80, 81, 82, 83] (by decide +kernel) (by decide +kernel)
set_option maxRecDepth 20000 in
theorem gX5_light_X5_goesWell : GoodIn wsX5_light (wsV RX5 83 RX5 yX5_goesWell wsX5_goesWell) := goodIn_app (goodIn_of _ (by decide +kernel)) ggX5_light_X5_goesWell
set_option maxRecDepth 20000 in
theorem ggX5_light_X5_lightAt : GoodIn wsX5_light wsX5_lightAt := goodIn_r _ [16, 17, 18, 19, 20, 3, 21, 22, 23, 24, 25, 26, 27, 28, 29, 30, 31, 32, 33, 34, 35, 36, 37, 38, 39, 40, 5, 6, 7, 41, 42, 43, 44, 45, 46, 47, 48, 49, 50, 51, 52, 53, 54, 55, 56, 57, 58, 59, 60, 61, 62, 63, 64, 65, 66, 67, 68, 69, 70, 71, 72, 73, 74, 75, 76, 77, 78, 79, 80, 81, 82, 83] (by decide +kernel) (by decide +kernel)
set_option maxRecDepth 20000 in
theorem gX5_light_X5_lightAt : GoodIn wsX5_light (wsV RX5 128 RX5 yX5_lightAt wsX5_lightAt) := goodIn_app (goodIn_of _ (by decide +kernel)) ggX5_light_X5_lightAt
theorem dX5_light_0 : decode cX5_light 0 = .ok (.aload_n 0, 1) := by decide +kernel
theorem dX5_light_1 : decode cX5_light 1 = .ok (.iload_n 1, 1) := by decide +kernel
theorem dX5_light_2 : decode cX5_light 2 = .ok (.invokestatic 76, 3) := by decide +kernel
theorem dX5_light_5 : decode cX5_light 5 = .ok (.ifCond .eq 7, 3) := by decide +kernel
theorem dX5_light_8 : decode cX5_light 8 = .ok (.iconst 0, 1) := by decide +kernel
theorem dX5_light_9 : decode cX5_light 9 = .ok (.goto 4, 3) := by decide +kernel
theorem dX5_light_12 : decode cX5_light 12 = .ok (.iconst 1, 1) := by decide +kernel
theorem dX5_light_13 : decode cX5_light 13 = .ok (.invokevirtual 83, 3) := by decide +kernel
theorem dX5_light_16 : decode cX5_light 16 = .ok (.ifCond .eq 11, 3) := by decide +kernel
theorem dX5_light_19 : decode cX5_light 19 = .ok (.aload_n 0, 1) := by decide +kernel
theorem dX5_light_20 : decode cX5_light 20 = .ok (.iload_n 1, 1) := by decide +kernel
theorem dX5_light_21 : decode cX5_light 21 = .ok (.invokevirtual 128, 3) := by decide +kernel
theorem dX5_light_24 : decode cX5_light 24 = .ok (.goto 4, 3) := by decide +kernel
theorem dX5_light_27 : decode cX5_light 27 = .ok (.iconst 0, 1) := by decide +kernel
theorem dX5_light_28 : decode cX5_light 28 = .ok (.ireturn, 1) := by decide +kernel
set_option maxRecDepth 20000 in
theorem ggX5_blended_X5_isProjector : GoodIn wsX5_blended wsX5_isProjector := goodIn_r _ [6, 7, 8, 9, 5, 10, 59, 60, 61, 62, 63, 64, 65, 66, 67, 68, 69, 70, 71, 72, 73, 74, 75, 76, 77, 78, 79, 80, 81, 82, 83, 84, 85, 86, 87, 88] (by decide +kernel) (by decide +kernel)
set_option maxRecDepth 20000 in
theorem gX5_blended_X5_isProjector : GoodIn wsX5_blended (wsV RX5 98 RX5 yX5_isProjector wsX5_isProjector) := goodIn_app (goodIn_of _ (by decide +kernel)) ggX5_blended_X5_isProjector
set_option maxRecDepth 20000 in
theorem ggX5_blended_X5_isColumn : GoodIn wsX5_blended wsX5_isColumn := goodIn_r _ [13, 8, 9, 5, 10] (by decide +kernel) (by decide +kernel)
set_option maxRecDepth 20000 in
theorem gX5_blended_X5_isColumn : GoodIn wsX5_blended (va_wsS RX5 76 yX5_isColumn wsX5_isColumn) := goodIn_app (goodIn_of _ (by decide +kernel)) ggX5_blended_X5_isColumn
set_option maxRecDepth 20000 in
theorem ggX5_blended_X5_goesWell : GoodIn wsX5_blended wsX5_goesWell := goodIn_r _ [17, 18, 59, 60, 61, 62, 63, 64, 65, 66, 67, 68, 69, 70, 71, 72, 73, 74, 75, 76, 77, 78, 79, 80, 81, 82, 83, 84, 85, 86, 87, 88] (by decide +kernel) (by decide +kernel)
set_option maxRecDepth 20000 in
theorem gX5_blended_X5_goesWell : GoodIn wsX5_blended (wsV RX5 83 RX5 yX5_goesWell wsX5_goesWell) := goodIn_app (goodIn_of _ (by decide +kernel)) ggX5_blended_X5_goesWell
set_option maxRecDepth 20000 in
theorem ggX5_blended_X5_shines : GoodIn wsX5_blended wsX5_shines := goodIn_r _ [22, 23, 24, 59, 60, 61, 62, 63, 64, 65, 66, 67, 68, 69, 70, 71, 72, 73, 74, 75, 76, 77, 78, 79, 80, 81, 82, 83, 84, 85, 86, 87, 88] (by decide +kernel) (by decide +kernel)
set_option maxRecDepth 20000 in
theorem gX5_blended_X5_shines : GoodIn wsX5_blended (wsV RX5 125 RX5 yX5_shines wsX5_shines) := goodIn_app (goodIn_of _ (by decide +kernel)) ggX5_blended_X5_shines
set_option maxRecDepth 20000 in
theorem ggX5_blended_X5_lightOf : GoodIn wsX5_blended wsX5_lightOf := goodIn_r _ [28, 29, 30, 31, 32, 33, 34, 35, 36, 37, 5, 38, 39, 40, 41, 8, 9, 10, 42, 43, 44, 45, 46, 47, 48, 49, 50, 51, 52, 53, 54, 59, 60, 61, 62, 63, 64, 65, 66, 67, 68, 69, 70, 71, 72, 73, 74, 75, 76, 77, 78, 79, 80, 81, 82, 83, 84, 85, 86, 87, 88] (by decide +kernel) (by decide +kernel)
set_option maxRecDepth 20000 in
theorem gX5_blended_X5_lightOf : GoodIn wsX5_blended (wsV RX5 119 RX5 yX5_lightOf wsX5_lightOf) := goodIn_app (goodIn_of _ (by decide +kernel)) ggX5_blended_X5_lightOf
set_option maxRecDepth 20000 in
theorem ggX5_blended_X5_lightAt : GoodIn wsX5_blended wsX5_lightAt := goodIn_r _ [58, 7, 19, 20, 21, 5, 22, 23, 24, 25, 26, 27, 28, 29, 30, 31, 32, 33, 34, 35, 36, 37, 38, 39, 40, 41, 8, 9, 10, 42, 43, 44, 45, 46, 47, 48, 49, 50, 51, 52, 53, 54, 59, 60, 61, 62, 63, 64, 65, 66, 67, 68, 69, 70, 71, 72, 73, 74, 75, 76, 77, 78, 79, 80, 81, 82, 83, 84, 85, 86, 87, 88] (by decide +kernel) (by decide +kernel)
set_option maxRecDepth 20000 in
theorem gX5_blended_X5_lightAt : GoodIn wsX5_blended (wsV RX5 128 RX5 yX5_lightAt wsX5_lightAt) := goodIn_app (goodIn_of _ (by decide +kernel)) ggX5_blended_X5_lightAt
theorem dX5_blended_0 : decode cX5_blended 0 = .ok (.aload_n 0, 1) := by decide +kernel
theorem dX5_blended_1 : decode cX5_blended 1 = .ok (.aload_n 0, 1) := by decide +kernel
theorem dX5_blended_2 : decode cX5_blended 2 = .ok (.iload_n 1, 1) := by decide +kernel
theorem dX5_blended_3 : decode cX5_blended 3 = .ok (.invokevirtual 98, 3) := by decide +kernel
theorem dX5_blended_6 : decode cX5_blended 6 = .ok (.ifCond .eq 14, 3) := by decide +kernel
theorem dX5_blended_9 : decode cX5_blended 9 = .ok (.iload_n 2, 1) := by decide +kernel
theorem dX5_blended_10 : decode cX5_blended 10 = .ok (.invokestatic 76, 3) := by decide +kernel
theorem dX5_blended_13 : decode cX5_blended 13 = .ok (.ifCond .eq 7, 3) := by decide +kernel
theorem dX5_blended_16 : decode cX5_blended 16 = .ok (.iconst 0, 1) := by decide +kernel
theorem dX5_blended_17 : decode cX5_blended 17 = .ok (.goto 4, 3) := by decide +kernel
theorem dX5_blended_20 : decode cX5_blended 20 = .ok (.iconst 1, 1) := by decide +kernel
theorem dX5_blended_21 : decode cX5_blended 21 = .ok (.invokevirtual 83, 3) := by decide +kernel
theorem dX5_blended_24 : decode cX5_blended 24 = .ok (.ifCond .ne 5, 3) := by decide +kernel
theorem dX5_blended_27 : decode cX5_blended 27 = .ok (.iconst 0, 1) := by decide +kernel
theorem dX5_blended_28 : decode cX5_blended 28 = .ok (.ireturn, 1) := by decide +kernel
theorem dX5_blended_29 : decode cX5_blended 29 = .ok (.aload_n 0, 1) := by decide +kernel
theorem dX5_blended_30 : decode cX5_blended 30 = .ok (.iload_n 1, 1) := by decide +kernel
theorem dX5_blended_31 : decode cX5_blended 31 = .ok (.invokevirtual 125, 3) := by decide +kernel
theorem dX5_blended_34 : decode cX5_blended 34 = .ok (.ifCond .eq 12, 3) := by decide +kernel
theorem dX5_blended_37 : decode cX5_blended 37 = .ok (.aload_n 0, 1) := by decide +kernel
theorem dX5_blended_38 : decode cX5_blended 38 = .ok (.iload_n 1, 1) := by decide +kernel
theorem dX5_blended_39 : decode cX5_blended 39 = .ok (.iload_n 2, 1) := by decide +kernel
theorem dX5_blended_40 : decode cX5_blended 40 = .ok (.invokevirtual 119, 3) := by decide +kernel
theorem dX5_blended_43 : decode cX5_blended 43 = .ok (.goto 4, 3) := by decide +kernel
theorem dX5_blended_46 : decode cX5_blended 46 = .ok (.iconst 0, 1) := by decide +kernel
theorem dX5_blended_47 : decode cX5_blended 47 = .ok (.istore_n 3, 1) := by decide +kernel
theorem dX5_blended_48 : decode cX5_blended 48 = .ok (.aload_n 0, 1) := by decide +kernel
theorem dX5_blended_49 : decode cX5_blended 49 = .ok (.iload_n 2, 1) := by decide +kernel
theorem dX5_blended_50 : decode cX5_blended 50 = .ok (.invokevirtual 128, 3) := by decide +kernel
theorem dX5_blended_53 : decode cX5_blended 53 = .ok (.istore 4, 2) := by decide +kernel
theorem dX5_blended_55 : decode cX5_blended 55 = .ok (.iload 4, 2) := by decide +kernel
theorem dX5_blended_57 : decode cX5_blended 57 = .ok (.aload_n 0, 1) := by decide +kernel
theorem dX5_blended_58 : decode cX5_blended 58 = .ok (.getfield 26, 3) := by decide +kernel
theorem dX5_blended_61 : decode cX5_blended 61 = .ok (.if_icmp .le 19, 3) := by decide +kernel
theorem dX5_blended_64 : decode cX5_blended 64 = .ok (.iload_n 3, 1) := by decide +kernel
theorem dX5_blended_65 : decode cX5_blended 65 = .ok (.i2l, 1) := by decide +kernel
theorem dX5_blended_66 : decode cX5_blended 66 = .ok (.aload_n 0, 1) := by decide +kernel
theorem dX5_blended_67 : decode cX5_blended 67 = .ok (.getfield 26, 3) := by decide +kernel
theorem dX5_blended_70 : decode cX5_blended 70 = .ok (.i2l, 1) := by decide +kernel
theorem dX5_blended_71 : decode cX5_blended 71 = .ok (.lmul, 1) := by decide +kernel
theorem dX5_blended_72 : decode cX5_blended 72 = .ok (.iload 4, 2) := by decide +kernel
theorem dX5_blended_74 : decode cX5_blended 74 = .ok (.i2l, 1) := by decide +kernel
theorem dX5_blended_75 : decode cX5_blended 75 = .ok (.ldiv, 1) := by decide +kernel
theorem dX5_blended_76 : decode cX5_blended 76 = .ok (.l2i, 1) := by decide +kernel
theorem dX5_blended_77 : decode cX5_blended 77 = .ok (.goto 4, 3) := by decide +kernel
theorem dX5_blended_80 : decode cX5_blended 80 = .ok (.iload_n 3, 1) := by decide +kernel
theorem dX5_blended_81 : decode cX5_blended 81 = .ok (.ireturn, 1) := by decide +kernel
set_option maxRecDepth 20000 in
theorem ggX5_isWell_X5_lightOf : GoodIn wsX5_isWell wsX5_lightOf := goodIn_r _ [8, 9, 10, 11, 12, 13, 14, 15, 16, 17, 7, 18, 19, 20, 21, 22, 23, 24, 25, 26, 27, 28, 29, 30, 31, 32, 33, 34, 35, 36, 37, 43, 44, 45, 46, 47, 48, 49, 50, 51, 52, 53, 54, 55, 56, 57, 58, 59, 60, 61, 62, 63, 64, 65, 66, 67, 68, 69, 70, 71, 72] (by decide +kernel) (by decide +kernel)
set_option maxRecDepth 20000 in
theorem gX5_isWell_X5_lightOf : GoodIn wsX5_isWell (wsV RX5 119 RX5 yX5_lightOf wsX5_lightOf) := goodIn_app (goodIn_of _ (by decide +kernel)) ggX5_isWell_X5_lightOf
set_option maxRecDepth 20000 in
theorem ggX5_isWell_X5_isSharpAt : GoodIn wsX5_isWell wsX5_isSharpAt := goodIn_r _ [41, 10, 11, 42, 22, 23, 7, 24, 43, 44, 45, 46, 47, 48, 49, 50, 51, 52, 53, 54, 55, 56, 57, 58, 59, 60, 61, 62, 63, 64, 65, 66, 67, 68, 69, 70, 71, 72] (by decide +kernel) (by decide +kernel)
set_option maxRecDepth 20000 in
theorem gX5_isWell_X5_isSharpAt : GoodIn wsX5_isWell (wsV RX5 122 RX5 yX5_isSharpAt wsX5_isSharpAt) := goodIn_app (goodIn_of _ (by decide +kernel)) ggX5_isWell_X5_isSharpAt
theorem dX5_isWell_0 : decode cX5_isWell 0 = .ok (.iconst 0, 1) := by decide +kernel
theorem dX5_isWell_1 : decode cX5_isWell 1 = .ok (.istore_n 3, 1) := by decide +kernel
theorem dX5_isWell_2 : decode cX5_isWell 2 = .ok (.iconst 1, 1) := by decide +kernel
theorem dX5_isWell_3 : decode cX5_isWell 3 = .ok (.istore 4, 2) := by decide +kernel
theorem dX5_isWell_5 : decode cX5_isWell 5 = .ok (.iconst 0, 1) := by decide +kernel
theorem dX5_isWell_6 : decode cX5_isWell 6 = .ok (.istore 5, 2) := by decide +kernel
theorem dX5_isWell_8 : decode cX5_isWell 8 = .ok (.iload 5, 2) := by decide +kernel
theorem dX5_isWell_10 : decode cX5_isWell 10 = .ok (.aload_n 0, 1) := by decide +kernel
theorem dX5_isWell_11 : decode cX5_isWell 11 = .ok (.getfield 80, 3) := by decide +kernel
theorem dX5_isWell_14 : decode cX5_isWell 14 = .ok (.if_icmp .ge 74, 3) := by decide +kernel
theorem dX5_isWell_17 : decode cX5_isWell 17 = .ok (.iload_n 1, 1) := by decide +kernel
theorem dX5_isWell_18 : decode cX5_isWell 18 = .ok (.iload 5, 2) := by decide +kernel
theorem dX5_isWell_20 : decode cX5_isWell 20 = .ok (.ishr, 1) := by decide +kernel
theorem dX5_isWell_21 : decode cX5_isWell 21 = .ok (.iconst 1, 1) := by decide +kernel
theorem dX5_isWell_22 : decode cX5_isWell 22 = .ok (.iand, 1) := by decide +kernel
theorem dX5_isWell_23 : decode cX5_isWell 23 = .ok (.iconst 1, 1) := by decide +kernel
theorem dX5_isWell_24 : decode cX5_isWell 24 = .ok (.if_icmp .ne 23, 3) := by decide +kernel
theorem dX5_isWell_27 : decode cX5_isWell 27 = .ok (.aload_n 0, 1) := by decide +kernel
theorem dX5_isWell_28 : decode cX5_isWell 28 = .ok (.getfield 54, 3) := by decide +kernel
theorem dX5_isWell_31 : decode cX5_isWell 31 = .ok (.iload 5, 2) := by decide +kernel
theorem dX5_isWell_33 : decode cX5_isWell 33 = .ok (.baload, 1) := by decide +kernel
theorem dX5_isWell_34 : decode cX5_isWell 34 = .ok (.ifCond .ne 13, 3) := by decide +kernel
theorem dX5_isWell_37 : decode cX5_isWell 37 = .ok (.aload_n 0, 1) := by decide +kernel
theorem dX5_isWell_38 : decode cX5_isWell 38 = .ok (.iload 5, 2) := by decide +kernel
theorem dX5_isWell_40 : decode cX5_isWell 40 = .ok (.iload_n 2, 1) := by decide +kernel
theorem dX5_isWell_41 : decode cX5_isWell 41 = .ok (.invokevirtual 119, 3) := by decide +kernel
theorem dX5_isWell_44 : decode cX5_isWell 44 = .ok (.goto 4, 3) := by decide +kernel
theorem dX5_isWell_47 : decode cX5_isWell 47 = .ok (.iconst 0, 1) := by decide +kernel
theorem dX5_isWell_48 : decode cX5_isWell 48 = .ok (.istore 6, 2) := by decide +kernel
theorem dX5_isWell_50 : decode cX5_isWell 50 = .ok (.iload_n 3, 1) := by decide +kernel
theorem dX5_isWell_51 : decode cX5_isWell 51 = .ok (.iload 6, 2) := by decide +kernel
theorem dX5_isWell_53 : decode cX5_isWell 53 = .ok (.iadd, 1) := by decide +kernel
theorem dX5_isWell_54 : decode cX5_isWell 54 = .ok (.istore_n 3, 1) := by decide +kernel
theorem dX5_isWell_55 : decode cX5_isWell 55 = .ok (.iload 4, 2) := by decide +kernel
theorem dX5_isWell_57 : decode cX5_isWell 57 = .ok (.ifCond .eq 22, 3) := by decide +kernel
theorem dX5_isWell_60 : decode cX5_isWell 60 = .ok (.iload 6, 2) := by decide +kernel
theorem dX5_isWell_62 : decode cX5_isWell 62 = .ok (.ifCond .eq 13, 3) := by decide +kernel
theorem dX5_isWell_65 : decode cX5_isWell 65 = .ok (.aload_n 0, 1) := by decide +kernel
theorem dX5_isWell_66 : decode cX5_isWell 66 = .ok (.iload 5, 2) := by decide +kernel
theorem dX5_isWell_68 : decode cX5_isWell 68 = .ok (.iload_n 2, 1) := by decide +kernel
theorem dX5_isWell_69 : decode cX5_isWell 69 = .ok (.invokevirtual 122, 3) := by decide +kernel
theorem dX5_isWell_72 : decode cX5_isWell 72 = .ok (.ifCond .eq 7, 3) := by decide +kernel
theorem dX5_isWell_75 : decode cX5_isWell 75 = .ok (.iconst 1, 1) := by decide +kernel
theorem dX5_isWell_76 : decode cX5_isWell 76 = .ok (.goto 4, 3) := by decide +kernel
theorem dX5_isWell_79 : decode cX5_isWell 79 = .ok (.iconst 0, 1) := by decide +kernel
theorem dX5_isWell_80 : decode cX5_isWell 80 = .ok (.istore 4, 2) := by decide +kernel
theorem dX5_isWell_82 : decode cX5_isWell 82 = .ok (.iinc 5 1, 3) := by decide +kernel
theorem dX5_isWell_85 : decode cX5_isWell 85 = .ok (.goto (-77), 3) := by decide +kernel
theorem dX5_isWell_88 : decode cX5_isWell 88 = .ok (.iload 4, 2) := by decide +kernel
theorem dX5_isWell_90 : decode cX5_isWell 90 = .ok (.ifCond .eq 15, 3) := by decide +kernel
theorem dX5_isWell_93 : decode cX5_isWell 93 = .ok (.iload_n 3, 1) := by decide +kernel
theorem dX5_isWell_94 : decode cX5_isWell 94 = .ok (.aload_n 0, 1) := by decide +kernel
theorem dX5_isWell_95 : decode cX5_isWell 95 = .ok (.getfield 26, 3) := by decide +kernel
theorem dX5_isWell_98 : decode cX5_isWell 98 = .ok (.if_icmp .lt 7, 3) := by decide +kernel
theorem dX5_isWell_101 : decode cX5_isWell 101 = .ok (.iconst 1, 1) := by decide +kernel
theorem dX5_isWell_102 : decode cX5_isWell 102 = .ok (.goto 4, 3) := by decide +kernel
theorem dX5_isWell_105 : decode cX5_isWell 105 = .ok (.iconst 0, 1) := by decide +kernel
theorem dX5_isWell_106 : decode cX5_isWell 106 = .ok (.ireturn, 1) := by decide +kernel
set_option maxRecDepth 20000 in
theorem ggX5_coveredBy_X5_isWell : GoodIn wsX5_coveredBy wsX5_isWell := goodIn_r _ [5, 6, 7, 8, 9, 10, 11, 4, 12, 13, 14, 15, 16, 17, 18, 19, 20, 21, 22, 23, 24, 25, 26, 27, 28, 29, 30, 31, 32, 33, 34, 35, 36, 37, 38, 39, 40, 41, 42, 43, 44, 45, 46, 47, 48, 49, 50, 51, 52, 53, 54, 55, 56, 57, 58, 59, 60, 61, 62, 63, 64, 65, 66, 67, 68, 69, 70, 71, 72, 73, 74, 75, 76] (by decide +kernel) (by decide +kernel)
set_option maxRecDepth 20000 in
theorem gX5_coveredBy_X5_isWell : GoodIn wsX5_coveredBy (wsV RX5 131 RX5 yX5_isWell wsX5_isWell) := goodIn_app (goodIn_of _ (by decide +kernel)) ggX5_coveredBy_X5_isWell
theorem dX5_coveredBy_0 : decode cX5_coveredBy 0 = .ok (.iconst 0, 1) := by decide +kernel
theorem dX5_coveredBy_1 : decode cX5_coveredBy 1 = .ok (.istore_n 2, 1) := by decide +kernel
theorem dX5_coveredBy_2 : decode cX5_coveredBy 2 = .ok (.iconst 0, 1) := by decide +kernel
theorem dX5_coveredBy_3 : decode cX5_coveredBy 3 = .ok (.istore_n 3, 1) := by decide +kernel
theorem dX5_coveredBy_4 : decode cX5_coveredBy 4 = .ok (.iload_n 3, 1) := by decide +kernel
theorem dX5_coveredBy_5 : decode cX5_coveredBy 5 = .ok (.bipush 16, 2) := by decide +kernel
theorem dX5_coveredBy_7 : decode cX5_coveredBy 7 = .ok (.if_icmp .ge 28, 3) := by decide +kernel
theorem dX5_coveredBy_10 : decode cX5_coveredBy 10 = .ok (.iload_n 2, 1) := by decide +kernel
theorem dX5_coveredBy_11 : decode cX5_coveredBy 11 = .ok (.aload_n 0, 1) := by decide +kernel
theorem dX5_coveredBy_12 : decode cX5_coveredBy 12 = .ok (.iload_n 1, 1) := by decide +kernel
theorem dX5_coveredBy_13 : decode cX5_coveredBy 13 = .ok (.iload_n 3, 1) := by decide +kernel
theorem dX5_coveredBy_14 : decode cX5_coveredBy 14 = .ok (.invokevirtual 131, 3) := by decide +kernel
theorem dX5_coveredBy_17 : decode cX5_coveredBy 17 = .ok (.ifCond .eq 9, 3) := by decide +kernel
theorem dX5_coveredBy_20 : decode cX5_coveredBy 20 = .ok (.iconst 1, 1) := by decide +kernel
theorem dX5_coveredBy_21 : decode cX5_coveredBy 21 = .ok (.iload_n 3, 1) := by decide +kernel
theorem dX5_coveredBy_22 : decode cX5_coveredBy 22 = .ok (.ishl, 1) := by decide +kernel
theorem dX5_coveredBy_23 : decode cX5_coveredBy 23 = .ok (.goto 4, 3) := by decide +kernel
theorem dX5_coveredBy_26 : decode cX5_coveredBy 26 = .ok (.iconst 0, 1) := by decide +kernel
theorem dX5_coveredBy_27 : decode cX5_coveredBy 27 = .ok (.ior, 1) := by decide +kernel
theorem dX5_coveredBy_28 : decode cX5_coveredBy 28 = .ok (.istore_n 2, 1) := by decide +kernel
theorem dX5_coveredBy_29 : decode cX5_coveredBy 29 = .ok (.iinc 3 1, 3) := by decide +kernel
theorem dX5_coveredBy_32 : decode cX5_coveredBy 32 = .ok (.goto (-28), 3) := by decide +kernel
theorem dX5_coveredBy_35 : decode cX5_coveredBy 35 = .ok (.iload_n 2, 1) := by decide +kernel
theorem dX5_coveredBy_36 : decode cX5_coveredBy 36 = .ok (.ireturn, 1) := by decide +kernel
set_option maxRecDepth 20000 in
theorem ggX5_isSet_X5_in : GoodIn wsX5_isSet wsX5_in := goodIn_r _ [5] (by decide +kernel) (by decide +kernel)
set_option maxRecDepth 20000 in
theorem gX5_isSet_X5_in : GoodIn wsX5_isSet (va_wsS RX5 72 yX5_in wsX5_in) := goodIn_app (goodIn_of _ (by decide +kernel)) ggX5_isSet_X5_in
theorem dX5_isSet_0 : decode cX5_isSet 0 = .ok (.iload_n 1, 1) := by decide +kernel
theorem dX5_isSet_1 : decode cX5_isSet 1 = .ok (.iconst 0, 1) := by decide +kernel
theorem dX5_isSet_2 : decode cX5_isSet 2 = .ok (.iconst 1, 1) := by decide +kernel
theorem dX5_isSet_3 : decode cX5_isSet 3 = .ok (.aload_n 0, 1) := by decide +kernel
theorem dX5_isSet_4 : decode cX5_isSet 4 = .ok (.getfield 80, 3) := by decide +kernel
theorem dX5_isSet_7 : decode cX5_isSet 7 = .ok (.ishl, 1) := by decide +kernel
theorem dX5_isSet_8 : decode cX5_isSet 8 = .ok (.iconst 1, 1) := by decide +kernel
theorem dX5_isSet_9 : decode cX5_isSet 9 = .ok (.isub, 1) := by decide +kernel
theorem dX5_isSet_10 : decode cX5_isSet 10 = .ok (.invokestatic 72, 3) := by decide +kernel
theorem dX5_isSet_13 : decode cX5_isSet 13 = .ok (.ireturn, 1) := by decide +kernel
set_option maxRecDepth 20000 in
theorem ggX5_covered_X5_isSet : GoodIn wsX5_covered wsX5_isSet := goodIn_r _ [5, 6, 7, 8, 4, 9, 60, 61, 62, 63, 64, 65, 66, 67, 68, 69, 70, 71, 72, 73, 74, 75, 76, 77, 78, 79, 80, 81, 82, 83, 84, 85, 86, 87, 88, 89] (by decide +kernel) (by decide +kernel)
set_option maxRecDepth 20000 in
theorem gX5_covered_X5_isSet : GoodIn wsX5_covered (wsV RX5 134 RX5 yX5_isSet wsX5_isSet) := goodIn_app (goodIn_of _ (by decide +kernel)) ggX5_covered_X5_isSet
set_option maxRecDepth 20000 in
theorem ggX5_covered_X5_goesWell : GoodIn wsX5_covered wsX5_goesWell := goodIn_r _ [13, 14, 60, 61, 62, 63, 64, 65, 66, 67, 68, 69, 70, 71, 72, 73, 74, 75, 76, 77, 78, 79, 80, 81, 82, 83, 84, 85, 86, 87, 88, 89] (by decide +kernel) (by decide +kernel)
set_option maxRecDepth 20000 in
theorem gX5_covered_X5_goesWell : GoodIn wsX5_covered (wsV RX5 83 RX5 yX5_goesWell wsX5_goesWell) := goodIn_app (goodIn_of _ (by decide +kernel)) ggX5_covered_X5_goesWell
set_option maxRecDepth 20000 in
theorem ggX5_covered_X5_coveredBy : GoodIn wsX5_covered wsX5_coveredBy := goodIn_r _ [18, 19, 20, 21, 4, 22, 6, 23, 24, 25, 26, 27, 28, 29, 30, 31, 32, 33, 34, 35, 36, 37, 38, 39, 40, 41, 7, 8, 9, 42, 43, 44, 45, 46, 47, 48, 49, 50, 51, 52, 53, 54, 55, 56, 57, 58, 59, 60, 61, 62, 63, 64, 65, 66, 67, 68, 69, 70, 71, 72, 73, 74, 75, 76, 77, 78, 79, 80, 81, 82, 83, 84, 85, 86, 87, 88, 89] (by decide +kernel) (by decide +kernel)
set_option maxRecDepth 20000 in
theorem gX5_covered_X5_coveredBy : GoodIn wsX5_covered (wsV RX5 137 RX5 yX5_coveredBy wsX5_coveredBy) := goodIn_app (goodIn_of _ (by decide +kernel)) ggX5_covered_X5_coveredBy
theorem dX5_covered_0 : decode cX5_covered 0 = .ok (.aload_n 0, 1) := by decide +kernel
theorem dX5_covered_1 : decode cX5_covered 1 = .ok (.aload_n 0, 1) := by decide +kernel
theorem dX5_covered_2 : decode cX5_covered 2 = .ok (.iload_n 1, 1) := by decide +kernel
theorem dX5_covered_3 : decode cX5_covered 3 = .ok (.invokevirtual 134, 3) := by decide +kernel
theorem dX5_covered_6 : decode cX5_covered 6 = .ok (.ifCond .eq 7, 3) := by decide +kernel
theorem dX5_covered_9 : decode cX5_covered 9 = .ok (.iconst 0, 1) := by decide +kernel
theorem dX5_covered_10 : decode cX5_covered 10 = .ok (.goto 4, 3) := by decide +kernel
theorem dX5_covered_13 : decode cX5_covered 13 = .ok (.iconst 1, 1) := by decide +kernel
theorem dX5_covered_14 : decode cX5_covered 14 = .ok (.invokevirtual 83, 3) := by decide +kernel
theorem dX5_covered_17 : decode cX5_covered 17 = .ok (.ifCond .eq 11, 3) := by decide +kernel
theorem dX5_covered_20 : decode cX5_covered 20 = .ok (.aload_n 0, 1) := by decide +kernel
theorem dX5_covered_21 : decode cX5_covered 21 = .ok (.iload_n 1, 1) := by decide +kernel
theorem dX5_covered_22 : decode cX5_covered 22 = .ok (.invokevirtual 137, 3) := by decide +kernel
theorem dX5_covered_25 : decode cX5_covered 25 = .ok (.goto 4, 3) := by decide +kernel
theorem dX5_covered_28 : decode cX5_covered 28 = .ok (.iconst 0, 1) := by decide +kernel
theorem dX5_covered_29 : decode cX5_covered 29 = .ok (.ireturn, 1) := by decide +kernel
theorem dX5_bits_0 : decode cX5_bits 0 = .ok (.iconst 0, 1) := by decide +kernel
theorem dX5_bits_1 : decode cX5_bits 1 = .ok (.istore_n 1, 1) := by decide +kernel
theorem dX5_bits_2 : decode cX5_bits 2 = .ok (.iconst 0, 1) := by decide +kernel
theorem dX5_bits_3 : decode cX5_bits 3 = .ok (.istore_n 2, 1) := by decide +kernel
theorem dX5_bits_4 : decode cX5_bits 4 = .ok (.iload_n 2, 1) := by decide +kernel
theorem dX5_bits_5 : decode cX5_bits 5 = .ok (.bipush 10, 2) := by decide +kernel
theorem dX5_bits_7 : decode cX5_bits 7 = .ok (.if_icmp .ge 17, 3) := by decide +kernel
theorem dX5_bits_10 : decode cX5_bits 10 = .ok (.iload_n 1, 1) := by decide +kernel
theorem dX5_bits_11 : decode cX5_bits 11 = .ok (.iload_n 0, 1) := by decide +kernel
theorem dX5_bits_12 : decode cX5_bits 12 = .ok (.iload_n 2, 1) := by decide +kernel
theorem dX5_bits_13 : decode cX5_bits 13 = .ok (.ishr, 1) := by decide +kernel
theorem dX5_bits_14 : decode cX5_bits 14 = .ok (.iconst 1, 1) := by decide +kernel
theorem dX5_bits_15 : decode cX5_bits 15 = .ok (.iand, 1) := by decide +kernel
theorem dX5_bits_16 : decode cX5_bits 16 = .ok (.iadd, 1) := by decide +kernel
theorem dX5_bits_17 : decode cX5_bits 17 = .ok (.istore_n 1, 1) := by decide +kernel
theorem dX5_bits_18 : decode cX5_bits 18 = .ok (.iinc 2 1, 3) := by decide +kernel
theorem dX5_bits_21 : decode cX5_bits 21 = .ok (.goto (-17), 3) := by decide +kernel
theorem dX5_bits_24 : decode cX5_bits 24 = .ok (.iload_n 1, 1) := by decide +kernel
theorem dX5_bits_25 : decode cX5_bits 25 = .ok (.ireturn, 1) := by decide +kernel
set_option maxRecDepth 20000 in
theorem ggX5_isEnough_X5_coveredBy : GoodIn wsX5_isEnough wsX5_coveredBy := goodIn_r _ [6, 7, 8, 9, 5, 10, 11, 12, 13, 14, 15, 16, 17, 18, 19, 20, 21, 22, 23, 24, 25, 26, 27, 28, 29, 30, 31, 32, 33, 34, 35, 36, 37, 38, 39, 40, 41, 42, 43, 44, 45, 46, 47, 48, 49, 50, 51, 52, 53, 54, 55, 56, 57, 58, 59, 60, 61, 62, 63, 64, 65, 66, 67, 68, 69, 70, 71, 72, 73, 74, 75, 76, 77, 78, 79, 80, 81] (by decide +kernel) (by decide +kernel)
set_option maxRecDepth 20000 in
theorem gX5_isEnough_X5_coveredBy : GoodIn wsX5_isEnough (wsV RX5 137 RX5 yX5_coveredBy wsX5_coveredBy) := goodIn_app (goodIn_of _ (by decide +kernel)) ggX5_isEnough_X5_coveredBy
theorem dX5_isEnough_0 : decode cX5_isEnough 0 = .ok (.aload_n 0, 1) := by decide +kernel
theorem dX5_isEnough_1 : decode cX5_isEnough 1 = .ok (.getfield 95, 3) := by decide +kernel
theorem dX5_isEnough_4 : decode cX5_isEnough 4 = .ok (.aload_n 0, 1) := by decide +kernel
theorem dX5_isEnough_5 : decode cX5_isEnough 5 = .ok (.iload_n 1, 1) := by decide +kernel
theorem dX5_isEnough_6 : decode cX5_isEnough 6 = .ok (.invokevirtual 137, 3) := by decide +kernel
theorem dX5_isEnough_9 : decode cX5_isEnough 9 = .ok (.iconst (-1), 1) := by decide +kernel
theorem dX5_isEnough_10 : decode cX5_isEnough 10 = .ok (.ixor, 1) := by decide +kernel
theorem dX5_isEnough_11 : decode cX5_isEnough 11 = .ok (.iand, 1) := by decide +kernel
theorem dX5_isEnough_12 : decode cX5_isEnough 12 = .ok (.ifCond .ne 7, 3) := by decide +kernel
theorem dX5_isEnough_15 : decode cX5_isEnough 15 = .ok (.iconst 1, 1) := by decide +kernel
theorem dX5_isEnough_16 : decode cX5_isEnough 16 = .ok (.goto 4, 3) := by decide +kernel
theorem dX5_isEnough_19 : decode cX5_isEnough 19 = .ok (.iconst 0, 1) := by decide +kernel
theorem dX5_isEnough_20 : decode cX5_isEnough 20 = .ok (.ireturn, 1) := by decide +kernel
set_option maxRecDepth 20000 in
theorem ggX5_leastSet_X5_bits : GoodIn wsX5_leastSet wsX5_bits := goodIn_r _ [6] (by decide +kernel) (by decide +kernel)
set_option maxRecDepth 20000 in
theorem gX5_leastSet_X5_bits : GoodIn wsX5_leastSet (va_wsS RX5 140 yX5_bits wsX5_bits) := goodIn_app (goodIn_of _ (by decide +kernel)) ggX5_leastSet_X5_bits
set_option maxRecDepth 20000 in
theorem ggX5_leastSet_X5_isEnough : GoodIn wsX5_leastSet wsX5_isEnough := goodIn_r _ [10, 11, 12, 13, 14, 5, 15, 16, 17, 18, 19, 1, 2, 20, 21, 22, 23, 24, 25, 26, 27, 28, 29, 30, 31, 32, 33, 34, 35, 36, 37, 38, 39, 40, 41, 42, 43, 44, 45, 46, 47, 48, 49, 50, 51, 52, 53, 54, 55, 56, 57, 58, 59, 60, 61, 62, 63, 64, 65, 66, 67, 68, 69, 70, 71, 72, 73, 74, 75, 76, 77, 78, 79, 80, 81, 82, 83, 84, 85, 86, 87, 88] (by decide +kernel) (by decide +kernel)
set_option maxRecDepth 20000 in
theorem gX5_leastSet_X5_isEnough : GoodIn wsX5_leastSet (wsV RX5 143 RX5 yX5_isEnough wsX5_isEnough) := goodIn_app (goodIn_of _ (by decide +kernel)) ggX5_leastSet_X5_isEnough
theorem dX5_leastSet_0 : decode cX5_leastSet 0 = .ok (.iconst 0, 1) := by decide +kernel
theorem dX5_leastSet_1 : decode cX5_leastSet 1 = .ok (.istore_n 1, 1) := by decide +kernel
theorem dX5_leastSet_2 : decode cX5_leastSet 2 = .ok (.iconst 0, 1) := by decide +kernel
theorem dX5_leastSet_3 : decode cX5_leastSet 3 = .ok (.istore_n 2, 1) := by decide +kernel
theorem dX5_leastSet_4 : decode cX5_leastSet 4 = .ok (.iload_n 2, 1) := by decide +kernel
theorem dX5_leastSet_5 : decode cX5_leastSet 5 = .ok (.aload_n 0, 1) := by decide +kernel
theorem dX5_leastSet_6 : decode cX5_leastSet 6 = .ok (.getfield 80, 3) := by decide +kernel
theorem dX5_leastSet_9 : decode cX5_leastSet 9 = .ok (.if_icmp .ge 28, 3) := by decide +kernel
theorem dX5_leastSet_12 : decode cX5_leastSet 12 = .ok (.iload_n 1, 1) := by decide +kernel
theorem dX5_leastSet_13 : decode cX5_leastSet 13 = .ok (.aload_n 0, 1) := by decide +kernel
theorem dX5_leastSet_14 : decode cX5_leastSet 14 = .ok (.getfield 54, 3) := by decide +kernel
theorem dX5_leastSet_17 : decode cX5_leastSet 17 = .ok (.iload_n 2, 1) := by decide +kernel
theorem dX5_leastSet_18 : decode cX5_leastSet 18 = .ok (.baload, 1) := by decide +kernel
theorem dX5_leastSet_19 : decode cX5_leastSet 19 = .ok (.ifCond .eq 9, 3) := by decide +kernel
theorem dX5_leastSet_22 : decode cX5_leastSet 22 = .ok (.iconst 1, 1) := by decide +kernel
theorem dX5_leastSet_23 : decode cX5_leastSet 23 = .ok (.iload_n 2, 1) := by decide +kernel
theorem dX5_leastSet_24 : decode cX5_leastSet 24 = .ok (.ishl, 1) := by decide +kernel
theorem dX5_leastSet_25 : decode cX5_leastSet 25 = .ok (.goto 4, 3) := by decide +kernel
theorem dX5_leastSet_28 : decode cX5_leastSet 28 = .ok (.iconst 0, 1) := by decide +kernel
theorem dX5_leastSet_29 : decode cX5_leastSet 29 = .ok (.ior, 1) := by decide +kernel
theorem dX5_leastSet_30 : decode cX5_leastSet 30 = .ok (.istore_n 1, 1) := by decide +kernel
theorem dX5_leastSet_31 : decode cX5_leastSet 31 = .ok (.iinc 2 1, 3) := by decide +kernel
theorem dX5_leastSet_34 : decode cX5_leastSet 34 = .ok (.goto (-30), 3) := by decide +kernel
theorem dX5_leastSet_37 : decode cX5_leastSet 37 = .ok (.iconst (-1), 1) := by decide +kernel
theorem dX5_leastSet_38 : decode cX5_leastSet 38 = .ok (.istore_n 2, 1) := by decide +kernel
theorem dX5_leastSet_39 : decode cX5_leastSet 39 = .ok (.iconst 0, 1) := by decide +kernel
theorem dX5_leastSet_40 : decode cX5_leastSet 40 = .ok (.istore_n 3, 1) := by decide +kernel
theorem dX5_leastSet_41 : decode cX5_leastSet 41 = .ok (.iload_n 3, 1) := by decide +kernel
theorem dX5_leastSet_42 : decode cX5_leastSet 42 = .ok (.iconst 1, 1) := by decide +kernel
theorem dX5_leastSet_43 : decode cX5_leastSet 43 = .ok (.aload_n 0, 1) := by decide +kernel
theorem dX5_leastSet_44 : decode cX5_leastSet 44 = .ok (.getfield 80, 3) := by decide +kernel
theorem dX5_leastSet_47 : decode cX5_leastSet 47 = .ok (.ishl, 1) := by decide +kernel
theorem dX5_leastSet_48 : decode cX5_leastSet 48 = .ok (.if_icmp .ge 57, 3) := by decide +kernel
theorem dX5_leastSet_51 : decode cX5_leastSet 51 = .ok (.iload_n 2, 1) := by decide +kernel
theorem dX5_leastSet_52 : decode cX5_leastSet 52 = .ok (.iconst (-1), 1) := by decide +kernel
theorem dX5_leastSet_53 : decode cX5_leastSet 53 = .ok (.if_icmp .eq 14, 3) := by decide +kernel
theorem dX5_leastSet_56 : decode cX5_leastSet 56 = .ok (.iload_n 3, 1) := by decide +kernel
theorem dX5_leastSet_57 : decode cX5_leastSet 57 = .ok (.invokestatic 140, 3) := by decide +kernel
theorem dX5_leastSet_60 : decode cX5_leastSet 60 = .ok (.iload_n 2, 1) := by decide +kernel
theorem dX5_leastSet_61 : decode cX5_leastSet 61 = .ok (.invokestatic 140, 3) := by decide +kernel
theorem dX5_leastSet_64 : decode cX5_leastSet 64 = .ok (.if_icmp .ge 7, 3) := by decide +kernel
theorem dX5_leastSet_67 : decode cX5_leastSet 67 = .ok (.iconst 1, 1) := by decide +kernel
theorem dX5_leastSet_68 : decode cX5_leastSet 68 = .ok (.goto 4, 3) := by decide +kernel
theorem dX5_leastSet_71 : decode cX5_leastSet 71 = .ok (.iconst 0, 1) := by decide +kernel
theorem dX5_leastSet_72 : decode cX5_leastSet 72 = .ok (.istore 4, 2) := by decide +kernel
theorem dX5_leastSet_74 : decode cX5_leastSet 74 = .ok (.iload_n 3, 1) := by decide +kernel
theorem dX5_leastSet_75 : decode cX5_leastSet 75 = .ok (.iload_n 1, 1) := by decide +kernel
theorem dX5_leastSet_76 : decode cX5_leastSet 76 = .ok (.iand, 1) := by decide +kernel
theorem dX5_leastSet_77 : decode cX5_leastSet 77 = .ok (.ifCond .ne 20, 3) := by decide +kernel
theorem dX5_leastSet_80 : decode cX5_leastSet 80 = .ok (.iload 4, 2) := by decide +kernel
theorem dX5_leastSet_82 : decode cX5_leastSet 82 = .ok (.ifCond .eq 15, 3) := by decide +kernel
theorem dX5_leastSet_85 : decode cX5_leastSet 85 = .ok (.aload_n 0, 1) := by decide +kernel
theorem dX5_leastSet_86 : decode cX5_leastSet 86 = .ok (.iload_n 3, 1) := by decide +kernel
theorem dX5_leastSet_87 : decode cX5_leastSet 87 = .ok (.invokevirtual 143, 3) := by decide +kernel
theorem dX5_leastSet_90 : decode cX5_leastSet 90 = .ok (.ifCond .eq 7, 3) := by decide +kernel
theorem dX5_leastSet_93 : decode cX5_leastSet 93 = .ok (.iload_n 3, 1) := by decide +kernel
theorem dX5_leastSet_94 : decode cX5_leastSet 94 = .ok (.goto 4, 3) := by decide +kernel
theorem dX5_leastSet_97 : decode cX5_leastSet 97 = .ok (.iload_n 2, 1) := by decide +kernel
theorem dX5_leastSet_98 : decode cX5_leastSet 98 = .ok (.istore_n 2, 1) := by decide +kernel
theorem dX5_leastSet_99 : decode cX5_leastSet 99 = .ok (.iinc 3 1, 3) := by decide +kernel
theorem dX5_leastSet_102 : decode cX5_leastSet 102 = .ok (.goto (-61), 3) := by decide +kernel
theorem dX5_leastSet_105 : decode cX5_leastSet 105 = .ok (.iload_n 2, 1) := by decide +kernel
theorem dX5_leastSet_106 : decode cX5_leastSet 106 = .ok (.ireturn, 1) := by decide +kernel
set_option maxRecDepth 20000 in
theorem ggX5_least_X5_leastSet : GoodIn wsX5_least wsX5_leastSet := goodIn_r _ [6, 7, 8, 9, 10, 5, 11, 12, 13, 14, 15, 16, 17, 18, 19, 20, 21, 22, 23, 24, 25, 26, 27, 28, 29, 30, 31, 32, 33, 34, 35, 36, 37, 38, 39, 40, 41, 42, 43, 44, 45, 46, 47, 48, 49, 50, 51, 52, 53, 54, 55, 56, 57, 58, 59, 60, 61, 62, 63, 64, 65, 66, 67, 68, 69, 70, 71, 72, 73, 74, 75, 76, 77, 78, 79, 80, 81, 82, 83, 84, 85, 86, 87, 88, 89, 90, 91, 92, 93] (by decide +kernel) (by decide +kernel)
set_option maxRecDepth 20000 in
theorem gX5_least_X5_leastSet : GoodIn wsX5_least (wsV RX5 146 RX5 yX5_leastSet wsX5_leastSet) := goodIn_app (goodIn_of _ (by decide +kernel)) ggX5_least_X5_leastSet
theorem dX5_least_0 : decode cX5_least 0 = .ok (.aload_n 0, 1) := by decide +kernel
theorem dX5_least_1 : decode cX5_least 1 = .ok (.iconst 0, 1) := by decide +kernel
theorem dX5_least_2 : decode cX5_least 2 = .ok (.putfield 69, 3) := by decide +kernel
theorem dX5_least_5 : decode cX5_least 5 = .ok (.aload_n 0, 1) := by decide +kernel
theorem dX5_least_6 : decode cX5_least 6 = .ok (.invokevirtual 146, 3) := by decide +kernel
theorem dX5_least_9 : decode cX5_least 9 = .ok (.ireturn, 1) := by decide +kernel
set_option maxRecDepth 20000 in
theorem ggX5_leastAnew_X5_leastSet : GoodIn wsX5_leastAnew wsX5_leastSet := goodIn_r _ [6, 7, 8, 9, 10, 5, 11, 12, 13, 14, 15, 16, 17, 18, 19, 20, 21, 22, 23, 24, 25, 26, 27, 28, 29, 30, 31, 32, 33, 34, 35, 36, 37, 38, 39, 40, 41, 42, 43, 44, 45, 46, 47, 48, 49, 50, 51, 52, 53, 54, 55, 56, 57, 58, 59, 60, 61, 62, 63, 64, 65, 66, 67, 68, 69, 70, 71, 72, 73, 74, 75, 76, 77, 78, 79, 80, 81, 82, 83, 84, 85, 86, 87, 88, 89, 90, 91, 92, 93] (by decide +kernel) (by decide +kernel)
set_option maxRecDepth 20000 in
theorem gX5_leastAnew_X5_leastSet : GoodIn wsX5_leastAnew (wsV RX5 146 RX5 yX5_leastSet wsX5_leastSet) := goodIn_app (goodIn_of _ (by decide +kernel)) ggX5_leastAnew_X5_leastSet
set_option maxRecDepth 20000 in
theorem ggX5_leastAnew_X5_bits : GoodIn wsX5_leastAnew wsX5_bits := goodIn_r _ [11] (by decide +kernel) (by decide +kernel)
set_option maxRecDepth 20000 in
theorem gX5_leastAnew_X5_bits : GoodIn wsX5_leastAnew (va_wsS RX5 140 yX5_bits wsX5_bits) := goodIn_app (goodIn_of _ (by decide +kernel)) ggX5_leastAnew_X5_bits
theorem dX5_leastAnew_0 : decode cX5_leastAnew 0 = .ok (.aload_n 0, 1) := by decide +kernel
theorem dX5_leastAnew_1 : decode cX5_leastAnew 1 = .ok (.iconst 0, 1) := by decide +kernel
theorem dX5_leastAnew_2 : decode cX5_leastAnew 2 = .ok (.putfield 69, 3) := by decide +kernel
theorem dX5_leastAnew_5 : decode cX5_leastAnew 5 = .ok (.aload_n 0, 1) := by decide +kernel
theorem dX5_leastAnew_6 : decode cX5_leastAnew 6 = .ok (.invokevirtual 146, 3) := by decide +kernel
theorem dX5_leastAnew_9 : decode cX5_leastAnew 9 = .ok (.istore_n 1, 1) := by decide +kernel
theorem dX5_leastAnew_10 : decode cX5_leastAnew 10 = .ok (.iload_n 1, 1) := by decide +kernel
theorem dX5_leastAnew_11 : decode cX5_leastAnew 11 = .ok (.iconst (-1), 1) := by decide +kernel
theorem dX5_leastAnew_12 : decode cX5_leastAnew 12 = .ok (.if_icmp .ne 7, 3) := by decide +kernel
theorem dX5_leastAnew_15 : decode cX5_leastAnew 15 = .ok (.iconst (-1), 1) := by decide +kernel
theorem dX5_leastAnew_16 : decode cX5_leastAnew 16 = .ok (.goto 7, 3) := by decide +kernel
theorem dX5_leastAnew_19 : decode cX5_leastAnew 19 = .ok (.iload_n 1, 1) := by decide +kernel
theorem dX5_leastAnew_20 : decode cX5_leastAnew 20 = .ok (.invokestatic 140, 3) := by decide +kernel
theorem dX5_leastAnew_23 : decode cX5_leastAnew 23 = .ok (.ireturn, 1) := by decide +kernel
set_option maxRecDepth 20000 in
theorem ggX5_bears_X5_isSet : GoodIn wsX5_bears wsX5_isSet := goodIn_r _ [6, 1, 7, 8, 5, 9, 65, 66, 67, 68, 69, 70, 71, 72, 73, 74, 75, 76, 77, 78, 79, 80, 81, 82, 83, 84, 85, 86, 87, 88, 89, 90, 91, 92, 93, 94] (by decide +kernel) (by decide +kernel)
set_option maxRecDepth 20000 in
theorem gX5_bears_X5_isSet : GoodIn wsX5_bears (wsV RX5 134 RX5 yX5_isSet wsX5_isSet) := goodIn_app (goodIn_of _ (by decide +kernel)) ggX5_bears_X5_isSet
set_option maxRecDepth 20000 in
theorem ggX5_bears_X5_goesWell : GoodIn wsX5_bears wsX5_goesWell := goodIn_r _ [13, 14, 65, 66, 67, 68, 69, 70, 71, 72, 73, 74, 75, 76, 77, 78, 79, 80, 81, 82, 83, 84, 85, 86, 87, 88, 89, 90, 91, 92, 93, 94] (by decide +kernel) (by decide +kernel)
set_option maxRecDepth 20000 in
theorem gX5_bears_X5_goesWell : GoodIn wsX5_bears (wsV RX5 83 RX5 yX5_goesWell wsX5_goesWell) := goodIn_app (goodIn_of _ (by decide +kernel)) ggX5_bears_X5_goesWell
set_option maxRecDepth 20000 in
theorem ggX5_bears_X5_isEnough : GoodIn wsX5_bears wsX5_isEnough := goodIn_r _ [18, 19, 20, 21, 22, 5, 23, 24, 25, 26, 27, 1, 28, 29, 30, 31, 32, 33, 34, 35, 36, 37, 38, 39, 40, 41, 42, 43, 44, 45, 46, 7, 8, 9, 47, 48, 49, 50, 51, 52, 53, 54, 55, 56, 57, 58, 59, 60, 61, 62, 63, 64, 65, 66, 67, 68, 69, 70, 71, 72, 73, 74, 75, 76, 77, 78, 79, 80, 81, 82, 83, 84, 85, 86, 87, 88, 89, 90, 91, 92, 93, 94] (by decide +kernel) (by decide +kernel)
set_option maxRecDepth 20000 in
theorem gX5_bears_X5_isEnough : GoodIn wsX5_bears (wsV RX5 143 RX5 yX5_isEnough wsX5_isEnough) := goodIn_app (goodIn_of _ (by decide +kernel)) ggX5_bears_X5_isEnough
theorem dX5_bears_0 : decode cX5_bears 0 = .ok (.aload_n 0, 1) := by decide +kernel
theorem dX5_bears_1 : decode cX5_bears 1 = .ok (.aload_n 0, 1) := by decide +kernel
theorem dX5_bears_2 : decode cX5_bears 2 = .ok (.iload_n 1, 1) := by decide +kernel
theorem dX5_bears_3 : decode cX5_bears 3 = .ok (.invokevirtual 134, 3) := by decide +kernel
theorem dX5_bears_6 : decode cX5_bears 6 = .ok (.ifCond .eq 7, 3) := by decide +kernel
theorem dX5_bears_9 : decode cX5_bears 9 = .ok (.iconst 0, 1) := by decide +kernel
theorem dX5_bears_10 : decode cX5_bears 10 = .ok (.goto 4, 3) := by decide +kernel
theorem dX5_bears_13 : decode cX5_bears 13 = .ok (.iconst 1, 1) := by decide +kernel
theorem dX5_bears_14 : decode cX5_bears 14 = .ok (.invokevirtual 83, 3) := by decide +kernel
theorem dX5_bears_17 : decode cX5_bears 17 = .ok (.ifCond .ne 5, 3) := by decide +kernel
theorem dX5_bears_20 : decode cX5_bears 20 = .ok (.iconst 0, 1) := by decide +kernel
theorem dX5_bears_21 : decode cX5_bears 21 = .ok (.ireturn, 1) := by decide +kernel
theorem dX5_bears_22 : decode cX5_bears 22 = .ok (.aload_n 0, 1) := by decide +kernel
theorem dX5_bears_23 : decode cX5_bears 23 = .ok (.iload_n 1, 1) := by decide +kernel
theorem dX5_bears_24 : decode cX5_bears 24 = .ok (.invokevirtual 143, 3) := by decide +kernel
theorem dX5_bears_27 : decode cX5_bears 27 = .ok (.istore_n 2, 1) := by decide +kernel
theorem dX5_bears_28 : decode cX5_bears 28 = .ok (.iconst 0, 1) := by decide +kernel
theorem dX5_bears_29 : decode cX5_bears 29 = .ok (.istore_n 3, 1) := by decide +kernel
theorem dX5_bears_30 : decode cX5_bears 30 = .ok (.iload_n 3, 1) := by decide +kernel
theorem dX5_bears_31 : decode cX5_bears 31 = .ok (.aload_n 0, 1) := by decide +kernel
theorem dX5_bears_32 : decode cX5_bears 32 = .ok (.getfield 80, 3) := by decide +kernel
theorem dX5_bears_35 : decode cX5_bears 35 = .ok (.if_icmp .ge 41, 3) := by decide +kernel
theorem dX5_bears_38 : decode cX5_bears 38 = .ok (.iload_n 2, 1) := by decide +kernel
theorem dX5_bears_39 : decode cX5_bears 39 = .ok (.ifCond .eq 29, 3) := by decide +kernel
theorem dX5_bears_42 : decode cX5_bears 42 = .ok (.iload_n 1, 1) := by decide +kernel
theorem dX5_bears_43 : decode cX5_bears 43 = .ok (.iload_n 3, 1) := by decide +kernel
theorem dX5_bears_44 : decode cX5_bears 44 = .ok (.ishr, 1) := by decide +kernel
theorem dX5_bears_45 : decode cX5_bears 45 = .ok (.iconst 1, 1) := by decide +kernel
theorem dX5_bears_46 : decode cX5_bears 46 = .ok (.iand, 1) := by decide +kernel
theorem dX5_bears_47 : decode cX5_bears 47 = .ok (.ifCond .eq 17, 3) := by decide +kernel
theorem dX5_bears_50 : decode cX5_bears 50 = .ok (.aload_n 0, 1) := by decide +kernel
theorem dX5_bears_51 : decode cX5_bears 51 = .ok (.iload_n 1, 1) := by decide +kernel
theorem dX5_bears_52 : decode cX5_bears 52 = .ok (.iconst 1, 1) := by decide +kernel
theorem dX5_bears_53 : decode cX5_bears 53 = .ok (.iload_n 3, 1) := by decide +kernel
theorem dX5_bears_54 : decode cX5_bears 54 = .ok (.ishl, 1) := by decide +kernel
theorem dX5_bears_55 : decode cX5_bears 55 = .ok (.iconst (-1), 1) := by decide +kernel
theorem dX5_bears_56 : decode cX5_bears 56 = .ok (.ixor, 1) := by decide +kernel
theorem dX5_bears_57 : decode cX5_bears 57 = .ok (.iand, 1) := by decide +kernel
theorem dX5_bears_58 : decode cX5_bears 58 = .ok (.invokevirtual 143, 3) := by decide +kernel
theorem dX5_bears_61 : decode cX5_bears 61 = .ok (.ifCond .eq 7, 3) := by decide +kernel
theorem dX5_bears_64 : decode cX5_bears 64 = .ok (.iconst 1, 1) := by decide +kernel
theorem dX5_bears_65 : decode cX5_bears 65 = .ok (.goto 4, 3) := by decide +kernel
theorem dX5_bears_68 : decode cX5_bears 68 = .ok (.iconst 0, 1) := by decide +kernel
theorem dX5_bears_69 : decode cX5_bears 69 = .ok (.istore_n 2, 1) := by decide +kernel
theorem dX5_bears_70 : decode cX5_bears 70 = .ok (.iinc 3 1, 3) := by decide +kernel
theorem dX5_bears_73 : decode cX5_bears 73 = .ok (.goto (-43), 3) := by decide +kernel
theorem dX5_bears_76 : decode cX5_bears 76 = .ok (.iload_n 2, 1) := by decide +kernel
theorem dX5_bears_77 : decode cX5_bears 77 = .ok (.ireturn, 1) := by decide +kernel
set_option maxRecDepth 20000 in
theorem ggX5_meets_X5_cross : GoodIn wsX5_meets wsX5_cross := goodIn_r _ [8, 2, 1, 9, 13, 14, 15, 16, 17, 18, 19, 20, 21, 22, 23, 24, 25, 26, 27, 28, 29, 30, 31, 32, 33, 34, 35, 36, 37, 38, 39, 40, 41, 42] (by decide +kernel) (by decide +kernel)
set_option maxRecDepth 20000 in
theorem gX5_meets_X5_cross : GoodIn wsX5_meets (wsV RX5 109 RX5 yX5_cross wsX5_cross) := goodIn_app (goodIn_of _ (by decide +kernel)) ggX5_meets_X5_cross
set_option maxRecDepth 20000 in
theorem ggX5_meets_X5_at : GoodIn wsX5_meets wsX5_at := goodIn_r _ [12] (by decide +kernel) (by decide +kernel)
set_option maxRecDepth 20000 in
theorem gX5_meets_X5_at : GoodIn wsX5_meets (va_wsS RX5 90 yX5_at wsX5_at) := goodIn_app (goodIn_of _ (by decide +kernel)) ggX5_meets_X5_at
theorem dX5_meets_0 : decode cX5_meets 0 = .ok (.iconst 0, 1) := by decide +kernel
theorem dX5_meets_1 : decode cX5_meets 1 = .ok (.istore_n 3, 1) := by decide +kernel
theorem dX5_meets_2 : decode cX5_meets 2 = .ok (.aload_n 0, 1) := by decide +kernel
theorem dX5_meets_3 : decode cX5_meets 3 = .ok (.getfield 7, 3) := by decide +kernel
theorem dX5_meets_6 : decode cX5_meets 6 = .ok (.iload_n 2, 1) := by decide +kernel
theorem dX5_meets_7 : decode cX5_meets 7 = .ok (.iaload, 1) := by decide +kernel
theorem dX5_meets_8 : decode cX5_meets 8 = .ok (.iconst 1, 1) := by decide +kernel
theorem dX5_meets_9 : decode cX5_meets 9 = .ok (.iadd, 1) := by decide +kernel
theorem dX5_meets_10 : decode cX5_meets 10 = .ok (.istore 4, 2) := by decide +kernel
theorem dX5_meets_12 : decode cX5_meets 12 = .ok (.iload 4, 2) := by decide +kernel
theorem dX5_meets_14 : decode cX5_meets 14 = .ok (.aload_n 0, 1) := by decide +kernel
theorem dX5_meets_15 : decode cX5_meets 15 = .ok (.getfield 33, 3) := by decide +kernel
theorem dX5_meets_18 : decode cX5_meets 18 = .ok (.iload_n 1, 1) := by decide +kernel
theorem dX5_meets_19 : decode cX5_meets 19 = .ok (.iaload, 1) := by decide +kernel
theorem dX5_meets_20 : decode cX5_meets 20 = .ok (.if_icmp .ge 51, 3) := by decide +kernel
theorem dX5_meets_23 : decode cX5_meets 23 = .ok (.aload_n 0, 1) := by decide +kernel
theorem dX5_meets_24 : decode cX5_meets 24 = .ok (.getfield 19, 3) := by decide +kernel
theorem dX5_meets_27 : decode cX5_meets 27 = .ok (.aload_n 0, 1) := by decide +kernel
theorem dX5_meets_28 : decode cX5_meets 28 = .ok (.iload_n 1, 1) := by decide +kernel
theorem dX5_meets_29 : decode cX5_meets 29 = .ok (.iload_n 2, 1) := by decide +kernel
theorem dX5_meets_30 : decode cX5_meets 30 = .ok (.iload 4, 2) := by decide +kernel
theorem dX5_meets_32 : decode cX5_meets 32 = .ok (.invokevirtual 109, 3) := by decide +kernel
theorem dX5_meets_35 : decode cX5_meets 35 = .ok (.iload 4, 2) := by decide +kernel
theorem dX5_meets_37 : decode cX5_meets 37 = .ok (.invokestatic 90, 3) := by decide +kernel
theorem dX5_meets_40 : decode cX5_meets 40 = .ok (.iaload, 1) := by decide +kernel
theorem dX5_meets_41 : decode cX5_meets 41 = .ok (.istore 5, 2) := by decide +kernel
theorem dX5_meets_43 : decode cX5_meets 43 = .ok (.iload_n 3, 1) := by decide +kernel
theorem dX5_meets_44 : decode cX5_meets 44 = .ok (.ifCond .ne 15, 3) := by decide +kernel
theorem dX5_meets_47 : decode cX5_meets 47 = .ok (.iload 5, 2) := by decide +kernel
theorem dX5_meets_49 : decode cX5_meets 49 = .ok (.iconst 2, 1) := by decide +kernel
theorem dX5_meets_50 : decode cX5_meets 50 = .ok (.if_icmp .eq 9, 3) := by decide +kernel
theorem dX5_meets_53 : decode cX5_meets 53 = .ok (.iload 5, 2) := by decide +kernel
theorem dX5_meets_55 : decode cX5_meets 55 = .ok (.iconst 3, 1) := by decide +kernel
theorem dX5_meets_56 : decode cX5_meets 56 = .ok (.if_icmp .ne 7, 3) := by decide +kernel
theorem dX5_meets_59 : decode cX5_meets 59 = .ok (.iconst 1, 1) := by decide +kernel
theorem dX5_meets_60 : decode cX5_meets 60 = .ok (.goto 4, 3) := by decide +kernel
theorem dX5_meets_63 : decode cX5_meets 63 = .ok (.iconst 0, 1) := by decide +kernel
theorem dX5_meets_64 : decode cX5_meets 64 = .ok (.istore_n 3, 1) := by decide +kernel
theorem dX5_meets_65 : decode cX5_meets 65 = .ok (.iinc 4 1, 3) := by decide +kernel
theorem dX5_meets_68 : decode cX5_meets 68 = .ok (.goto (-56), 3) := by decide +kernel
theorem dX5_meets_71 : decode cX5_meets 71 = .ok (.iload_n 3, 1) := by decide +kernel
theorem dX5_meets_72 : decode cX5_meets 72 = .ok (.ireturn, 1) := by decide +kernel
set_option maxRecDepth 20000 in
theorem ggX5_breachesNow_X5_shines : GoodIn wsX5_breachesNow wsX5_shines := goodIn_r _ [6, 7, 8, 39, 40, 41, 42, 43, 44, 45, 46, 47, 48, 49, 50, 51, 52, 53, 54, 55, 56, 57, 58, 59, 60, 61, 62, 63, 64, 65, 66, 67, 68] (by decide +kernel) (by decide +kernel)
set_option maxRecDepth 20000 in
theorem gX5_breachesNow_X5_shines : GoodIn wsX5_breachesNow (wsV RX5 125 RX5 yX5_shines wsX5_shines) := goodIn_app (goodIn_of _ (by decide +kernel)) ggX5_breachesNow_X5_shines
set_option maxRecDepth 20000 in
theorem ggX5_breachesNow_X5_covers : GoodIn wsX5_breachesNow wsX5_covers := goodIn_r _ [12, 13, 14, 15, 16, 17, 5, 18, 39, 40, 41, 42, 43, 44, 45, 46, 47, 48, 49, 50, 51, 52, 53, 54, 55, 56, 57, 58, 59, 60, 61, 62, 63, 64, 65, 66, 67, 68] (by decide +kernel) (by decide +kernel)
set_option maxRecDepth 20000 in
theorem gX5_breachesNow_X5_covers : GoodIn wsX5_breachesNow (wsV RX5 113 RX5 yX5_covers wsX5_covers) := goodIn_app (goodIn_of _ (by decide +kernel)) ggX5_breachesNow_X5_covers
set_option maxRecDepth 20000 in
theorem ggX5_breachesNow_X5_isBlocked : GoodIn wsX5_breachesNow wsX5_isBlocked := goodIn_r _ [22, 23, 24, 25, 26, 27, 28, 29, 5, 30, 31, 32, 33, 34, 39, 40, 41, 42, 43, 44, 45, 46, 47, 48, 49, 50, 51, 52, 53, 54, 55, 56, 57, 58, 59, 60, 61, 62, 63, 64, 65, 66, 67, 68] (by decide +kernel) (by decide +kernel)
set_option maxRecDepth 20000 in
theorem gX5_breachesNow_X5_isBlocked : GoodIn wsX5_breachesNow (wsV RX5 116 RX5 yX5_isBlocked wsX5_isBlocked) := goodIn_app (goodIn_of _ (by decide +kernel)) ggX5_breachesNow_X5_isBlocked
set_option maxRecDepth 20000 in
theorem ggX5_breachesNow_X5_meets : GoodIn wsX5_breachesNow wsX5_meets := goodIn_r _ [38, 23, 24, 25, 27, 28, 29, 5, 30, 31, 32, 33, 34, 39, 40, 41, 42, 43, 44, 45, 46, 47, 48, 49, 50, 51, 52, 53, 54, 55, 56, 57, 58, 59, 60, 61, 62, 63, 64, 65, 66, 67, 68] (by decide +kernel) (by decide +kernel)
set_option maxRecDepth 20000 in
theorem gX5_breachesNow_X5_meets : GoodIn wsX5_breachesNow (wsV RX5 150 RX5 yX5_meets wsX5_meets) := goodIn_app (goodIn_of _ (by decide +kernel)) ggX5_breachesNow_X5_meets
theorem dX5_breachesNow_0 : decode cX5_breachesNow 0 = .ok (.iconst 0, 1) := by decide +kernel
theorem dX5_breachesNow_1 : decode cX5_breachesNow 1 = .ok (.istore_n 1, 1) := by decide +kernel
theorem dX5_breachesNow_2 : decode cX5_breachesNow 2 = .ok (.iconst 0, 1) := by decide +kernel
theorem dX5_breachesNow_3 : decode cX5_breachesNow 3 = .ok (.istore_n 2, 1) := by decide +kernel
theorem dX5_breachesNow_4 : decode cX5_breachesNow 4 = .ok (.iload_n 2, 1) := by decide +kernel
theorem dX5_breachesNow_5 : decode cX5_breachesNow 5 = .ok (.aload_n 0, 1) := by decide +kernel
theorem dX5_breachesNow_6 : decode cX5_breachesNow 6 = .ok (.getfield 80, 3) := by decide +kernel
theorem dX5_breachesNow_9 : decode cX5_breachesNow 9 = .ok (.if_icmp .ge 66, 3) := by decide +kernel
theorem dX5_breachesNow_12 : decode cX5_breachesNow 12 = .ok (.iconst 0, 1) := by decide +kernel
theorem dX5_breachesNow_13 : decode cX5_breachesNow 13 = .ok (.istore_n 3, 1) := by decide +kernel
theorem dX5_breachesNow_14 : decode cX5_breachesNow 14 = .ok (.iload_n 3, 1) := by decide +kernel
theorem dX5_breachesNow_15 : decode cX5_breachesNow 15 = .ok (.bipush 16, 2) := by decide +kernel
theorem dX5_breachesNow_17 : decode cX5_breachesNow 17 = .ok (.if_icmp .ge 52, 3) := by decide +kernel
theorem dX5_breachesNow_20 : decode cX5_breachesNow 20 = .ok (.iload_n 1, 1) := by decide +kernel
theorem dX5_breachesNow_21 : decode cX5_breachesNow 21 = .ok (.aload_n 0, 1) := by decide +kernel
theorem dX5_breachesNow_22 : decode cX5_breachesNow 22 = .ok (.iload_n 2, 1) := by decide +kernel
theorem dX5_breachesNow_23 : decode cX5_breachesNow 23 = .ok (.invokevirtual 125, 3) := by decide +kernel
theorem dX5_breachesNow_26 : decode cX5_breachesNow 26 = .ok (.ifCond .eq 34, 3) := by decide +kernel
theorem dX5_breachesNow_29 : decode cX5_breachesNow 29 = .ok (.aload_n 0, 1) := by decide +kernel
theorem dX5_breachesNow_30 : decode cX5_breachesNow 30 = .ok (.iload_n 2, 1) := by decide +kernel
theorem dX5_breachesNow_31 : decode cX5_breachesNow 31 = .ok (.iload_n 3, 1) := by decide +kernel
theorem dX5_breachesNow_32 : decode cX5_breachesNow 32 = .ok (.invokevirtual 113, 3) := by decide +kernel
theorem dX5_breachesNow_35 : decode cX5_breachesNow 35 = .ok (.ifCond .eq 25, 3) := by decide +kernel
theorem dX5_breachesNow_38 : decode cX5_breachesNow 38 = .ok (.aload_n 0, 1) := by decide +kernel
theorem dX5_breachesNow_39 : decode cX5_breachesNow 39 = .ok (.iload_n 2, 1) := by decide +kernel
theorem dX5_breachesNow_40 : decode cX5_breachesNow 40 = .ok (.iload_n 3, 1) := by decide +kernel
theorem dX5_breachesNow_41 : decode cX5_breachesNow 41 = .ok (.invokevirtual 116, 3) := by decide +kernel
theorem dX5_breachesNow_44 : decode cX5_breachesNow 44 = .ok (.ifCond .ne 16, 3) := by decide +kernel
theorem dX5_breachesNow_47 : decode cX5_breachesNow 47 = .ok (.aload_n 0, 1) := by decide +kernel
theorem dX5_breachesNow_48 : decode cX5_breachesNow 48 = .ok (.iload_n 2, 1) := by decide +kernel
theorem dX5_breachesNow_49 : decode cX5_breachesNow 49 = .ok (.iload_n 3, 1) := by decide +kernel
theorem dX5_breachesNow_50 : decode cX5_breachesNow 50 = .ok (.invokevirtual 150, 3) := by decide +kernel
theorem dX5_breachesNow_53 : decode cX5_breachesNow 53 = .ok (.ifCond .eq 7, 3) := by decide +kernel
theorem dX5_breachesNow_56 : decode cX5_breachesNow 56 = .ok (.iconst 1, 1) := by decide +kernel
theorem dX5_breachesNow_57 : decode cX5_breachesNow 57 = .ok (.goto 4, 3) := by decide +kernel
theorem dX5_breachesNow_60 : decode cX5_breachesNow 60 = .ok (.iconst 0, 1) := by decide +kernel
theorem dX5_breachesNow_61 : decode cX5_breachesNow 61 = .ok (.iadd, 1) := by decide +kernel
theorem dX5_breachesNow_62 : decode cX5_breachesNow 62 = .ok (.istore_n 1, 1) := by decide +kernel
theorem dX5_breachesNow_63 : decode cX5_breachesNow 63 = .ok (.iinc 3 1, 3) := by decide +kernel
theorem dX5_breachesNow_66 : decode cX5_breachesNow 66 = .ok (.goto (-52), 3) := by decide +kernel
theorem dX5_breachesNow_69 : decode cX5_breachesNow 69 = .ok (.iinc 2 1, 3) := by decide +kernel
theorem dX5_breachesNow_72 : decode cX5_breachesNow 72 = .ok (.goto (-68), 3) := by decide +kernel
theorem dX5_breachesNow_75 : decode cX5_breachesNow 75 = .ok (.iload_n 1, 1) := by decide +kernel
theorem dX5_breachesNow_76 : decode cX5_breachesNow 76 = .ok (.ireturn, 1) := by decide +kernel
set_option maxRecDepth 20000 in
theorem ggX5_breaches_X5_breachesNow : GoodIn wsX5_breaches wsX5_breachesNow := goodIn_r _ [6, 7, 8, 9, 10, 5, 11, 12, 13, 14, 15, 16, 17, 18, 19, 20, 21, 22, 23, 24, 25, 26, 27, 28, 29, 30, 31, 32, 33, 34, 35, 36, 37, 38, 39, 40, 41, 42, 43, 44, 45, 46, 47, 48, 49, 50, 51, 52, 53, 54, 55, 56, 57, 58, 59, 60, 61, 62, 63, 64, 65, 66, 67, 68, 69, 70, 71, 72, 73] (by decide +kernel) (by decide +kernel)
set_option maxRecDepth 20000 in
theorem gX5_breaches_X5_breachesNow : GoodIn wsX5_breaches (wsV RX5 153 RX5 yX5_breachesNow wsX5_breachesNow) := goodIn_app (goodIn_of _ (by decide +kernel)) ggX5_breaches_X5_breachesNow
theorem dX5_breaches_0 : decode cX5_breaches 0 = .ok (.aload_n 0, 1) := by decide +kernel
theorem dX5_breaches_1 : decode cX5_breaches 1 = .ok (.iconst 0, 1) := by decide +kernel
theorem dX5_breaches_2 : decode cX5_breaches 2 = .ok (.putfield 69, 3) := by decide +kernel
theorem dX5_breaches_5 : decode cX5_breaches 5 = .ok (.aload_n 0, 1) := by decide +kernel
theorem dX5_breaches_6 : decode cX5_breaches 6 = .ok (.invokevirtual 153, 3) := by decide +kernel
theorem dX5_breaches_9 : decode cX5_breaches 9 = .ok (.ireturn, 1) := by decide +kernel
set_option maxRecDepth 20000 in
theorem ggX5_curfew_X5_in : GoodIn wsX5_curfew wsX5_in := goodIn_r _ [6] (by decide +kernel) (by decide +kernel)
set_option maxRecDepth 20000 in
theorem gX5_curfew_X5_in : GoodIn wsX5_curfew (va_wsS RX5 72 yX5_in wsX5_in) := goodIn_app (goodIn_of _ (by decide +kernel)) ggX5_curfew_X5_in
set_option maxRecDepth 20000 in
theorem ggX5_curfew_X5_goesWell : GoodIn wsX5_curfew wsX5_goesWell := goodIn_r _ [10, 11, 12, 13, 14, 15, 16, 17, 18, 19, 20, 21, 22, 23, 24, 25, 26, 27, 28, 29, 30, 31, 32, 33, 34, 35, 36, 37, 38, 39, 40, 41] (by decide +kernel) (by decide +kernel)
set_option maxRecDepth 20000 in
theorem gX5_curfew_X5_goesWell : GoodIn wsX5_curfew (wsV RX5 83 RX5 yX5_goesWell wsX5_goesWell) := goodIn_app (goodIn_of _ (by decide +kernel)) ggX5_curfew_X5_goesWell
theorem dX5_curfew_0 : decode cX5_curfew 0 = .ok (.aload_n 0, 1) := by decide +kernel
theorem dX5_curfew_1 : decode cX5_curfew 1 = .ok (.iload_n 1, 1) := by decide +kernel
theorem dX5_curfew_2 : decode cX5_curfew 2 = .ok (.iconst 0, 1) := by decide +kernel
theorem dX5_curfew_3 : decode cX5_curfew 3 = .ok (.sipush 1439, 3) := by decide +kernel
theorem dX5_curfew_6 : decode cX5_curfew 6 = .ok (.invokestatic 72, 3) := by decide +kernel
theorem dX5_curfew_9 : decode cX5_curfew 9 = .ok (.ifCond .eq 18, 3) := by decide +kernel
theorem dX5_curfew_12 : decode cX5_curfew 12 = .ok (.iload_n 2, 1) := by decide +kernel
theorem dX5_curfew_13 : decode cX5_curfew 13 = .ok (.iload_n 1, 1) := by decide +kernel
theorem dX5_curfew_14 : decode cX5_curfew 14 = .ok (.sipush 1440, 3) := by decide +kernel
theorem dX5_curfew_17 : decode cX5_curfew 17 = .ok (.invokestatic 72, 3) := by decide +kernel
theorem dX5_curfew_20 : decode cX5_curfew 20 = .ok (.ifCond .eq 7, 3) := by decide +kernel
theorem dX5_curfew_23 : decode cX5_curfew 23 = .ok (.iconst 0, 1) := by decide +kernel
theorem dX5_curfew_24 : decode cX5_curfew 24 = .ok (.goto 4, 3) := by decide +kernel
theorem dX5_curfew_27 : decode cX5_curfew 27 = .ok (.iconst 1, 1) := by decide +kernel
theorem dX5_curfew_28 : decode cX5_curfew 28 = .ok (.invokevirtual 83, 3) := by decide +kernel
theorem dX5_curfew_31 : decode cX5_curfew 31 = .ok (.ifCond .eq 13, 3) := by decide +kernel
theorem dX5_curfew_34 : decode cX5_curfew 34 = .ok (.aload_n 0, 1) := by decide +kernel
theorem dX5_curfew_35 : decode cX5_curfew 35 = .ok (.iload_n 1, 1) := by decide +kernel
theorem dX5_curfew_36 : decode cX5_curfew 36 = .ok (.putfield 156, 3) := by decide +kernel
theorem dX5_curfew_39 : decode cX5_curfew 39 = .ok (.aload_n 0, 1) := by decide +kernel
theorem dX5_curfew_40 : decode cX5_curfew 40 = .ok (.iload_n 2, 1) := by decide +kernel
theorem dX5_curfew_41 : decode cX5_curfew 41 = .ok (.putfield 159, 3) := by decide +kernel
theorem dX5_curfew_44 : decode cX5_curfew 44 = .ok (.return_, 1) := by decide +kernel
set_option maxRecDepth 20000 in
theorem ggX5_ready_X5_isProjector : GoodIn wsX5_ready wsX5_isProjector := goodIn_r _ [7, 8, 9, 10, 6, 11, 17, 18, 19, 20, 21, 22, 23, 24, 25, 26, 27, 28, 29, 30, 31, 32, 33, 34, 35, 36, 37, 38, 39, 40, 41, 42, 43, 44, 45, 46] (by decide +kernel) (by decide +kernel)
set_option maxRecDepth 20000 in
theorem gX5_ready_X5_isProjector : GoodIn wsX5_ready (wsV RX5 98 RX5 yX5_isProjector wsX5_isProjector) := goodIn_app (goodIn_of _ (by decide +kernel)) ggX5_ready_X5_isProjector
set_option maxRecDepth 20000 in
theorem ggX5_ready_X5_in : GoodIn wsX5_ready wsX5_in := goodIn_r _ [11] (by decide +kernel) (by decide +kernel)
set_option maxRecDepth 20000 in
theorem gX5_ready_X5_in : GoodIn wsX5_ready (va_wsS RX5 72 yX5_in wsX5_in) := goodIn_app (goodIn_of _ (by decide +kernel)) ggX5_ready_X5_in
set_option maxRecDepth 20000 in
theorem ggX5_ready_X5_goesWell : GoodIn wsX5_ready wsX5_goesWell := goodIn_r _ [15, 16, 17, 18, 19, 20, 21, 22, 23, 24, 25, 26, 27, 28, 29, 30, 31, 32, 33, 34, 35, 36, 37, 38, 39, 40, 41, 42, 43, 44, 45, 46] (by decide +kernel) (by decide +kernel)
set_option maxRecDepth 20000 in
theorem gX5_ready_X5_goesWell : GoodIn wsX5_ready (wsV RX5 83 RX5 yX5_goesWell wsX5_goesWell) := goodIn_app (goodIn_of _ (by decide +kernel)) ggX5_ready_X5_goesWell
theorem dX5_ready_0 : decode cX5_ready 0 = .ok (.aload_n 0, 1) := by decide +kernel
theorem dX5_ready_1 : decode cX5_ready 1 = .ok (.iload_n 1, 1) := by decide +kernel
theorem dX5_ready_2 : decode cX5_ready 2 = .ok (.invokevirtual 98, 3) := by decide +kernel
theorem dX5_ready_5 : decode cX5_ready 5 = .ok (.istore_n 3, 1) := by decide +kernel
theorem dX5_ready_6 : decode cX5_ready 6 = .ok (.aload_n 0, 1) := by decide +kernel
theorem dX5_ready_7 : decode cX5_ready 7 = .ok (.iload_n 3, 1) := by decide +kernel
theorem dX5_ready_8 : decode cX5_ready 8 = .ok (.ifCond .ne 7, 3) := by decide +kernel
theorem dX5_ready_11 : decode cX5_ready 11 = .ok (.iconst 1, 1) := by decide +kernel
theorem dX5_ready_12 : decode cX5_ready 12 = .ok (.goto 18, 3) := by decide +kernel
theorem dX5_ready_15 : decode cX5_ready 15 = .ok (.iload_n 2, 1) := by decide +kernel
theorem dX5_ready_16 : decode cX5_ready 16 = .ok (.iconst 0, 1) := by decide +kernel
theorem dX5_ready_17 : decode cX5_ready 17 = .ok (.ldc 105, 2) := by decide +kernel
theorem dX5_ready_19 : decode cX5_ready 19 = .ok (.invokestatic 72, 3) := by decide +kernel
theorem dX5_ready_22 : decode cX5_ready 22 = .ok (.ifCond .eq 7, 3) := by decide +kernel
theorem dX5_ready_25 : decode cX5_ready 25 = .ok (.iconst 0, 1) := by decide +kernel
theorem dX5_ready_26 : decode cX5_ready 26 = .ok (.goto 4, 3) := by decide +kernel
theorem dX5_ready_29 : decode cX5_ready 29 = .ok (.iconst 2, 1) := by decide +kernel
theorem dX5_ready_30 : decode cX5_ready 30 = .ok (.invokevirtual 83, 3) := by decide +kernel
theorem dX5_ready_33 : decode cX5_ready 33 = .ok (.ifCond .ne 5, 3) := by decide +kernel
theorem dX5_ready_36 : decode cX5_ready 36 = .ok (.iconst 0, 1) := by decide +kernel
theorem dX5_ready_37 : decode cX5_ready 37 = .ok (.ireturn, 1) := by decide +kernel
theorem dX5_ready_38 : decode cX5_ready 38 = .ok (.aload_n 0, 1) := by decide +kernel
theorem dX5_ready_39 : decode cX5_ready 39 = .ok (.getfield 57, 3) := by decide +kernel
theorem dX5_ready_42 : decode cX5_ready 42 = .ok (.iload_n 1, 1) := by decide +kernel
theorem dX5_ready_43 : decode cX5_ready 43 = .ok (.iaload, 1) := by decide +kernel
theorem dX5_ready_44 : decode cX5_ready 44 = .ok (.istore 4, 2) := by decide +kernel
theorem dX5_ready_46 : decode cX5_ready 46 = .ok (.aload_n 0, 1) := by decide +kernel
theorem dX5_ready_47 : decode cX5_ready 47 = .ok (.getfield 57, 3) := by decide +kernel
theorem dX5_ready_50 : decode cX5_ready 50 = .ok (.iload_n 1, 1) := by decide +kernel
theorem dX5_ready_51 : decode cX5_ready 51 = .ok (.iload_n 2, 1) := by decide +kernel
theorem dX5_ready_52 : decode cX5_ready 52 = .ok (.iastore, 1) := by decide +kernel
theorem dX5_ready_53 : decode cX5_ready 53 = .ok (.iload 4, 2) := by decide +kernel
theorem dX5_ready_55 : decode cX5_ready 55 = .ok (.ireturn, 1) := by decide +kernel
set_option maxRecDepth 20000 in
theorem ggX5_propose_X5_in : GoodIn wsX5_propose wsX5_in := goodIn_r _ [5] (by decide +kernel) (by decide +kernel)
set_option maxRecDepth 20000 in
theorem gX5_propose_X5_in : GoodIn wsX5_propose (va_wsS RX5 72 yX5_in wsX5_in) := goodIn_app (goodIn_of _ (by decide +kernel)) ggX5_propose_X5_in
set_option maxRecDepth 20000 in
theorem ggX5_propose_X5_goesWell : GoodIn wsX5_propose wsX5_goesWell := goodIn_r _ [9, 10, 11, 12, 13, 14, 15, 16, 17, 18, 19, 20, 21, 22, 23, 24, 25, 26, 27, 28, 29, 30, 31, 32, 33, 34, 35, 36, 37, 38, 39, 40] (by decide +kernel) (by decide +kernel)
set_option maxRecDepth 20000 in
theorem gX5_propose_X5_goesWell : GoodIn wsX5_propose (wsV RX5 83 RX5 yX5_goesWell wsX5_goesWell) := goodIn_app (goodIn_of _ (by decide +kernel)) ggX5_propose_X5_goesWell
theorem dX5_propose_0 : decode cX5_propose 0 = .ok (.iload_n 1, 1) := by decide +kernel
theorem dX5_propose_1 : decode cX5_propose 1 = .ok (.iconst 0, 1) := by decide +kernel
theorem dX5_propose_2 : decode cX5_propose 2 = .ok (.iconst 3, 1) := by decide +kernel
theorem dX5_propose_3 : decode cX5_propose 3 = .ok (.invokestatic 72, 3) := by decide +kernel
theorem dX5_propose_6 : decode cX5_propose 6 = .ok (.istore_n 3, 1) := by decide +kernel
theorem dX5_propose_7 : decode cX5_propose 7 = .ok (.aload_n 0, 1) := by decide +kernel
theorem dX5_propose_8 : decode cX5_propose 8 = .ok (.iload_n 3, 1) := by decide +kernel
theorem dX5_propose_9 : decode cX5_propose 9 = .ok (.ifCond .ne 7, 3) := by decide +kernel
theorem dX5_propose_12 : decode cX5_propose 12 = .ok (.iconst 1, 1) := by decide +kernel
theorem dX5_propose_13 : decode cX5_propose 13 = .ok (.goto 19, 3) := by decide +kernel
theorem dX5_propose_16 : decode cX5_propose 16 = .ok (.iload_n 2, 1) := by decide +kernel
theorem dX5_propose_17 : decode cX5_propose 17 = .ok (.iconst 0, 1) := by decide +kernel
theorem dX5_propose_18 : decode cX5_propose 18 = .ok (.sipush 999, 3) := by decide +kernel
theorem dX5_propose_21 : decode cX5_propose 21 = .ok (.invokestatic 72, 3) := by decide +kernel
theorem dX5_propose_24 : decode cX5_propose 24 = .ok (.ifCond .eq 7, 3) := by decide +kernel
theorem dX5_propose_27 : decode cX5_propose 27 = .ok (.iconst 0, 1) := by decide +kernel
theorem dX5_propose_28 : decode cX5_propose 28 = .ok (.goto 4, 3) := by decide +kernel
theorem dX5_propose_31 : decode cX5_propose 31 = .ok (.iconst 2, 1) := by decide +kernel
theorem dX5_propose_32 : decode cX5_propose 32 = .ok (.invokevirtual 83, 3) := by decide +kernel
theorem dX5_propose_35 : decode cX5_propose 35 = .ok (.ifCond .ne 5, 3) := by decide +kernel
theorem dX5_propose_38 : decode cX5_propose 38 = .ok (.iconst 0, 1) := by decide +kernel
theorem dX5_propose_39 : decode cX5_propose 39 = .ok (.ireturn, 1) := by decide +kernel
theorem dX5_propose_40 : decode cX5_propose 40 = .ok (.aload_n 0, 1) := by decide +kernel
theorem dX5_propose_41 : decode cX5_propose 41 = .ok (.getfield 66, 3) := by decide +kernel
theorem dX5_propose_44 : decode cX5_propose 44 = .ok (.iload_n 1, 1) := by decide +kernel
theorem dX5_propose_45 : decode cX5_propose 45 = .ok (.iaload, 1) := by decide +kernel
theorem dX5_propose_46 : decode cX5_propose 46 = .ok (.istore 4, 2) := by decide +kernel
theorem dX5_propose_48 : decode cX5_propose 48 = .ok (.aload_n 0, 1) := by decide +kernel
theorem dX5_propose_49 : decode cX5_propose 49 = .ok (.getfield 66, 3) := by decide +kernel
theorem dX5_propose_52 : decode cX5_propose 52 = .ok (.iload_n 1, 1) := by decide +kernel
theorem dX5_propose_53 : decode cX5_propose 53 = .ok (.iload_n 2, 1) := by decide +kernel
theorem dX5_propose_54 : decode cX5_propose 54 = .ok (.iastore, 1) := by decide +kernel
theorem dX5_propose_55 : decode cX5_propose 55 = .ok (.iload 4, 2) := by decide +kernel
theorem dX5_propose_57 : decode cX5_propose 57 = .ok (.ireturn, 1) := by decide +kernel
set_option maxRecDepth 20000 in
theorem ggX5_answer_X5_in : GoodIn wsX5_answer wsX5_in := goodIn_r _ [6] (by decide +kernel) (by decide +kernel)
set_option maxRecDepth 20000 in
theorem gX5_answer_X5_in : GoodIn wsX5_answer (va_wsS RX5 72 yX5_in wsX5_in) := goodIn_app (goodIn_of _ (by decide +kernel)) ggX5_answer_X5_in
set_option maxRecDepth 20000 in
theorem ggX5_answer_X5_goesWell : GoodIn wsX5_answer wsX5_goesWell := goodIn_r _ [10, 11, 12, 13, 14, 15, 16, 17, 18, 19, 20, 21, 22, 23, 24, 25, 26, 27, 28, 29, 30, 31, 32, 33, 34, 35, 36, 37, 38, 39, 40, 41] (by decide +kernel) (by decide +kernel)
set_option maxRecDepth 20000 in
theorem gX5_answer_X5_goesWell : GoodIn wsX5_answer (wsV RX5 83 RX5 yX5_goesWell wsX5_goesWell) := goodIn_app (goodIn_of _ (by decide +kernel)) ggX5_answer_X5_goesWell
theorem dX5_answer_0 : decode cX5_answer 0 = .ok (.iload_n 1, 1) := by decide +kernel
theorem dX5_answer_1 : decode cX5_answer 1 = .ok (.iconst 0, 1) := by decide +kernel
theorem dX5_answer_2 : decode cX5_answer 2 = .ok (.iconst 3, 1) := by decide +kernel
theorem dX5_answer_3 : decode cX5_answer 3 = .ok (.invokestatic 72, 3) := by decide +kernel
theorem dX5_answer_6 : decode cX5_answer 6 = .ok (.istore_n 3, 1) := by decide +kernel
theorem dX5_answer_7 : decode cX5_answer 7 = .ok (.aload_n 0, 1) := by decide +kernel
theorem dX5_answer_8 : decode cX5_answer 8 = .ok (.iload_n 3, 1) := by decide +kernel
theorem dX5_answer_9 : decode cX5_answer 9 = .ok (.ifCond .ne 7, 3) := by decide +kernel
theorem dX5_answer_12 : decode cX5_answer 12 = .ok (.iconst 1, 1) := by decide +kernel
theorem dX5_answer_13 : decode cX5_answer 13 = .ok (.goto 18, 3) := by decide +kernel
theorem dX5_answer_16 : decode cX5_answer 16 = .ok (.aload_n 0, 1) := by decide +kernel
theorem dX5_answer_17 : decode cX5_answer 17 = .ok (.getfield 66, 3) := by decide +kernel
theorem dX5_answer_20 : decode cX5_answer 20 = .ok (.iload_n 1, 1) := by decide +kernel
theorem dX5_answer_21 : decode cX5_answer 21 = .ok (.iaload, 1) := by decide +kernel
theorem dX5_answer_22 : decode cX5_answer 22 = .ok (.iconst (-1), 1) := by decide +kernel
theorem dX5_answer_23 : decode cX5_answer 23 = .ok (.if_icmp .ne 7, 3) := by decide +kernel
theorem dX5_answer_26 : decode cX5_answer 26 = .ok (.iconst 2, 1) := by decide +kernel
theorem dX5_answer_27 : decode cX5_answer 27 = .ok (.goto 4, 3) := by decide +kernel
theorem dX5_answer_30 : decode cX5_answer 30 = .ok (.iconst 0, 1) := by decide +kernel
theorem dX5_answer_31 : decode cX5_answer 31 = .ok (.invokevirtual 83, 3) := by decide +kernel
theorem dX5_answer_34 : decode cX5_answer 34 = .ok (.ifCond .ne 5, 3) := by decide +kernel
theorem dX5_answer_37 : decode cX5_answer 37 = .ok (.iconst 0, 1) := by decide +kernel
theorem dX5_answer_38 : decode cX5_answer 38 = .ok (.ireturn, 1) := by decide +kernel
theorem dX5_answer_39 : decode cX5_answer 39 = .ok (.aload_n 0, 1) := by decide +kernel
theorem dX5_answer_40 : decode cX5_answer 40 = .ok (.getfield 63, 3) := by decide +kernel
theorem dX5_answer_43 : decode cX5_answer 43 = .ok (.iload_n 1, 1) := by decide +kernel
theorem dX5_answer_44 : decode cX5_answer 44 = .ok (.iload_n 2, 1) := by decide +kernel
theorem dX5_answer_45 : decode cX5_answer 45 = .ok (.ifCond .eq 12, 3) := by decide +kernel
theorem dX5_answer_48 : decode cX5_answer 48 = .ok (.aload_n 0, 1) := by decide +kernel
theorem dX5_answer_49 : decode cX5_answer 49 = .ok (.getfield 66, 3) := by decide +kernel
theorem dX5_answer_52 : decode cX5_answer 52 = .ok (.iload_n 1, 1) := by decide +kernel
theorem dX5_answer_53 : decode cX5_answer 53 = .ok (.iaload, 1) := by decide +kernel
theorem dX5_answer_54 : decode cX5_answer 54 = .ok (.goto 9, 3) := by decide +kernel
theorem dX5_answer_57 : decode cX5_answer 57 = .ok (.aload_n 0, 1) := by decide +kernel
theorem dX5_answer_58 : decode cX5_answer 58 = .ok (.getfield 63, 3) := by decide +kernel
theorem dX5_answer_61 : decode cX5_answer 61 = .ok (.iload_n 1, 1) := by decide +kernel
theorem dX5_answer_62 : decode cX5_answer 62 = .ok (.iaload, 1) := by decide +kernel
theorem dX5_answer_63 : decode cX5_answer 63 = .ok (.iastore, 1) := by decide +kernel
theorem dX5_answer_64 : decode cX5_answer 64 = .ok (.aload_n 0, 1) := by decide +kernel
theorem dX5_answer_65 : decode cX5_answer 65 = .ok (.getfield 66, 3) := by decide +kernel
theorem dX5_answer_68 : decode cX5_answer 68 = .ok (.iload_n 1, 1) := by decide +kernel
theorem dX5_answer_69 : decode cX5_answer 69 = .ok (.iconst (-1), 1) := by decide +kernel
theorem dX5_answer_70 : decode cX5_answer 70 = .ok (.iastore, 1) := by decide +kernel
theorem dX5_answer_71 : decode cX5_answer 71 = .ok (.aload_n 0, 1) := by decide +kernel
theorem dX5_answer_72 : decode cX5_answer 72 = .ok (.getfield 63, 3) := by decide +kernel
theorem dX5_answer_75 : decode cX5_answer 75 = .ok (.iload_n 1, 1) := by decide +kernel
theorem dX5_answer_76 : decode cX5_answer 76 = .ok (.iaload, 1) := by decide +kernel
theorem dX5_answer_77 : decode cX5_answer 77 = .ok (.ireturn, 1) := by decide +kernel
set_option maxRecDepth 20000 in
theorem ggX5_scene_X5_in : GoodIn wsX5_scene wsX5_in := goodIn_r _ [6] (by decide +kernel) (by decide +kernel)
set_option maxRecDepth 20000 in
theorem gX5_scene_X5_in : GoodIn wsX5_scene (va_wsS RX5 72 yX5_in wsX5_in) := goodIn_app (goodIn_of _ (by decide +kernel)) ggX5_scene_X5_in
set_option maxRecDepth 20000 in
theorem ggX5_scene_X5_goesWell : GoodIn wsX5_scene wsX5_goesWell := goodIn_r _ [10, 11, 12, 13, 14, 15, 16, 17, 18, 19, 20, 21, 22, 23, 24, 25, 26, 27, 28, 29, 30, 31, 32, 33, 34, 35, 36, 37, 38, 39, 40, 41] (by decide +kernel) (by decide +kernel)
set_option maxRecDepth 20000 in
theorem gX5_scene_X5_goesWell : GoodIn wsX5_scene (wsV RX5 83 RX5 yX5_goesWell wsX5_goesWell) := goodIn_app (goodIn_of _ (by decide +kernel)) ggX5_scene_X5_goesWell
theorem dX5_scene_0 : decode cX5_scene 0 = .ok (.aload_n 0, 1) := by decide +kernel
theorem dX5_scene_1 : decode cX5_scene 1 = .ok (.iload_n 1, 1) := by decide +kernel
theorem dX5_scene_2 : decode cX5_scene 2 = .ok (.iconst 0, 1) := by decide +kernel
theorem dX5_scene_3 : decode cX5_scene 3 = .ok (.iconst 3, 1) := by decide +kernel
theorem dX5_scene_4 : decode cX5_scene 4 = .ok (.invokestatic 72, 3) := by decide +kernel
theorem dX5_scene_7 : decode cX5_scene 7 = .ok (.ifCond .eq 7, 3) := by decide +kernel
theorem dX5_scene_10 : decode cX5_scene 10 = .ok (.iconst 0, 1) := by decide +kernel
theorem dX5_scene_11 : decode cX5_scene 11 = .ok (.goto 4, 3) := by decide +kernel
theorem dX5_scene_14 : decode cX5_scene 14 = .ok (.iconst 1, 1) := by decide +kernel
theorem dX5_scene_15 : decode cX5_scene 15 = .ok (.invokevirtual 83, 3) := by decide +kernel
theorem dX5_scene_18 : decode cX5_scene 18 = .ok (.ifCond .eq 25, 3) := by decide +kernel
theorem dX5_scene_21 : decode cX5_scene 21 = .ok (.iload_n 2, 1) := by decide +kernel
theorem dX5_scene_22 : decode cX5_scene 22 = .ok (.ifCond .eq 12, 3) := by decide +kernel
theorem dX5_scene_25 : decode cX5_scene 25 = .ok (.aload_n 0, 1) := by decide +kernel
theorem dX5_scene_26 : decode cX5_scene 26 = .ok (.getfield 66, 3) := by decide +kernel
theorem dX5_scene_29 : decode cX5_scene 29 = .ok (.iload_n 1, 1) := by decide +kernel
theorem dX5_scene_30 : decode cX5_scene 30 = .ok (.iaload, 1) := by decide +kernel
theorem dX5_scene_31 : decode cX5_scene 31 = .ok (.goto 13, 3) := by decide +kernel
theorem dX5_scene_34 : decode cX5_scene 34 = .ok (.aload_n 0, 1) := by decide +kernel
theorem dX5_scene_35 : decode cX5_scene 35 = .ok (.getfield 63, 3) := by decide +kernel
theorem dX5_scene_38 : decode cX5_scene 38 = .ok (.iload_n 1, 1) := by decide +kernel
theorem dX5_scene_39 : decode cX5_scene 39 = .ok (.iaload, 1) := by decide +kernel
theorem dX5_scene_40 : decode cX5_scene 40 = .ok (.goto 4, 3) := by decide +kernel
theorem dX5_scene_43 : decode cX5_scene 43 = .ok (.iconst 0, 1) := by decide +kernel
theorem dX5_scene_44 : decode cX5_scene 44 = .ok (.ireturn, 1) := by decide +kernel
theorem dX5_on_0 : decode cX5_on 0 = .ok (.iconst 0, 1) := by decide +kernel
theorem dX5_on_1 : decode cX5_on 1 = .ok (.istore_n 1, 1) := by decide +kernel
theorem dX5_on_2 : decode cX5_on 2 = .ok (.iconst 0, 1) := by decide +kernel
theorem dX5_on_3 : decode cX5_on 3 = .ok (.istore_n 2, 1) := by decide +kernel
theorem dX5_on_4 : decode cX5_on 4 = .ok (.iload_n 2, 1) := by decide +kernel
theorem dX5_on_5 : decode cX5_on 5 = .ok (.aload_n 0, 1) := by decide +kernel
theorem dX5_on_6 : decode cX5_on 6 = .ok (.getfield 80, 3) := by decide +kernel
theorem dX5_on_9 : decode cX5_on 9 = .ok (.if_icmp .ge 26, 3) := by decide +kernel
theorem dX5_on_12 : decode cX5_on 12 = .ok (.iload_n 1, 1) := by decide +kernel
theorem dX5_on_13 : decode cX5_on 13 = .ok (.aload_n 0, 1) := by decide +kernel
theorem dX5_on_14 : decode cX5_on 14 = .ok (.getfield 51, 3) := by decide +kernel
theorem dX5_on_17 : decode cX5_on 17 = .ok (.iload_n 2, 1) := by decide +kernel
theorem dX5_on_18 : decode cX5_on 18 = .ok (.baload, 1) := by decide +kernel
theorem dX5_on_19 : decode cX5_on 19 = .ok (.ifCond .eq 7, 3) := by decide +kernel
theorem dX5_on_22 : decode cX5_on 22 = .ok (.iconst 1, 1) := by decide +kernel
theorem dX5_on_23 : decode cX5_on 23 = .ok (.goto 4, 3) := by decide +kernel
theorem dX5_on_26 : decode cX5_on 26 = .ok (.iconst 0, 1) := by decide +kernel
theorem dX5_on_27 : decode cX5_on 27 = .ok (.iadd, 1) := by decide +kernel
theorem dX5_on_28 : decode cX5_on 28 = .ok (.istore_n 1, 1) := by decide +kernel
theorem dX5_on_29 : decode cX5_on 29 = .ok (.iinc 2 1, 3) := by decide +kernel
theorem dX5_on_32 : decode cX5_on 32 = .ok (.goto (-28), 3) := by decide +kernel
theorem dX5_on_35 : decode cX5_on 35 = .ok (.iload_n 1, 1) := by decide +kernel
theorem dX5_on_36 : decode cX5_on 36 = .ok (.ireturn, 1) := by decide +kernel
set_option maxRecDepth 20000 in
theorem ggX5_show_X5_in : GoodIn wsX5_show wsX5_in := goodIn_r _ [9] (by decide +kernel) (by decide +kernel)
set_option maxRecDepth 20000 in
theorem gX5_show_X5_in : GoodIn wsX5_show (va_wsS RX5 72 yX5_in wsX5_in) := goodIn_app (goodIn_of _ (by decide +kernel)) ggX5_show_X5_in
set_option maxRecDepth 20000 in
theorem ggX5_show_X5_goesWell : GoodIn wsX5_show wsX5_goesWell := goodIn_r _ [13, 14, 21, 22, 23, 24, 25, 26, 27, 28, 29, 30, 31, 32, 33, 34, 35, 36, 37, 38, 39, 40, 41, 42, 43, 44, 45, 46, 47, 48, 49, 50] (by decide +kernel) (by decide +kernel)
set_option maxRecDepth 20000 in
theorem gX5_show_X5_goesWell : GoodIn wsX5_show (wsV RX5 83 RX5 yX5_goesWell wsX5_goesWell) := goodIn_app (goodIn_of _ (by decide +kernel)) ggX5_show_X5_goesWell
set_option maxRecDepth 20000 in
theorem ggX5_show_X5_on : GoodIn wsX5_show wsX5_on := goodIn_r _ [18, 19, 20, 21, 22, 23, 24, 25, 26, 27, 28, 29, 30, 31, 32, 33, 34, 35, 36, 37, 38, 39, 40, 41, 42, 43, 44, 45, 46, 47, 48, 49, 50] (by decide +kernel) (by decide +kernel)
set_option maxRecDepth 20000 in
theorem gX5_show_X5_on : GoodIn wsX5_show (wsV RX5 178 RX5 yX5_on wsX5_on) := goodIn_app (goodIn_of _ (by decide +kernel)) ggX5_show_X5_on
theorem dX5_show_0 : decode cX5_show 0 = .ok (.aload_n 0, 1) := by decide +kernel
theorem dX5_show_1 : decode cX5_show 1 = .ok (.iload_n 1, 1) := by decide +kernel
theorem dX5_show_2 : decode cX5_show 2 = .ok (.iconst 0, 1) := by decide +kernel
theorem dX5_show_3 : decode cX5_show 3 = .ok (.iconst 5, 1) := by decide +kernel
theorem dX5_show_4 : decode cX5_show 4 = .ok (.invokestatic 72, 3) := by decide +kernel
theorem dX5_show_7 : decode cX5_show 7 = .ok (.ifCond .eq 7, 3) := by decide +kernel
theorem dX5_show_10 : decode cX5_show 10 = .ok (.iconst 0, 1) := by decide +kernel
theorem dX5_show_11 : decode cX5_show 11 = .ok (.goto 4, 3) := by decide +kernel
theorem dX5_show_14 : decode cX5_show 14 = .ok (.iconst 1, 1) := by decide +kernel
theorem dX5_show_15 : decode cX5_show 15 = .ok (.invokevirtual 83, 3) := by decide +kernel
theorem dX5_show_18 : decode cX5_show 18 = .ok (.ifCond .ne 5, 3) := by decide +kernel
theorem dX5_show_21 : decode cX5_show 21 = .ok (.lconst 0, 1) := by decide +kernel
theorem dX5_show_22 : decode cX5_show 22 = .ok (.lreturn, 1) := by decide +kernel
theorem dX5_show_23 : decode cX5_show 23 = .ok (.iload_n 1, 1) := by decide +kernel
theorem dX5_show_24 : decode cX5_show 24 = .ok (.ifCond .ne 11, 3) := by decide +kernel
theorem dX5_show_27 : decode cX5_show 27 = .ok (.aload_n 0, 1) := by decide +kernel
theorem dX5_show_28 : decode cX5_show 28 = .ok (.getfield 162, 3) := by decide +kernel
theorem dX5_show_31 : decode cX5_show 31 = .ok (.i2l, 1) := by decide +kernel
theorem dX5_show_32 : decode cX5_show 32 = .ok (.goto 58, 3) := by decide +kernel
theorem dX5_show_35 : decode cX5_show 35 = .ok (.iload_n 1, 1) := by decide +kernel
theorem dX5_show_36 : decode cX5_show 36 = .ok (.iconst 1, 1) := by decide +kernel
theorem dX5_show_37 : decode cX5_show 37 = .ok (.if_icmp .ne 11, 3) := by decide +kernel
theorem dX5_show_40 : decode cX5_show 40 = .ok (.aload_n 0, 1) := by decide +kernel
theorem dX5_show_41 : decode cX5_show 41 = .ok (.getfield 165, 3) := by decide +kernel
theorem dX5_show_44 : decode cX5_show 44 = .ok (.i2l, 1) := by decide +kernel
theorem dX5_show_45 : decode cX5_show 45 = .ok (.goto 45, 3) := by decide +kernel
theorem dX5_show_48 : decode cX5_show 48 = .ok (.iload_n 1, 1) := by decide +kernel
theorem dX5_show_49 : decode cX5_show 49 = .ok (.iconst 2, 1) := by decide +kernel
theorem dX5_show_50 : decode cX5_show 50 = .ok (.if_icmp .ne 10, 3) := by decide +kernel
theorem dX5_show_53 : decode cX5_show 53 = .ok (.aload_n 0, 1) := by decide +kernel
theorem dX5_show_54 : decode cX5_show 54 = .ok (.getfield 168, 3) := by decide +kernel
theorem dX5_show_57 : decode cX5_show 57 = .ok (.goto 33, 3) := by decide +kernel
theorem dX5_show_60 : decode cX5_show 60 = .ok (.iload_n 1, 1) := by decide +kernel
theorem dX5_show_61 : decode cX5_show 61 = .ok (.iconst 3, 1) := by decide +kernel
theorem dX5_show_62 : decode cX5_show 62 = .ok (.if_icmp .ne 10, 3) := by decide +kernel
theorem dX5_show_65 : decode cX5_show 65 = .ok (.aload_n 0, 1) := by decide +kernel
theorem dX5_show_66 : decode cX5_show 66 = .ok (.getfield 172, 3) := by decide +kernel
theorem dX5_show_69 : decode cX5_show 69 = .ok (.goto 21, 3) := by decide +kernel
theorem dX5_show_72 : decode cX5_show 72 = .ok (.iload_n 1, 1) := by decide +kernel
theorem dX5_show_73 : decode cX5_show 73 = .ok (.iconst 4, 1) := by decide +kernel
theorem dX5_show_74 : decode cX5_show 74 = .ok (.if_icmp .ne 11, 3) := by decide +kernel
theorem dX5_show_77 : decode cX5_show 77 = .ok (.aload_n 0, 1) := by decide +kernel
theorem dX5_show_78 : decode cX5_show 78 = .ok (.getfield 175, 3) := by decide +kernel
theorem dX5_show_81 : decode cX5_show 81 = .ok (.i2l, 1) := by decide +kernel
theorem dX5_show_82 : decode cX5_show 82 = .ok (.goto 8, 3) := by decide +kernel
theorem dX5_show_85 : decode cX5_show 85 = .ok (.aload_n 0, 1) := by decide +kernel
theorem dX5_show_86 : decode cX5_show 86 = .ok (.invokevirtual 178, 3) := by decide +kernel
theorem dX5_show_89 : decode cX5_show 89 = .ok (.i2l, 1) := by decide +kernel
theorem dX5_show_90 : decode cX5_show 90 = .ok (.lreturn, 1) := by decide +kernel
set_option maxRecDepth 20000 in
theorem ggX5_passOne_X5_on : GoodIn wsX5_passOne wsX5_on := goodIn_r _ [16, 5, 7, 22, 23, 24, 25, 26, 27, 28, 29, 30, 31, 32, 33, 34, 35, 36, 37, 38, 39, 40, 41, 42, 43, 44, 45, 46, 47, 48, 49, 50, 51] (by decide +kernel) (by decide +kernel)
set_option maxRecDepth 20000 in
theorem gX5_passOne_X5_on : GoodIn wsX5_passOne (wsV RX5 178 RX5 yX5_on wsX5_on) := goodIn_app (goodIn_of _ (by decide +kernel)) ggX5_passOne_X5_on
set_option maxRecDepth 20000 in
theorem ggX5_passOne_X5_shines : GoodIn wsX5_passOne wsX5_shines := goodIn_r _ [20, 7, 21, 22, 23, 24, 25, 26, 27, 28, 29, 30, 31, 32, 33, 34, 35, 36, 37, 38, 39, 40, 41, 42, 43, 44, 45, 46, 47, 48, 49, 50, 51] (by decide +kernel) (by decide +kernel)
set_option maxRecDepth 20000 in
theorem gX5_passOne_X5_shines : GoodIn wsX5_passOne (wsV RX5 125 RX5 yX5_shines wsX5_shines) := goodIn_app (goodIn_of _ (by decide +kernel)) ggX5_passOne_X5_shines
theorem dX5_passOne_0 : decode cX5_passOne 0 = .ok (.aload_n 0, 1) := by decide +kernel
theorem dX5_passOne_1 : decode cX5_passOne 1 = .ok (.getfield 175, 3) := by decide +kernel
theorem dX5_passOne_4 : decode cX5_passOne 4 = .ok (.sipush 1440, 3) := by decide +kernel
theorem dX5_passOne_7 : decode cX5_passOne 7 = .ok (.irem, 1) := by decide +kernel
theorem dX5_passOne_8 : decode cX5_passOne 8 = .ok (.aload_n 0, 1) := by decide +kernel
theorem dX5_passOne_9 : decode cX5_passOne 9 = .ok (.getfield 156, 3) := by decide +kernel
theorem dX5_passOne_12 : decode cX5_passOne 12 = .ok (.if_icmp .lt 22, 3) := by decide +kernel
theorem dX5_passOne_15 : decode cX5_passOne 15 = .ok (.aload_n 0, 1) := by decide +kernel
theorem dX5_passOne_16 : decode cX5_passOne 16 = .ok (.getfield 175, 3) := by decide +kernel
theorem dX5_passOne_19 : decode cX5_passOne 19 = .ok (.sipush 1440, 3) := by decide +kernel
theorem dX5_passOne_22 : decode cX5_passOne 22 = .ok (.irem, 1) := by decide +kernel
theorem dX5_passOne_23 : decode cX5_passOne 23 = .ok (.aload_n 0, 1) := by decide +kernel
theorem dX5_passOne_24 : decode cX5_passOne 24 = .ok (.getfield 159, 3) := by decide +kernel
theorem dX5_passOne_27 : decode cX5_passOne 27 = .ok (.if_icmp .ge 7, 3) := by decide +kernel
theorem dX5_passOne_30 : decode cX5_passOne 30 = .ok (.iconst 1, 1) := by decide +kernel
theorem dX5_passOne_31 : decode cX5_passOne 31 = .ok (.goto 4, 3) := by decide +kernel
theorem dX5_passOne_34 : decode cX5_passOne 34 = .ok (.iconst 0, 1) := by decide +kernel
theorem dX5_passOne_35 : decode cX5_passOne 35 = .ok (.istore_n 2, 1) := by decide +kernel
theorem dX5_passOne_36 : decode cX5_passOne 36 = .ok (.aload_n 0, 1) := by decide +kernel
theorem dX5_passOne_37 : decode cX5_passOne 37 = .ok (.dup, 1) := by decide +kernel
theorem dX5_passOne_38 : decode cX5_passOne 38 = .ok (.getfield 168, 3) := by decide +kernel
theorem dX5_passOne_41 : decode cX5_passOne 41 = .ok (.iload_n 1, 1) := by decide +kernel
theorem dX5_passOne_42 : decode cX5_passOne 42 = .ok (.iload_n 2, 1) := by decide +kernel
theorem dX5_passOne_43 : decode cX5_passOne 43 = .ok (.ifCond .eq 10, 3) := by decide +kernel
theorem dX5_passOne_46 : decode cX5_passOne 46 = .ok (.aload_n 0, 1) := by decide +kernel
theorem dX5_passOne_47 : decode cX5_passOne 47 = .ok (.invokevirtual 178, 3) := by decide +kernel
theorem dX5_passOne_50 : decode cX5_passOne 50 = .ok (.goto 4, 3) := by decide +kernel
theorem dX5_passOne_53 : decode cX5_passOne 53 = .ok (.iconst 0, 1) := by decide +kernel
theorem dX5_passOne_54 : decode cX5_passOne 54 = .ok (.iadd, 1) := by decide +kernel
theorem dX5_passOne_55 : decode cX5_passOne 55 = .ok (.i2l, 1) := by decide +kernel
theorem dX5_passOne_56 : decode cX5_passOne 56 = .ok (.ladd, 1) := by decide +kernel
theorem dX5_passOne_57 : decode cX5_passOne 57 = .ok (.putfield 168, 3) := by decide +kernel
theorem dX5_passOne_60 : decode cX5_passOne 60 = .ok (.iconst 0, 1) := by decide +kernel
theorem dX5_passOne_61 : decode cX5_passOne 61 = .ok (.istore_n 3, 1) := by decide +kernel
theorem dX5_passOne_62 : decode cX5_passOne 62 = .ok (.iconst 0, 1) := by decide +kernel
theorem dX5_passOne_63 : decode cX5_passOne 63 = .ok (.istore 4, 2) := by decide +kernel
theorem dX5_passOne_65 : decode cX5_passOne 65 = .ok (.iconst 0, 1) := by decide +kernel
theorem dX5_passOne_66 : decode cX5_passOne 66 = .ok (.istore 5, 2) := by decide +kernel
theorem dX5_passOne_68 : decode cX5_passOne 68 = .ok (.iload 5, 2) := by decide +kernel
theorem dX5_passOne_70 : decode cX5_passOne 70 = .ok (.aload_n 0, 1) := by decide +kernel
theorem dX5_passOne_71 : decode cX5_passOne 71 = .ok (.getfield 80, 3) := by decide +kernel
theorem dX5_passOne_74 : decode cX5_passOne 74 = .ok (.if_icmp .ge 96, 3) := by decide +kernel
theorem dX5_passOne_77 : decode cX5_passOne 77 = .ok (.aload_n 0, 1) := by decide +kernel
theorem dX5_passOne_78 : decode cX5_passOne 78 = .ok (.dup, 1) := by decide +kernel
theorem dX5_passOne_79 : decode cX5_passOne 79 = .ok (.getfield 172, 3) := by decide +kernel
theorem dX5_passOne_82 : decode cX5_passOne 82 = .ok (.aload_n 0, 1) := by decide +kernel
theorem dX5_passOne_83 : decode cX5_passOne 83 = .ok (.getfield 51, 3) := by decide +kernel
theorem dX5_passOne_86 : decode cX5_passOne 86 = .ok (.iload 5, 2) := by decide +kernel
theorem dX5_passOne_88 : decode cX5_passOne 88 = .ok (.baload, 1) := by decide +kernel
theorem dX5_passOne_89 : decode cX5_passOne 89 = .ok (.ifCond .eq 14, 3) := by decide +kernel
theorem dX5_passOne_92 : decode cX5_passOne 92 = .ok (.aload_n 0, 1) := by decide +kernel
theorem dX5_passOne_93 : decode cX5_passOne 93 = .ok (.getfield 36, 3) := by decide +kernel
theorem dX5_passOne_96 : decode cX5_passOne 96 = .ok (.iload 5, 2) := by decide +kernel
theorem dX5_passOne_98 : decode cX5_passOne 98 = .ok (.iaload, 1) := by decide +kernel
theorem dX5_passOne_99 : decode cX5_passOne 99 = .ok (.i2l, 1) := by decide +kernel
theorem dX5_passOne_100 : decode cX5_passOne 100 = .ok (.goto 4, 3) := by decide +kernel
theorem dX5_passOne_103 : decode cX5_passOne 103 = .ok (.lconst 0, 1) := by decide +kernel
theorem dX5_passOne_104 : decode cX5_passOne 104 = .ok (.ladd, 1) := by decide +kernel
theorem dX5_passOne_105 : decode cX5_passOne 105 = .ok (.putfield 172, 3) := by decide +kernel
theorem dX5_passOne_108 : decode cX5_passOne 108 = .ok (.iload_n 3, 1) := by decide +kernel
theorem dX5_passOne_109 : decode cX5_passOne 109 = .ok (.ifCond .ne 12, 3) := by decide +kernel
theorem dX5_passOne_112 : decode cX5_passOne 112 = .ok (.aload_n 0, 1) := by decide +kernel
theorem dX5_passOne_113 : decode cX5_passOne 113 = .ok (.iload 5, 2) := by decide +kernel
theorem dX5_passOne_115 : decode cX5_passOne 115 = .ok (.invokevirtual 125, 3) := by decide +kernel
theorem dX5_passOne_118 : decode cX5_passOne 118 = .ok (.ifCond .eq 7, 3) := by decide +kernel
theorem dX5_passOne_121 : decode cX5_passOne 121 = .ok (.iconst 1, 1) := by decide +kernel
theorem dX5_passOne_122 : decode cX5_passOne 122 = .ok (.goto 4, 3) := by decide +kernel
theorem dX5_passOne_125 : decode cX5_passOne 125 = .ok (.iconst 0, 1) := by decide +kernel
theorem dX5_passOne_126 : decode cX5_passOne 126 = .ok (.istore_n 3, 1) := by decide +kernel
theorem dX5_passOne_127 : decode cX5_passOne 127 = .ok (.iload 4, 2) := by decide +kernel
theorem dX5_passOne_129 : decode cX5_passOne 129 = .ok (.ifCond .ne 28, 3) := by decide +kernel
theorem dX5_passOne_132 : decode cX5_passOne 132 = .ok (.aload_n 0, 1) := by decide +kernel
theorem dX5_passOne_133 : decode cX5_passOne 133 = .ok (.iload 5, 2) := by decide +kernel
theorem dX5_passOne_135 : decode cX5_passOne 135 = .ok (.invokevirtual 125, 3) := by decide +kernel
theorem dX5_passOne_138 : decode cX5_passOne 138 = .ok (.ifCond .eq 23, 3) := by decide +kernel
theorem dX5_passOne_141 : decode cX5_passOne 141 = .ok (.aload_n 0, 1) := by decide +kernel
theorem dX5_passOne_142 : decode cX5_passOne 142 = .ok (.getfield 57, 3) := by decide +kernel
theorem dX5_passOne_145 : decode cX5_passOne 145 = .ok (.iload 5, 2) := by decide +kernel
theorem dX5_passOne_147 : decode cX5_passOne 147 = .ok (.iaload, 1) := by decide +kernel
theorem dX5_passOne_148 : decode cX5_passOne 148 = .ok (.aload_n 0, 1) := by decide +kernel
theorem dX5_passOne_149 : decode cX5_passOne 149 = .ok (.getfield 162, 3) := by decide +kernel
theorem dX5_passOne_152 : decode cX5_passOne 152 = .ok (.iconst 1, 1) := by decide +kernel
theorem dX5_passOne_153 : decode cX5_passOne 153 = .ok (.iadd, 1) := by decide +kernel
theorem dX5_passOne_154 : decode cX5_passOne 154 = .ok (.if_icmp .ge 7, 3) := by decide +kernel
theorem dX5_passOne_157 : decode cX5_passOne 157 = .ok (.iconst 1, 1) := by decide +kernel
theorem dX5_passOne_158 : decode cX5_passOne 158 = .ok (.goto 4, 3) := by decide +kernel
theorem dX5_passOne_161 : decode cX5_passOne 161 = .ok (.iconst 0, 1) := by decide +kernel
theorem dX5_passOne_162 : decode cX5_passOne 162 = .ok (.istore 4, 2) := by decide +kernel
theorem dX5_passOne_164 : decode cX5_passOne 164 = .ok (.iinc 5 1, 3) := by decide +kernel
theorem dX5_passOne_167 : decode cX5_passOne 167 = .ok (.goto (-99), 3) := by decide +kernel
theorem dX5_passOne_170 : decode cX5_passOne 170 = .ok (.aload_n 0, 1) := by decide +kernel
theorem dX5_passOne_171 : decode cX5_passOne 171 = .ok (.dup, 1) := by decide +kernel
theorem dX5_passOne_172 : decode cX5_passOne 172 = .ok (.getfield 162, 3) := by decide +kernel
theorem dX5_passOne_175 : decode cX5_passOne 175 = .ok (.iload_n 3, 1) := by decide +kernel
theorem dX5_passOne_176 : decode cX5_passOne 176 = .ok (.ifCond .eq 12, 3) := by decide +kernel
theorem dX5_passOne_179 : decode cX5_passOne 179 = .ok (.iload 4, 2) := by decide +kernel
theorem dX5_passOne_181 : decode cX5_passOne 181 = .ok (.ifCond .ne 7, 3) := by decide +kernel
theorem dX5_passOne_184 : decode cX5_passOne 184 = .ok (.iconst 1, 1) := by decide +kernel
theorem dX5_passOne_185 : decode cX5_passOne 185 = .ok (.goto 4, 3) := by decide +kernel
theorem dX5_passOne_188 : decode cX5_passOne 188 = .ok (.iconst 0, 1) := by decide +kernel
theorem dX5_passOne_189 : decode cX5_passOne 189 = .ok (.iadd, 1) := by decide +kernel
theorem dX5_passOne_190 : decode cX5_passOne 190 = .ok (.putfield 162, 3) := by decide +kernel
theorem dX5_passOne_193 : decode cX5_passOne 193 = .ok (.aload_n 0, 1) := by decide +kernel
theorem dX5_passOne_194 : decode cX5_passOne 194 = .ok (.dup, 1) := by decide +kernel
theorem dX5_passOne_195 : decode cX5_passOne 195 = .ok (.getfield 165, 3) := by decide +kernel
theorem dX5_passOne_198 : decode cX5_passOne 198 = .ok (.iload_n 3, 1) := by decide +kernel
theorem dX5_passOne_199 : decode cX5_passOne 199 = .ok (.ifCond .eq 12, 3) := by decide +kernel
theorem dX5_passOne_202 : decode cX5_passOne 202 = .ok (.iload 4, 2) := by decide +kernel
theorem dX5_passOne_204 : decode cX5_passOne 204 = .ok (.ifCond .ne 7, 3) := by decide +kernel
theorem dX5_passOne_207 : decode cX5_passOne 207 = .ok (.iconst 0, 1) := by decide +kernel
theorem dX5_passOne_208 : decode cX5_passOne 208 = .ok (.goto 4, 3) := by decide +kernel
theorem dX5_passOne_211 : decode cX5_passOne 211 = .ok (.iconst 1, 1) := by decide +kernel
theorem dX5_passOne_212 : decode cX5_passOne 212 = .ok (.iadd, 1) := by decide +kernel
theorem dX5_passOne_213 : decode cX5_passOne 213 = .ok (.putfield 165, 3) := by decide +kernel
theorem dX5_passOne_216 : decode cX5_passOne 216 = .ok (.aload_n 0, 1) := by decide +kernel
theorem dX5_passOne_217 : decode cX5_passOne 217 = .ok (.dup, 1) := by decide +kernel
theorem dX5_passOne_218 : decode cX5_passOne 218 = .ok (.getfield 175, 3) := by decide +kernel
theorem dX5_passOne_221 : decode cX5_passOne 221 = .ok (.iconst 1, 1) := by decide +kernel
theorem dX5_passOne_222 : decode cX5_passOne 222 = .ok (.iadd, 1) := by decide +kernel
theorem dX5_passOne_223 : decode cX5_passOne 223 = .ok (.putfield 175, 3) := by decide +kernel
theorem dX5_passOne_226 : decode cX5_passOne 226 = .ok (.return_, 1) := by decide +kernel
set_option maxRecDepth 20000 in
theorem ggX5_pass_X5_in : GoodIn wsX5_pass wsX5_in := goodIn_r _ [6] (by decide +kernel) (by decide +kernel)
set_option maxRecDepth 20000 in
theorem gX5_pass_X5_in : GoodIn wsX5_pass (va_wsS RX5 72 yX5_in wsX5_in) := goodIn_app (goodIn_of _ (by decide +kernel)) ggX5_pass_X5_in
set_option maxRecDepth 20000 in
theorem ggX5_pass_X5_goesWell : GoodIn wsX5_pass wsX5_goesWell := goodIn_r _ [10, 11, 66, 67, 68, 69, 70, 71, 72, 73, 74, 75, 76, 77, 78, 79, 80, 81, 82, 83, 84, 85, 86, 87, 88, 89, 90, 91, 92, 93, 94, 95] (by decide +kernel) (by decide +kernel)
set_option maxRecDepth 20000 in
theorem gX5_pass_X5_goesWell : GoodIn wsX5_pass (wsV RX5 83 RX5 yX5_goesWell wsX5_goesWell) := goodIn_app (goodIn_of _ (by decide +kernel)) ggX5_pass_X5_goesWell
set_option maxRecDepth 20000 in
theorem ggX5_pass_X5_breachesNow : GoodIn wsX5_pass wsX5_breachesNow := goodIn_r _ [15, 16, 17, 18, 19, 5, 20, 21, 22, 23, 24, 25, 26, 27, 28, 29, 3, 4, 6, 30, 31, 32, 33, 34, 35, 36, 37, 38, 39, 40, 41, 42, 43, 44, 45, 46, 47, 48, 49, 66, 67, 68, 69, 70, 71, 72, 73, 74, 75, 76, 77, 78, 79, 80, 81, 82, 83, 84, 85, 86, 87, 88, 89, 90, 91, 92, 93, 94, 95] (by decide +kernel) (by decide +kernel)
set_option maxRecDepth 20000 in
theorem gX5_pass_X5_breachesNow : GoodIn wsX5_pass (wsV RX5 153 RX5 yX5_breachesNow wsX5_breachesNow) := goodIn_app (goodIn_of _ (by decide +kernel)) ggX5_pass_X5_breachesNow
set_option maxRecDepth 20000 in
theorem ggX5_pass_X5_passOne : GoodIn wsX5_pass wsX5_passOne := goodIn_r _ [53, 1, 54, 55, 56, 16, 57, 21, 58, 59, 60, 61, 62, 63, 64, 5, 65, 17, 18, 19, 20, 22, 66, 67, 68, 69, 70, 71, 72, 73, 74, 75, 76, 77, 78, 79, 80, 81, 82, 83, 84, 85, 86, 87, 88, 89, 90, 91, 92, 93, 94, 95] (by decide +kernel) (by decide +kernel)
set_option maxRecDepth 20000 in
theorem gX5_pass_X5_passOne : GoodIn wsX5_pass (wsV RX5 181 RX5 yX5_passOne wsX5_passOne) := goodIn_app (goodIn_of _ (by decide +kernel)) ggX5_pass_X5_passOne
theorem dX5_pass_0 : decode cX5_pass 0 = .ok (.iload_n 1, 1) := by decide +kernel
theorem dX5_pass_1 : decode cX5_pass 1 = .ok (.iconst 1, 1) := by decide +kernel
theorem dX5_pass_2 : decode cX5_pass 2 = .ok (.sipush 1440, 3) := by decide +kernel
theorem dX5_pass_5 : decode cX5_pass 5 = .ok (.invokestatic 72, 3) := by decide +kernel
theorem dX5_pass_8 : decode cX5_pass 8 = .ok (.istore_n 2, 1) := by decide +kernel
theorem dX5_pass_9 : decode cX5_pass 9 = .ok (.aload_n 0, 1) := by decide +kernel
theorem dX5_pass_10 : decode cX5_pass 10 = .ok (.iload_n 2, 1) := by decide +kernel
theorem dX5_pass_11 : decode cX5_pass 11 = .ok (.ifCond .ne 7, 3) := by decide +kernel
theorem dX5_pass_14 : decode cX5_pass 14 = .ok (.iconst 1, 1) := by decide +kernel
theorem dX5_pass_15 : decode cX5_pass 15 = .ok (.goto 19, 3) := by decide +kernel
theorem dX5_pass_18 : decode cX5_pass 18 = .ok (.aload_n 0, 1) := by decide +kernel
theorem dX5_pass_19 : decode cX5_pass 19 = .ok (.getfield 175, 3) := by decide +kernel
theorem dX5_pass_22 : decode cX5_pass 22 = .ok (.iload_n 1, 1) := by decide +kernel
theorem dX5_pass_23 : decode cX5_pass 23 = .ok (.iadd, 1) := by decide +kernel
theorem dX5_pass_24 : decode cX5_pass 24 = .ok (.ldc 105, 2) := by decide +kernel
theorem dX5_pass_26 : decode cX5_pass 26 = .ok (.if_icmp .le 7, 3) := by decide +kernel
theorem dX5_pass_29 : decode cX5_pass 29 = .ok (.iconst 2, 1) := by decide +kernel
theorem dX5_pass_30 : decode cX5_pass 30 = .ok (.goto 4, 3) := by decide +kernel
theorem dX5_pass_33 : decode cX5_pass 33 = .ok (.iconst 0, 1) := by decide +kernel
theorem dX5_pass_34 : decode cX5_pass 34 = .ok (.invokevirtual 83, 3) := by decide +kernel
theorem dX5_pass_37 : decode cX5_pass 37 = .ok (.ifCond .ne 5, 3) := by decide +kernel
theorem dX5_pass_40 : decode cX5_pass 40 = .ok (.iconst 0, 1) := by decide +kernel
theorem dX5_pass_41 : decode cX5_pass 41 = .ok (.ireturn, 1) := by decide +kernel
theorem dX5_pass_42 : decode cX5_pass 42 = .ok (.aload_n 0, 1) := by decide +kernel
theorem dX5_pass_43 : decode cX5_pass 43 = .ok (.invokevirtual 153, 3) := by decide +kernel
theorem dX5_pass_46 : decode cX5_pass 46 = .ok (.istore_n 3, 1) := by decide +kernel
theorem dX5_pass_47 : decode cX5_pass 47 = .ok (.iconst 0, 1) := by decide +kernel
theorem dX5_pass_48 : decode cX5_pass 48 = .ok (.istore 4, 2) := by decide +kernel
theorem dX5_pass_50 : decode cX5_pass 50 = .ok (.iload 4, 2) := by decide +kernel
theorem dX5_pass_52 : decode cX5_pass 52 = .ok (.iload_n 1, 1) := by decide +kernel
theorem dX5_pass_53 : decode cX5_pass 53 = .ok (.if_icmp .ge 14, 3) := by decide +kernel
theorem dX5_pass_56 : decode cX5_pass 56 = .ok (.aload_n 0, 1) := by decide +kernel
theorem dX5_pass_57 : decode cX5_pass 57 = .ok (.iload_n 3, 1) := by decide +kernel
theorem dX5_pass_58 : decode cX5_pass 58 = .ok (.invokevirtual 181, 3) := by decide +kernel
theorem dX5_pass_61 : decode cX5_pass 61 = .ok (.iinc 4 1, 3) := by decide +kernel
theorem dX5_pass_64 : decode cX5_pass 64 = .ok (.goto (-14), 3) := by decide +kernel
theorem dX5_pass_67 : decode cX5_pass 67 = .ok (.aload_n 0, 1) := by decide +kernel
theorem dX5_pass_68 : decode cX5_pass 68 = .ok (.getfield 175, 3) := by decide +kernel
theorem dX5_pass_71 : decode cX5_pass 71 = .ok (.ireturn, 1) := by decide +kernel
