theorem dX0_init_0 : decode cX0_init 0 = .ok (.aload_n 0, 1) := by decide +kernel
theorem dX0_init_1 : decode cX0_init 1 = .ok (.invokespecial 3, 3) := by decide +kernel
theorem dX0_init_4 : decode cX0_init 4 = .ok (.aload_n 0, 1) := by decide +kernel
theorem dX0_init_5 : decode cX0_init 5 = .ok (.iload_n 1, 1) := by decide +kernel
theorem dX0_init_6 : decode cX0_init 6 = .ok (.putfield 9, 3) := by decide +kernel
theorem dX0_init_9 : decode cX0_init 9 = .ok (.aload_n 0, 1) := by decide +kernel
theorem dX0_init_10 : decode cX0_init 10 = .ok (.iload_n 2, 1) := by decide +kernel
theorem dX0_init_11 : decode cX0_init 11 = .ok (.putfield 15, 3) := by decide +kernel
theorem dX0_init_14 : decode cX0_init 14 = .ok (.aload_n 0, 1) := by decide +kernel
theorem dX0_init_15 : decode cX0_init 15 = .ok (.iload_n 3, 1) := by decide +kernel
theorem dX0_init_16 : decode cX0_init 16 = .ok (.putfield 18, 3) := by decide +kernel
theorem dX0_init_19 : decode cX0_init 19 = .ok (.aload_n 0, 1) := by decide +kernel
theorem dX0_init_20 : decode cX0_init 20 = .ok (.iload 4, 2) := by decide +kernel
theorem dX0_init_22 : decode cX0_init 22 = .ok (.putfield 21, 3) := by decide +kernel
theorem dX0_init_25 : decode cX0_init 25 = .ok (.aload_n 0, 1) := by decide +kernel
theorem dX0_init_26 : decode cX0_init 26 = .ok (.iload 5, 2) := by decide +kernel
theorem dX0_init_28 : decode cX0_init 28 = .ok (.putfield 24, 3) := by decide +kernel
theorem dX0_init_31 : decode cX0_init 31 = .ok (.aload_n 0, 1) := by decide +kernel
theorem dX0_init_32 : decode cX0_init 32 = .ok (.iconst (-1), 1) := by decide +kernel
theorem dX0_init_33 : decode cX0_init 33 = .ok (.putfield 27, 3) := by decide +kernel
theorem dX0_init_36 : decode cX0_init 36 = .ok (.aload_n 0, 1) := by decide +kernel
theorem dX0_init_37 : decode cX0_init 37 = .ok (.iconst (-1), 1) := by decide +kernel
theorem dX0_init_38 : decode cX0_init 38 = .ok (.putfield 30, 3) := by decide +kernel
theorem dX0_init_41 : decode cX0_init 41 = .ok (.return_, 1) := by decide +kernel
theorem dX0_shines_0 : decode cX0_shines 0 = .ok (.aload_n 0, 1) := by decide +kernel
theorem dX0_shines_1 : decode cX0_shines 1 = .ok (.getfield 33, 3) := by decide +kernel
theorem dX0_shines_4 : decode cX0_shines 4 = .ok (.ifCond .eq 14, 3) := by decide +kernel
theorem dX0_shines_7 : decode cX0_shines 7 = .ok (.aload_n 0, 1) := by decide +kernel
theorem dX0_shines_8 : decode cX0_shines 8 = .ok (.getfield 37, 3) := by decide +kernel
theorem dX0_shines_11 : decode cX0_shines 11 = .ok (.ifCond .ne 7, 3) := by decide +kernel
theorem dX0_shines_14 : decode cX0_shines 14 = .ok (.iconst 1, 1) := by decide +kernel
theorem dX0_shines_15 : decode cX0_shines 15 = .ok (.goto 4, 3) := by decide +kernel
theorem dX0_shines_18 : decode cX0_shines 18 = .ok (.iconst 0, 1) := by decide +kernel
theorem dX0_shines_19 : decode cX0_shines 19 = .ok (.ireturn, 1) := by decide +kernel
theorem dX1_init_0 : decode cX1_init 0 = .ok (.aload_n 0, 1) := by decide +kernel
theorem dX1_init_1 : decode cX1_init 1 = .ok (.invokespecial 3, 3) := by decide +kernel
theorem dX1_init_4 : decode cX1_init 4 = .ok (.aload_n 0, 1) := by decide +kernel
theorem dX1_init_5 : decode cX1_init 5 = .ok (.iconst 0, 1) := by decide +kernel
theorem dX1_init_6 : decode cX1_init 6 = .ok (.putfield 9, 3) := by decide +kernel
theorem dX1_init_9 : decode cX1_init 9 = .ok (.aload_n 0, 1) := by decide +kernel
theorem dX1_init_10 : decode cX1_init 10 = .ok (.iconst (-1), 1) := by decide +kernel
theorem dX1_init_11 : decode cX1_init 11 = .ok (.putfield 15, 3) := by decide +kernel
theorem dX1_init_14 : decode cX1_init 14 = .ok (.return_, 1) := by decide +kernel
theorem dX2_init_0 : decode cX2_init 0 = .ok (.aload_n 0, 1) := by decide +kernel
theorem dX2_init_1 : decode cX2_init 1 = .ok (.invokespecial 3, 3) := by decide +kernel
theorem dX2_init_4 : decode cX2_init 4 = .ok (.aload_n 0, 1) := by decide +kernel
theorem dX2_init_5 : decode cX2_init 5 = .ok (.bipush 16, 2) := by decide +kernel
theorem dX2_init_7 : decode cX2_init 7 = .ok (.newarray .int, 2) := by decide +kernel
theorem dX2_init_9 : decode cX2_init 9 = .ok (.putfield 9, 3) := by decide +kernel
theorem dX2_init_12 : decode cX2_init 12 = .ok (.aload_n 0, 1) := by decide +kernel
theorem dX2_init_13 : decode cX2_init 13 = .ok (.bipush 16, 2) := by decide +kernel
theorem dX2_init_15 : decode cX2_init 15 = .ok (.newarray .int, 2) := by decide +kernel
theorem dX2_init_17 : decode cX2_init 17 = .ok (.putfield 15, 3) := by decide +kernel
theorem dX2_init_20 : decode cX2_init 20 = .ok (.aload_n 0, 1) := by decide +kernel
theorem dX2_init_21 : decode cX2_init 21 = .ok (.sipush 192, 3) := by decide +kernel
theorem dX2_init_24 : decode cX2_init 24 = .ok (.newarray .int, 2) := by decide +kernel
theorem dX2_init_26 : decode cX2_init 26 = .ok (.putfield 18, 3) := by decide +kernel
theorem dX2_init_29 : decode cX2_init 29 = .ok (.return_, 1) := by decide +kernel
set_option maxRecDepth 20000 in
theorem ggX2_build_X4_isColumn : GoodIn wsX2_build wsX4_isColumn := goodIn_r _ [5] (by decide +kernel) (by decide +kernel)
set_option maxRecDepth 20000 in
theorem gX2_build_X4_isColumn_n21 : GoodIn wsX2_build (wsX4_isColumn) := ggX2_build_X4_isColumn
theorem dX2_build_0 : decode cX2_build 0 = .ok (.iload_n 1, 1) := by decide +kernel
theorem dX2_build_1 : decode cX2_build 1 = .ok (.invokestatic 21, 3) := by decide +kernel
theorem dX2_build_4 : decode cX2_build 4 = .ok (.ifCond .eq 17, 3) := by decide +kernel
theorem dX2_build_7 : decode cX2_build 7 = .ok (.aload_n 0, 1) := by decide +kernel
theorem dX2_build_8 : decode cX2_build 8 = .ok (.getfield 9, 3) := by decide +kernel
theorem dX2_build_11 : decode cX2_build 11 = .ok (.iload_n 1, 1) := by decide +kernel
theorem dX2_build_12 : decode cX2_build 12 = .ok (.iload_n 2, 1) := by decide +kernel
theorem dX2_build_13 : decode cX2_build 13 = .ok (.iastore, 1) := by decide +kernel
theorem dX2_build_14 : decode cX2_build 14 = .ok (.aload_n 0, 1) := by decide +kernel
theorem dX2_build_15 : decode cX2_build 15 = .ok (.getfield 15, 3) := by decide +kernel
theorem dX2_build_18 : decode cX2_build 18 = .ok (.iload_n 1, 1) := by decide +kernel
theorem dX2_build_19 : decode cX2_build 19 = .ok (.iload_n 3, 1) := by decide +kernel
theorem dX2_build_20 : decode cX2_build 20 = .ok (.iastore, 1) := by decide +kernel
theorem dX2_build_21 : decode cX2_build 21 = .ok (.return_, 1) := by decide +kernel
set_option maxRecDepth 20000 in
theorem ggX2_reliefOf_X4_isColumn : GoodIn wsX2_reliefOf wsX4_isColumn := goodIn_r _ [4] (by decide +kernel) (by decide +kernel)
set_option maxRecDepth 20000 in
theorem gX2_reliefOf_X4_isColumn_n21 : GoodIn wsX2_reliefOf (wsX4_isColumn) := ggX2_reliefOf_X4_isColumn
theorem dX2_reliefOf_0 : decode cX2_reliefOf 0 = .ok (.iload_n 1, 1) := by decide +kernel
theorem dX2_reliefOf_1 : decode cX2_reliefOf 1 = .ok (.invokestatic 21, 3) := by decide +kernel
theorem dX2_reliefOf_4 : decode cX2_reliefOf 4 = .ok (.ifCond .eq 12, 3) := by decide +kernel
theorem dX2_reliefOf_7 : decode cX2_reliefOf 7 = .ok (.aload_n 0, 1) := by decide +kernel
theorem dX2_reliefOf_8 : decode cX2_reliefOf 8 = .ok (.getfield 9, 3) := by decide +kernel
theorem dX2_reliefOf_11 : decode cX2_reliefOf 11 = .ok (.iload_n 1, 1) := by decide +kernel
theorem dX2_reliefOf_12 : decode cX2_reliefOf 12 = .ok (.iaload, 1) := by decide +kernel
theorem dX2_reliefOf_13 : decode cX2_reliefOf 13 = .ok (.goto 4, 3) := by decide +kernel
theorem dX2_reliefOf_16 : decode cX2_reliefOf 16 = .ok (.iconst 0, 1) := by decide +kernel
theorem dX2_reliefOf_17 : decode cX2_reliefOf 17 = .ok (.ireturn, 1) := by decide +kernel
set_option maxRecDepth 20000 in
theorem ggX2_hundredthsOf_X4_isColumn : GoodIn wsX2_hundredthsOf wsX4_isColumn := goodIn_r _ [4] (by decide +kernel) (by decide +kernel)
set_option maxRecDepth 20000 in
theorem gX2_hundredthsOf_X4_isColumn_n21 : GoodIn wsX2_hundredthsOf (wsX4_isColumn) := ggX2_hundredthsOf_X4_isColumn
theorem dX2_hundredthsOf_0 : decode cX2_hundredthsOf 0 = .ok (.iload_n 1, 1) := by decide +kernel
theorem dX2_hundredthsOf_1 : decode cX2_hundredthsOf 1 = .ok (.invokestatic 21, 3) := by decide +kernel
theorem dX2_hundredthsOf_4 : decode cX2_hundredthsOf 4 = .ok (.ifCond .eq 12, 3) := by decide +kernel
theorem dX2_hundredthsOf_7 : decode cX2_hundredthsOf 7 = .ok (.aload_n 0, 1) := by decide +kernel
theorem dX2_hundredthsOf_8 : decode cX2_hundredthsOf 8 = .ok (.getfield 15, 3) := by decide +kernel
theorem dX2_hundredthsOf_11 : decode cX2_hundredthsOf 11 = .ok (.iload_n 1, 1) := by decide +kernel
theorem dX2_hundredthsOf_12 : decode cX2_hundredthsOf 12 = .ok (.iaload, 1) := by decide +kernel
theorem dX2_hundredthsOf_13 : decode cX2_hundredthsOf 13 = .ok (.goto 4, 3) := by decide +kernel
theorem dX2_hundredthsOf_16 : decode cX2_hundredthsOf 16 = .ok (.iconst 2, 1) := by decide +kernel
theorem dX2_hundredthsOf_17 : decode cX2_hundredthsOf 17 = .ok (.istore_n 2, 1) := by decide +kernel
theorem dX2_hundredthsOf_18 : decode cX2_hundredthsOf 18 = .ok (.iload_n 2, 1) := by decide +kernel
theorem dX2_hundredthsOf_19 : decode cX2_hundredthsOf 19 = .ok (.ifCond .ne 8, 3) := by decide +kernel
theorem dX2_hundredthsOf_22 : decode cX2_hundredthsOf 22 = .ok (.bipush 60, 2) := by decide +kernel
theorem dX2_hundredthsOf_24 : decode cX2_hundredthsOf 24 = .ok (.goto 14, 3) := by decide +kernel
theorem dX2_hundredthsOf_27 : decode cX2_hundredthsOf 27 = .ok (.iload_n 2, 1) := by decide +kernel
theorem dX2_hundredthsOf_28 : decode cX2_hundredthsOf 28 = .ok (.iconst 1, 1) := by decide +kernel
theorem dX2_hundredthsOf_29 : decode cX2_hundredthsOf 29 = .ok (.if_icmp .ne 8, 3) := by decide +kernel
theorem dX2_hundredthsOf_32 : decode cX2_hundredthsOf 32 = .ok (.bipush 40, 2) := by decide +kernel
theorem dX2_hundredthsOf_34 : decode cX2_hundredthsOf 34 = .ok (.goto 4, 3) := by decide +kernel
theorem dX2_hundredthsOf_37 : decode cX2_hundredthsOf 37 = .ok (.iconst 0, 1) := by decide +kernel
theorem dX2_hundredthsOf_38 : decode cX2_hundredthsOf 38 = .ok (.ireturn, 1) := by decide +kernel
theorem dX2_isCell_0 : decode cX2_isCell 0 = .ok (.iload_n 0, 1) := by decide +kernel
theorem dX2_isCell_1 : decode cX2_isCell 1 = .ok (.ifCond .lt 23, 3) := by decide +kernel
theorem dX2_isCell_4 : decode cX2_isCell 4 = .ok (.iload_n 0, 1) := by decide +kernel
theorem dX2_isCell_5 : decode cX2_isCell 5 = .ok (.bipush 16, 2) := by decide +kernel
theorem dX2_isCell_7 : decode cX2_isCell 7 = .ok (.if_icmp .ge 17, 3) := by decide +kernel
theorem dX2_isCell_10 : decode cX2_isCell 10 = .ok (.iload_n 1, 1) := by decide +kernel
theorem dX2_isCell_11 : decode cX2_isCell 11 = .ok (.ifCond .lt 13, 3) := by decide +kernel
theorem dX2_isCell_14 : decode cX2_isCell 14 = .ok (.iload_n 1, 1) := by decide +kernel
theorem dX2_isCell_15 : decode cX2_isCell 15 = .ok (.bipush 12, 2) := by decide +kernel
theorem dX2_isCell_17 : decode cX2_isCell 17 = .ok (.if_icmp .ge 7, 3) := by decide +kernel
theorem dX2_isCell_20 : decode cX2_isCell 20 = .ok (.iconst 1, 1) := by decide +kernel
theorem dX2_isCell_21 : decode cX2_isCell 21 = .ok (.goto 4, 3) := by decide +kernel
theorem dX2_isCell_24 : decode cX2_isCell 24 = .ok (.iconst 0, 1) := by decide +kernel
theorem dX2_isCell_25 : decode cX2_isCell 25 = .ok (.ireturn, 1) := by decide +kernel
set_option maxRecDepth 20000 in
theorem ggX2_put_X2_isCell : GoodIn wsX2_put wsX2_isCell := goodIn_r _ [5] (by decide +kernel) (by decide +kernel)
set_option maxRecDepth 20000 in
theorem gX2_put_X2_isCell : GoodIn wsX2_put (va_wsS RX2 25 yX2_isCell wsX2_isCell) := goodIn_app (goodIn_of _ (by decide +kernel)) ggX2_put_X2_isCell
theorem dX2_put_0 : decode cX2_put 0 = .ok (.iload_n 1, 1) := by decide +kernel
theorem dX2_put_1 : decode cX2_put 1 = .ok (.iload_n 2, 1) := by decide +kernel
theorem dX2_put_2 : decode cX2_put 2 = .ok (.invokestatic 25, 3) := by decide +kernel
theorem dX2_put_5 : decode cX2_put 5 = .ok (.ifCond .eq 15, 3) := by decide +kernel
theorem dX2_put_8 : decode cX2_put 8 = .ok (.aload_n 0, 1) := by decide +kernel
theorem dX2_put_9 : decode cX2_put 9 = .ok (.getfield 18, 3) := by decide +kernel
theorem dX2_put_12 : decode cX2_put 12 = .ok (.iload_n 1, 1) := by decide +kernel
theorem dX2_put_13 : decode cX2_put 13 = .ok (.bipush 12, 2) := by decide +kernel
theorem dX2_put_15 : decode cX2_put 15 = .ok (.imul, 1) := by decide +kernel
theorem dX2_put_16 : decode cX2_put 16 = .ok (.iload_n 2, 1) := by decide +kernel
theorem dX2_put_17 : decode cX2_put 17 = .ok (.iadd, 1) := by decide +kernel
theorem dX2_put_18 : decode cX2_put 18 = .ok (.iload_n 3, 1) := by decide +kernel
theorem dX2_put_19 : decode cX2_put 19 = .ok (.iastore, 1) := by decide +kernel
theorem dX2_put_20 : decode cX2_put 20 = .ok (.return_, 1) := by decide +kernel
set_option maxRecDepth 20000 in
theorem ggX2_contentOf_X2_isCell : GoodIn wsX2_contentOf wsX2_isCell := goodIn_r _ [5] (by decide +kernel) (by decide +kernel)
set_option maxRecDepth 20000 in
theorem gX2_contentOf_X2_isCell : GoodIn wsX2_contentOf (va_wsS RX2 25 yX2_isCell wsX2_isCell) := goodIn_app (goodIn_of _ (by decide +kernel)) ggX2_contentOf_X2_isCell
theorem dX2_contentOf_0 : decode cX2_contentOf 0 = .ok (.iload_n 1, 1) := by decide +kernel
theorem dX2_contentOf_1 : decode cX2_contentOf 1 = .ok (.iload_n 2, 1) := by decide +kernel
theorem dX2_contentOf_2 : decode cX2_contentOf 2 = .ok (.invokestatic 25, 3) := by decide +kernel
theorem dX2_contentOf_5 : decode cX2_contentOf 5 = .ok (.ifCond .eq 17, 3) := by decide +kernel
theorem dX2_contentOf_8 : decode cX2_contentOf 8 = .ok (.aload_n 0, 1) := by decide +kernel
theorem dX2_contentOf_9 : decode cX2_contentOf 9 = .ok (.getfield 18, 3) := by decide +kernel
theorem dX2_contentOf_12 : decode cX2_contentOf 12 = .ok (.iload_n 1, 1) := by decide +kernel
theorem dX2_contentOf_13 : decode cX2_contentOf 13 = .ok (.bipush 12, 2) := by decide +kernel
theorem dX2_contentOf_15 : decode cX2_contentOf 15 = .ok (.imul, 1) := by decide +kernel
theorem dX2_contentOf_16 : decode cX2_contentOf 16 = .ok (.iload_n 2, 1) := by decide +kernel
theorem dX2_contentOf_17 : decode cX2_contentOf 17 = .ok (.iadd, 1) := by decide +kernel
theorem dX2_contentOf_18 : decode cX2_contentOf 18 = .ok (.iaload, 1) := by decide +kernel
theorem dX2_contentOf_19 : decode cX2_contentOf 19 = .ok (.goto 4, 3) := by decide +kernel
theorem dX2_contentOf_22 : decode cX2_contentOf 22 = .ok (.iconst 0, 1) := by decide +kernel
theorem dX2_contentOf_23 : decode cX2_contentOf 23 = .ok (.ireturn, 1) := by decide +kernel
set_option maxRecDepth 20000 in
theorem ggX2_stopsRays_X2_contentOf : GoodIn wsX2_stopsRays wsX2_contentOf := goodIn_r _ [5, 6, 7, 8, 4, 9, 18, 19, 20] (by decide +kernel) (by decide +kernel)
set_option maxRecDepth 20000 in
theorem gX2_stopsRays_X2_contentOf : GoodIn wsX2_stopsRays (wsV RX2 29 RX2 yX2_contentOf wsX2_contentOf) := goodIn_app (goodIn_of _ (by decide +kernel)) ggX2_stopsRays_X2_contentOf
set_option maxRecDepth 20000 in
theorem ggX2_stopsRays_X2_reliefOf : GoodIn wsX2_stopsRays wsX2_reliefOf := goodIn_r _ [13, 14, 15, 16, 17, 18, 19, 20] (by decide +kernel) (by decide +kernel)
set_option maxRecDepth 20000 in
theorem gX2_stopsRays_X2_reliefOf : GoodIn wsX2_stopsRays (wsV RX2 33 RX2 yX2_reliefOf wsX2_reliefOf) := goodIn_app (goodIn_of _ (by decide +kernel)) ggX2_stopsRays_X2_reliefOf
theorem dX2_stopsRays_0 : decode cX2_stopsRays 0 = .ok (.aload_n 0, 1) := by decide +kernel
theorem dX2_stopsRays_1 : decode cX2_stopsRays 1 = .ok (.iload_n 1, 1) := by decide +kernel
theorem dX2_stopsRays_2 : decode cX2_stopsRays 2 = .ok (.iload_n 2, 1) := by decide +kernel
theorem dX2_stopsRays_3 : decode cX2_stopsRays 3 = .ok (.invokevirtual 29, 3) := by decide +kernel
theorem dX2_stopsRays_6 : decode cX2_stopsRays 6 = .ok (.istore_n 3, 1) := by decide +kernel
theorem dX2_stopsRays_7 : decode cX2_stopsRays 7 = .ok (.iload_n 2, 1) := by decide +kernel
theorem dX2_stopsRays_8 : decode cX2_stopsRays 8 = .ok (.aload_n 0, 1) := by decide +kernel
theorem dX2_stopsRays_9 : decode cX2_stopsRays 9 = .ok (.iload_n 1, 1) := by decide +kernel
theorem dX2_stopsRays_10 : decode cX2_stopsRays 10 = .ok (.invokevirtual 33, 3) := by decide +kernel
theorem dX2_stopsRays_13 : decode cX2_stopsRays 13 = .ok (.if_icmp .lt 13, 3) := by decide +kernel
theorem dX2_stopsRays_16 : decode cX2_stopsRays 16 = .ok (.iload_n 3, 1) := by decide +kernel
theorem dX2_stopsRays_17 : decode cX2_stopsRays 17 = .ok (.iconst 1, 1) := by decide +kernel
theorem dX2_stopsRays_18 : decode cX2_stopsRays 18 = .ok (.if_icmp .eq 8, 3) := by decide +kernel
theorem dX2_stopsRays_21 : decode cX2_stopsRays 21 = .ok (.iload_n 3, 1) := by decide +kernel
theorem dX2_stopsRays_22 : decode cX2_stopsRays 22 = .ok (.iconst 4, 1) := by decide +kernel
theorem dX2_stopsRays_23 : decode cX2_stopsRays 23 = .ok (.if_icmp .ne 7, 3) := by decide +kernel
theorem dX2_stopsRays_26 : decode cX2_stopsRays 26 = .ok (.iconst 1, 1) := by decide +kernel
theorem dX2_stopsRays_27 : decode cX2_stopsRays 27 = .ok (.goto 4, 3) := by decide +kernel
theorem dX2_stopsRays_30 : decode cX2_stopsRays 30 = .ok (.iconst 0, 1) := by decide +kernel
theorem dX2_stopsRays_31 : decode cX2_stopsRays 31 = .ok (.ireturn, 1) := by decide +kernel
set_option maxRecDepth 20000 in
theorem ggX2_hasTheLiving_X2_contentOf : GoodIn wsX2_hasTheLiving wsX2_contentOf := goodIn_r _ [5, 6, 7, 8, 4, 9, 10, 11, 12] (by decide +kernel) (by decide +kernel)
set_option maxRecDepth 20000 in
theorem gX2_hasTheLiving_X2_contentOf : GoodIn wsX2_hasTheLiving (wsV RX2 29 RX2 yX2_contentOf wsX2_contentOf) := goodIn_app (goodIn_of _ (by decide +kernel)) ggX2_hasTheLiving_X2_contentOf
theorem dX2_hasTheLiving_0 : decode cX2_hasTheLiving 0 = .ok (.aload_n 0, 1) := by decide +kernel
theorem dX2_hasTheLiving_1 : decode cX2_hasTheLiving 1 = .ok (.iload_n 1, 1) := by decide +kernel
theorem dX2_hasTheLiving_2 : decode cX2_hasTheLiving 2 = .ok (.iload_n 2, 1) := by decide +kernel
theorem dX2_hasTheLiving_3 : decode cX2_hasTheLiving 3 = .ok (.invokevirtual 29, 3) := by decide +kernel
theorem dX2_hasTheLiving_6 : decode cX2_hasTheLiving 6 = .ok (.istore_n 3, 1) := by decide +kernel
theorem dX2_hasTheLiving_7 : decode cX2_hasTheLiving 7 = .ok (.iload_n 3, 1) := by decide +kernel
theorem dX2_hasTheLiving_8 : decode cX2_hasTheLiving 8 = .ok (.iconst 2, 1) := by decide +kernel
theorem dX2_hasTheLiving_9 : decode cX2_hasTheLiving 9 = .ok (.if_icmp .eq 8, 3) := by decide +kernel
theorem dX2_hasTheLiving_12 : decode cX2_hasTheLiving 12 = .ok (.iload_n 3, 1) := by decide +kernel
theorem dX2_hasTheLiving_13 : decode cX2_hasTheLiving 13 = .ok (.iconst 3, 1) := by decide +kernel
theorem dX2_hasTheLiving_14 : decode cX2_hasTheLiving 14 = .ok (.if_icmp .ne 7, 3) := by decide +kernel
theorem dX2_hasTheLiving_17 : decode cX2_hasTheLiving 17 = .ok (.iconst 1, 1) := by decide +kernel
theorem dX2_hasTheLiving_18 : decode cX2_hasTheLiving 18 = .ok (.goto 4, 3) := by decide +kernel
theorem dX2_hasTheLiving_21 : decode cX2_hasTheLiving 21 = .ok (.iconst 0, 1) := by decide +kernel
theorem dX2_hasTheLiving_22 : decode cX2_hasTheLiving 22 = .ok (.ireturn, 1) := by decide +kernel
theorem dX3_init_0 : decode cX3_init 0 = .ok (.aload_n 0, 1) := by decide +kernel
theorem dX3_init_1 : decode cX3_init 1 = .ok (.invokespecial 3, 3) := by decide +kernel
theorem dX3_init_4 : decode cX3_init 4 = .ok (.aload_n 0, 1) := by decide +kernel
theorem dX3_init_5 : decode cX3_init 5 = .ok (.sipush 160, 3) := by decide +kernel
theorem dX3_init_8 : decode cX3_init 8 = .ok (.newarray .int, 2) := by decide +kernel
theorem dX3_init_10 : decode cX3_init 10 = .ok (.putfield 9, 3) := by decide +kernel
theorem dX3_init_13 : decode cX3_init 13 = .ok (.aload_n 0, 1) := by decide +kernel
theorem dX3_init_14 : decode cX3_init 14 = .ok (.bipush 16, 2) := by decide +kernel
theorem dX3_init_16 : decode cX3_init 16 = .ok (.newarray .int, 2) := by decide +kernel
theorem dX3_init_18 : decode cX3_init 18 = .ok (.putfield 15, 3) := by decide +kernel
theorem dX3_init_21 : decode cX3_init 21 = .ok (.return_, 1) := by decide +kernel
set_option maxRecDepth 20000 in
theorem ggX3_isPlace_X4_isColumn : GoodIn wsX3_isPlace wsX4_isColumn := goodIn_r _ [3] (by decide +kernel) (by decide +kernel)
set_option maxRecDepth 20000 in
theorem gX3_isPlace_X4_isColumn_n18 : GoodIn wsX3_isPlace (wsX4_isColumn) := ggX3_isPlace_X4_isColumn
theorem dX3_isPlace_0 : decode cX3_isPlace 0 = .ok (.iload_n 0, 1) := by decide +kernel
theorem dX3_isPlace_1 : decode cX3_isPlace 1 = .ok (.invokestatic 18, 3) := by decide +kernel
theorem dX3_isPlace_4 : decode cX3_isPlace 4 = .ok (.ifCond .eq 17, 3) := by decide +kernel
theorem dX3_isPlace_7 : decode cX3_isPlace 7 = .ok (.iload_n 1, 1) := by decide +kernel
theorem dX3_isPlace_8 : decode cX3_isPlace 8 = .ok (.ifCond .lt 13, 3) := by decide +kernel
theorem dX3_isPlace_11 : decode cX3_isPlace 11 = .ok (.iload_n 1, 1) := by decide +kernel
theorem dX3_isPlace_12 : decode cX3_isPlace 12 = .ok (.bipush 10, 2) := by decide +kernel
theorem dX3_isPlace_14 : decode cX3_isPlace 14 = .ok (.if_icmp .ge 7, 3) := by decide +kernel
theorem dX3_isPlace_17 : decode cX3_isPlace 17 = .ok (.iconst 1, 1) := by decide +kernel
theorem dX3_isPlace_18 : decode cX3_isPlace 18 = .ok (.goto 4, 3) := by decide +kernel
theorem dX3_isPlace_21 : decode cX3_isPlace 21 = .ok (.iconst 0, 1) := by decide +kernel
theorem dX3_isPlace_22 : decode cX3_isPlace 22 = .ok (.ireturn, 1) := by decide +kernel
set_option maxRecDepth 20000 in
theorem ggX3_note_X3_isPlace : GoodIn wsX3_note wsX3_isPlace := goodIn_r _ [6, 7, 8, 9] (by decide +kernel) (by decide +kernel)
set_option maxRecDepth 20000 in
theorem gX3_note_X3_isPlace : GoodIn wsX3_note (va_wsS RX3 22 yX3_isPlace wsX3_isPlace) := goodIn_app (goodIn_of _ (by decide +kernel)) ggX3_note_X3_isPlace
theorem dX3_note_0 : decode cX3_note 0 = .ok (.iload_n 1, 1) := by decide +kernel
theorem dX3_note_1 : decode cX3_note 1 = .ok (.iload_n 2, 1) := by decide +kernel
theorem dX3_note_2 : decode cX3_note 2 = .ok (.invokestatic 22, 3) := by decide +kernel
theorem dX3_note_5 : decode cX3_note 5 = .ok (.ifCond .eq 70, 3) := by decide +kernel
theorem dX3_note_8 : decode cX3_note 8 = .ok (.iconst 1, 1) := by decide +kernel
theorem dX3_note_9 : decode cX3_note 9 = .ok (.iload_n 2, 1) := by decide +kernel
theorem dX3_note_10 : decode cX3_note 10 = .ok (.ishl, 1) := by decide +kernel
theorem dX3_note_11 : decode cX3_note 11 = .ok (.istore 5, 2) := by decide +kernel
theorem dX3_note_13 : decode cX3_note 13 = .ok (.aload_n 0, 1) := by decide +kernel
theorem dX3_note_14 : decode cX3_note 14 = .ok (.getfield 9, 3) := by decide +kernel
theorem dX3_note_17 : decode cX3_note 17 = .ok (.iload_n 1, 1) := by decide +kernel
theorem dX3_note_18 : decode cX3_note 18 = .ok (.bipush 10, 2) := by decide +kernel
theorem dX3_note_20 : decode cX3_note 20 = .ok (.imul, 1) := by decide +kernel
theorem dX3_note_21 : decode cX3_note 21 = .ok (.iload_n 2, 1) := by decide +kernel
theorem dX3_note_22 : decode cX3_note 22 = .ok (.iadd, 1) := by decide +kernel
theorem dX3_note_23 : decode cX3_note 23 = .ok (.iload_n 3, 1) := by decide +kernel
theorem dX3_note_24 : decode cX3_note 24 = .ok (.iastore, 1) := by decide +kernel
theorem dX3_note_25 : decode cX3_note 25 = .ok (.iload_n 3, 1) := by decide +kernel
theorem dX3_note_26 : decode cX3_note 26 = .ok (.ifCond .le 12, 3) := by decide +kernel
theorem dX3_note_29 : decode cX3_note 29 = .ok (.iload 4, 2) := by decide +kernel
theorem dX3_note_31 : decode cX3_note 31 = .ok (.ifCond .ne 7, 3) := by decide +kernel
theorem dX3_note_34 : decode cX3_note 34 = .ok (.iconst 1, 1) := by decide +kernel
theorem dX3_note_35 : decode cX3_note 35 = .ok (.goto 4, 3) := by decide +kernel
theorem dX3_note_38 : decode cX3_note 38 = .ok (.iconst 0, 1) := by decide +kernel
theorem dX3_note_39 : decode cX3_note 39 = .ok (.istore 6, 2) := by decide +kernel
theorem dX3_note_41 : decode cX3_note 41 = .ok (.aload_n 0, 1) := by decide +kernel
theorem dX3_note_42 : decode cX3_note 42 = .ok (.getfield 15, 3) := by decide +kernel
theorem dX3_note_45 : decode cX3_note 45 = .ok (.iload_n 1, 1) := by decide +kernel
theorem dX3_note_46 : decode cX3_note 46 = .ok (.iload 6, 2) := by decide +kernel
theorem dX3_note_48 : decode cX3_note 48 = .ok (.ifCond .eq 15, 3) := by decide +kernel
theorem dX3_note_51 : decode cX3_note 51 = .ok (.aload_n 0, 1) := by decide +kernel
theorem dX3_note_52 : decode cX3_note 52 = .ok (.getfield 15, 3) := by decide +kernel
theorem dX3_note_55 : decode cX3_note 55 = .ok (.iload_n 1, 1) := by decide +kernel
theorem dX3_note_56 : decode cX3_note 56 = .ok (.iaload, 1) := by decide +kernel
theorem dX3_note_57 : decode cX3_note 57 = .ok (.iload 5, 2) := by decide +kernel
theorem dX3_note_59 : decode cX3_note 59 = .ok (.ior, 1) := by decide +kernel
theorem dX3_note_60 : decode cX3_note 60 = .ok (.goto 14, 3) := by decide +kernel
theorem dX3_note_63 : decode cX3_note 63 = .ok (.aload_n 0, 1) := by decide +kernel
theorem dX3_note_64 : decode cX3_note 64 = .ok (.getfield 15, 3) := by decide +kernel
theorem dX3_note_67 : decode cX3_note 67 = .ok (.iload_n 1, 1) := by decide +kernel
theorem dX3_note_68 : decode cX3_note 68 = .ok (.iaload, 1) := by decide +kernel
theorem dX3_note_69 : decode cX3_note 69 = .ok (.iload 5, 2) := by decide +kernel
theorem dX3_note_71 : decode cX3_note 71 = .ok (.iconst (-1), 1) := by decide +kernel
theorem dX3_note_72 : decode cX3_note 72 = .ok (.ixor, 1) := by decide +kernel
theorem dX3_note_73 : decode cX3_note 73 = .ok (.iand, 1) := by decide +kernel
theorem dX3_note_74 : decode cX3_note 74 = .ok (.iastore, 1) := by decide +kernel
theorem dX3_note_75 : decode cX3_note 75 = .ok (.return_, 1) := by decide +kernel
set_option maxRecDepth 20000 in
theorem ggX3_isWellCovered_X4_isColumn : GoodIn wsX3_isWellCovered wsX4_isColumn := goodIn_r _ [5] (by decide +kernel) (by decide +kernel)
set_option maxRecDepth 20000 in
theorem gX3_isWellCovered_X4_isColumn_n18 : GoodIn wsX3_isWellCovered (wsX4_isColumn) := ggX3_isWellCovered_X4_isColumn
theorem dX3_isWellCovered_0 : decode cX3_isWellCovered 0 = .ok (.iload_n 1, 1) := by decide +kernel
theorem dX3_isWellCovered_1 : decode cX3_isWellCovered 1 = .ok (.invokestatic 18, 3) := by decide +kernel
theorem dX3_isWellCovered_4 : decode cX3_isWellCovered 4 = .ok (.ifCond .eq 14, 3) := by decide +kernel
theorem dX3_isWellCovered_7 : decode cX3_isWellCovered 7 = .ok (.aload_n 0, 1) := by decide +kernel
theorem dX3_isWellCovered_8 : decode cX3_isWellCovered 8 = .ok (.getfield 15, 3) := by decide +kernel
theorem dX3_isWellCovered_11 : decode cX3_isWellCovered 11 = .ok (.iload_n 1, 1) := by decide +kernel
theorem dX3_isWellCovered_12 : decode cX3_isWellCovered 12 = .ok (.iaload, 1) := by decide +kernel
theorem dX3_isWellCovered_13 : decode cX3_isWellCovered 13 = .ok (.iload_n 2, 1) := by decide +kernel
theorem dX3_isWellCovered_14 : decode cX3_isWellCovered 14 = .ok (.iand, 1) := by decide +kernel
theorem dX3_isWellCovered_15 : decode cX3_isWellCovered 15 = .ok (.ifCond .eq 5, 3) := by decide +kernel
theorem dX3_isWellCovered_18 : decode cX3_isWellCovered 18 = .ok (.iconst 0, 1) := by decide +kernel
theorem dX3_isWellCovered_19 : decode cX3_isWellCovered 19 = .ok (.ireturn, 1) := by decide +kernel
theorem dX3_isWellCovered_20 : decode cX3_isWellCovered 20 = .ok (.iconst 0, 1) := by decide +kernel
theorem dX3_isWellCovered_21 : decode cX3_isWellCovered 21 = .ok (.istore 4, 2) := by decide +kernel
theorem dX3_isWellCovered_23 : decode cX3_isWellCovered 23 = .ok (.iconst 0, 1) := by decide +kernel
theorem dX3_isWellCovered_24 : decode cX3_isWellCovered 24 = .ok (.istore 5, 2) := by decide +kernel
theorem dX3_isWellCovered_26 : decode cX3_isWellCovered 26 = .ok (.iload 5, 2) := by decide +kernel
theorem dX3_isWellCovered_28 : decode cX3_isWellCovered 28 = .ok (.bipush 10, 2) := by decide +kernel
theorem dX3_isWellCovered_30 : decode cX3_isWellCovered 30 = .ok (.if_icmp .ge 35, 3) := by decide +kernel
theorem dX3_isWellCovered_33 : decode cX3_isWellCovered 33 = .ok (.iload_n 2, 1) := by decide +kernel
theorem dX3_isWellCovered_34 : decode cX3_isWellCovered 34 = .ok (.iload 5, 2) := by decide +kernel
theorem dX3_isWellCovered_36 : decode cX3_isWellCovered 36 = .ok (.ishr, 1) := by decide +kernel
theorem dX3_isWellCovered_37 : decode cX3_isWellCovered 37 = .ok (.iconst 1, 1) := by decide +kernel
theorem dX3_isWellCovered_38 : decode cX3_isWellCovered 38 = .ok (.iand, 1) := by decide +kernel
theorem dX3_isWellCovered_39 : decode cX3_isWellCovered 39 = .ok (.ifCond .eq 20, 3) := by decide +kernel
theorem dX3_isWellCovered_42 : decode cX3_isWellCovered 42 = .ok (.iload 4, 2) := by decide +kernel
theorem dX3_isWellCovered_44 : decode cX3_isWellCovered 44 = .ok (.aload_n 0, 1) := by decide +kernel
theorem dX3_isWellCovered_45 : decode cX3_isWellCovered 45 = .ok (.getfield 9, 3) := by decide +kernel
theorem dX3_isWellCovered_48 : decode cX3_isWellCovered 48 = .ok (.iload_n 1, 1) := by decide +kernel
theorem dX3_isWellCovered_49 : decode cX3_isWellCovered 49 = .ok (.bipush 10, 2) := by decide +kernel
theorem dX3_isWellCovered_51 : decode cX3_isWellCovered 51 = .ok (.imul, 1) := by decide +kernel
theorem dX3_isWellCovered_52 : decode cX3_isWellCovered 52 = .ok (.iload 5, 2) := by decide +kernel
theorem dX3_isWellCovered_54 : decode cX3_isWellCovered 54 = .ok (.iadd, 1) := by decide +kernel
theorem dX3_isWellCovered_55 : decode cX3_isWellCovered 55 = .ok (.iaload, 1) := by decide +kernel
theorem dX3_isWellCovered_56 : decode cX3_isWellCovered 56 = .ok (.iadd, 1) := by decide +kernel
theorem dX3_isWellCovered_57 : decode cX3_isWellCovered 57 = .ok (.istore 4, 2) := by decide +kernel
theorem dX3_isWellCovered_59 : decode cX3_isWellCovered 59 = .ok (.iinc 5 1, 3) := by decide +kernel
theorem dX3_isWellCovered_62 : decode cX3_isWellCovered 62 = .ok (.goto (-36), 3) := by decide +kernel
theorem dX3_isWellCovered_65 : decode cX3_isWellCovered 65 = .ok (.iload 4, 2) := by decide +kernel
theorem dX3_isWellCovered_67 : decode cX3_isWellCovered 67 = .ok (.iload_n 3, 1) := by decide +kernel
theorem dX3_isWellCovered_68 : decode cX3_isWellCovered 68 = .ok (.if_icmp .lt 7, 3) := by decide +kernel
theorem dX3_isWellCovered_71 : decode cX3_isWellCovered 71 = .ok (.iconst 1, 1) := by decide +kernel
theorem dX3_isWellCovered_72 : decode cX3_isWellCovered 72 = .ok (.goto 4, 3) := by decide +kernel
theorem dX3_isWellCovered_75 : decode cX3_isWellCovered 75 = .ok (.iconst 0, 1) := by decide +kernel
theorem dX3_isWellCovered_76 : decode cX3_isWellCovered 76 = .ok (.ireturn, 1) := by decide +kernel
set_option maxRecDepth 20000 in
theorem ggX3_coversAll_X3_isWellCovered : GoodIn wsX3_coversAll wsX3_isWellCovered := goodIn_r _ [5, 6, 7, 8, 9, 10, 11, 12] (by decide +kernel) (by decide +kernel)
set_option maxRecDepth 20000 in
theorem gX3_coversAll_X3_isWellCovered : GoodIn wsX3_coversAll (wsV RX3 26 RX3 yX3_isWellCovered wsX3_isWellCovered) := goodIn_app (goodIn_of _ (by decide +kernel)) ggX3_coversAll_X3_isWellCovered
theorem dX3_coversAll_0 : decode cX3_coversAll 0 = .ok (.iconst 0, 1) := by decide +kernel
theorem dX3_coversAll_1 : decode cX3_coversAll 1 = .ok (.istore 4, 2) := by decide +kernel
theorem dX3_coversAll_3 : decode cX3_coversAll 3 = .ok (.iload 4, 2) := by decide +kernel
theorem dX3_coversAll_5 : decode cX3_coversAll 5 = .ok (.bipush 16, 2) := by decide +kernel
theorem dX3_coversAll_7 : decode cX3_coversAll 7 = .ok (.if_icmp .ge 31, 3) := by decide +kernel
theorem dX3_coversAll_10 : decode cX3_coversAll 10 = .ok (.iload_n 1, 1) := by decide +kernel
theorem dX3_coversAll_11 : decode cX3_coversAll 11 = .ok (.iload 4, 2) := by decide +kernel
theorem dX3_coversAll_13 : decode cX3_coversAll 13 = .ok (.ishr, 1) := by decide +kernel
theorem dX3_coversAll_14 : decode cX3_coversAll 14 = .ok (.iconst 1, 1) := by decide +kernel
theorem dX3_coversAll_15 : decode cX3_coversAll 15 = .ok (.iand, 1) := by decide +kernel
theorem dX3_coversAll_16 : decode cX3_coversAll 16 = .ok (.ifCond .eq 16, 3) := by decide +kernel
theorem dX3_coversAll_19 : decode cX3_coversAll 19 = .ok (.aload_n 0, 1) := by decide +kernel
theorem dX3_coversAll_20 : decode cX3_coversAll 20 = .ok (.iload 4, 2) := by decide +kernel
theorem dX3_coversAll_22 : decode cX3_coversAll 22 = .ok (.iload_n 2, 1) := by decide +kernel
theorem dX3_coversAll_23 : decode cX3_coversAll 23 = .ok (.iload_n 3, 1) := by decide +kernel
theorem dX3_coversAll_24 : decode cX3_coversAll 24 = .ok (.invokevirtual 26, 3) := by decide +kernel
theorem dX3_coversAll_27 : decode cX3_coversAll 27 = .ok (.ifCond .ne 5, 3) := by decide +kernel
theorem dX3_coversAll_30 : decode cX3_coversAll 30 = .ok (.iconst 0, 1) := by decide +kernel
theorem dX3_coversAll_31 : decode cX3_coversAll 31 = .ok (.ireturn, 1) := by decide +kernel
theorem dX3_coversAll_32 : decode cX3_coversAll 32 = .ok (.iinc 4 1, 3) := by decide +kernel
theorem dX3_coversAll_35 : decode cX3_coversAll 35 = .ok (.goto (-32), 3) := by decide +kernel
theorem dX3_coversAll_38 : decode cX3_coversAll 38 = .ok (.iconst 1, 1) := by decide +kernel
theorem dX3_coversAll_39 : decode cX3_coversAll 39 = .ok (.ireturn, 1) := by decide +kernel
