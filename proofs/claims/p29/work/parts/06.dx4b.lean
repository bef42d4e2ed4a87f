theorem dX4_isColumn_0 : decode cX4_isColumn 0 = .ok (.iload_n 0, 1) := by decide +kernel
theorem dX4_isColumn_1 : decode cX4_isColumn 1 = .ok (.ifCond .lt 13, 3) := by decide +kernel
theorem dX4_isColumn_4 : decode cX4_isColumn 4 = .ok (.iload_n 0, 1) := by decide +kernel
theorem dX4_isColumn_5 : decode cX4_isColumn 5 = .ok (.bipush 16, 2) := by decide +kernel
theorem dX4_isColumn_7 : decode cX4_isColumn 7 = .ok (.if_icmp .ge 7, 3) := by decide +kernel
theorem dX4_isColumn_10 : decode cX4_isColumn 10 = .ok (.iconst 1, 1) := by decide +kernel
theorem dX4_isColumn_11 : decode cX4_isColumn 11 = .ok (.goto 4, 3) := by decide +kernel
theorem dX4_isColumn_14 : decode cX4_isColumn 14 = .ok (.iconst 0, 1) := by decide +kernel
theorem dX4_isColumn_15 : decode cX4_isColumn 15 = .ok (.ireturn, 1) := by decide +kernel
theorem dX4_isOpenRow_0 : decode cX4_isOpenRow 0 = .ok (.iload_n 0, 1) := by decide +kernel
theorem dX4_isOpenRow_1 : decode cX4_isOpenRow 1 = .ok (.iconst 3, 1) := by decide +kernel
theorem dX4_isOpenRow_2 : decode cX4_isOpenRow 2 = .ok (.if_icmp .lt 13, 3) := by decide +kernel
theorem dX4_isOpenRow_5 : decode cX4_isOpenRow 5 = .ok (.iload_n 0, 1) := by decide +kernel
theorem dX4_isOpenRow_6 : decode cX4_isOpenRow 6 = .ok (.bipush 12, 2) := by decide +kernel
theorem dX4_isOpenRow_8 : decode cX4_isOpenRow 8 = .ok (.if_icmp .ge 7, 3) := by decide +kernel
theorem dX4_isOpenRow_11 : decode cX4_isOpenRow 11 = .ok (.iconst 1, 1) := by decide +kernel
theorem dX4_isOpenRow_12 : decode cX4_isOpenRow 12 = .ok (.goto 4, 3) := by decide +kernel
theorem dX4_isOpenRow_15 : decode cX4_isOpenRow 15 = .ok (.iconst 0, 1) := by decide +kernel
theorem dX4_isOpenRow_16 : decode cX4_isOpenRow 16 = .ok (.ireturn, 1) := by decide +kernel
theorem dX4_isPhase_0 : decode cX4_isPhase 0 = .ok (.iload_n 0, 1) := by decide +kernel
theorem dX4_isPhase_1 : decode cX4_isPhase 1 = .ok (.ifCond .lt 12, 3) := by decide +kernel
theorem dX4_isPhase_4 : decode cX4_isPhase 4 = .ok (.iload_n 0, 1) := by decide +kernel
theorem dX4_isPhase_5 : decode cX4_isPhase 5 = .ok (.iconst 3, 1) := by decide +kernel
theorem dX4_isPhase_6 : decode cX4_isPhase 6 = .ok (.if_icmp .ge 7, 3) := by decide +kernel
theorem dX4_isPhase_9 : decode cX4_isPhase 9 = .ok (.iconst 1, 1) := by decide +kernel
theorem dX4_isPhase_10 : decode cX4_isPhase 10 = .ok (.goto 4, 3) := by decide +kernel
theorem dX4_isPhase_13 : decode cX4_isPhase 13 = .ok (.iconst 0, 1) := by decide +kernel
theorem dX4_isPhase_14 : decode cX4_isPhase 14 = .ok (.ireturn, 1) := by decide +kernel
theorem dX4_isSetOfProjectors_0 : decode cX4_isSetOfProjectors 0 = .ok (.iload_n 1, 1) := by decide +kernel
theorem dX4_isSetOfProjectors_1 : decode cX4_isSetOfProjectors 1 = .ok (.ifCond .lt 17, 3) := by decide +kernel
theorem dX4_isSetOfProjectors_4 : decode cX4_isSetOfProjectors 4 = .ok (.iload_n 1, 1) := by decide +kernel
theorem dX4_isSetOfProjectors_5 : decode cX4_isSetOfProjectors 5 = .ok (.iconst 1, 1) := by decide +kernel
theorem dX4_isSetOfProjectors_6 : decode cX4_isSetOfProjectors 6 = .ok (.aload_n 0, 1) := by decide +kernel
theorem dX4_isSetOfProjectors_7 : decode cX4_isSetOfProjectors 7 = .ok (.getfield 22, 3) := by decide +kernel
theorem dX4_isSetOfProjectors_10 : decode cX4_isSetOfProjectors 10 = .ok (.ishl, 1) := by decide +kernel
theorem dX4_isSetOfProjectors_11 : decode cX4_isSetOfProjectors 11 = .ok (.if_icmp .ge 7, 3) := by decide +kernel
theorem dX4_isSetOfProjectors_14 : decode cX4_isSetOfProjectors 14 = .ok (.iconst 1, 1) := by decide +kernel
theorem dX4_isSetOfProjectors_15 : decode cX4_isSetOfProjectors 15 = .ok (.goto 4, 3) := by decide +kernel
theorem dX4_isSetOfProjectors_18 : decode cX4_isSetOfProjectors 18 = .ok (.iconst 0, 1) := by decide +kernel
theorem dX4_isSetOfProjectors_19 : decode cX4_isSetOfProjectors 19 = .ok (.ireturn, 1) := by decide +kernel
theorem dX4_find_0 : decode cX4_find 0 = .ok (.iload_n 1, 1) := by decide +kernel
theorem dX4_find_1 : decode cX4_find 1 = .ok (.ifCond .lt 20, 3) := by decide +kernel
theorem dX4_find_4 : decode cX4_find 4 = .ok (.iload_n 1, 1) := by decide +kernel
theorem dX4_find_5 : decode cX4_find 5 = .ok (.aload_n 0, 1) := by decide +kernel
theorem dX4_find_6 : decode cX4_find 6 = .ok (.getfield 22, 3) := by decide +kernel
theorem dX4_find_9 : decode cX4_find 9 = .ok (.if_icmp .ge 12, 3) := by decide +kernel
theorem dX4_find_12 : decode cX4_find 12 = .ok (.iload_n 1, 1) := by decide +kernel
theorem dX4_find_13 : decode cX4_find 13 = .ok (.aload_n 0, 1) := by decide +kernel
theorem dX4_find_14 : decode cX4_find 14 = .ok (.getfield 18, 3) := by decide +kernel
theorem dX4_find_17 : decode cX4_find 17 = .ok (.arraylength, 1) := by decide +kernel
theorem dX4_find_18 : decode cX4_find 18 = .ok (.if_icmp .lt 5, 3) := by decide +kernel
theorem dX4_find_21 : decode cX4_find 21 = .ok (.aconst_null, 1) := by decide +kernel
theorem dX4_find_22 : decode cX4_find 22 = .ok (.areturn, 1) := by decide +kernel
theorem dX4_find_23 : decode cX4_find 23 = .ok (.aload_n 0, 1) := by decide +kernel
theorem dX4_find_24 : decode cX4_find 24 = .ok (.getfield 18, 3) := by decide +kernel
theorem dX4_find_27 : decode cX4_find 27 = .ok (.iload_n 1, 1) := by decide +kernel
theorem dX4_find_28 : decode cX4_find 28 = .ok (.aaload, 1) := by decide +kernel
theorem dX4_find_29 : decode cX4_find 29 = .ok (.areturn, 1) := by decide +kernel
theorem dX4_findScene_0 : decode cX4_findScene 0 = .ok (.iload_n 1, 1) := by decide +kernel
theorem dX4_findScene_1 : decode cX4_findScene 1 = .ok (.ifCond .lt 17, 3) := by decide +kernel
theorem dX4_findScene_4 : decode cX4_findScene 4 = .ok (.iload_n 1, 1) := by decide +kernel
theorem dX4_findScene_5 : decode cX4_findScene 5 = .ok (.iconst 4, 1) := by decide +kernel
theorem dX4_findScene_6 : decode cX4_findScene 6 = .ok (.if_icmp .ge 12, 3) := by decide +kernel
theorem dX4_findScene_9 : decode cX4_findScene 9 = .ok (.iload_n 1, 1) := by decide +kernel
theorem dX4_findScene_10 : decode cX4_findScene 10 = .ok (.aload_n 0, 1) := by decide +kernel
theorem dX4_findScene_11 : decode cX4_findScene 11 = .ok (.getfield 55, 3) := by decide +kernel
theorem dX4_findScene_14 : decode cX4_findScene 14 = .ok (.arraylength, 1) := by decide +kernel
theorem dX4_findScene_15 : decode cX4_findScene 15 = .ok (.if_icmp .lt 5, 3) := by decide +kernel
theorem dX4_findScene_18 : decode cX4_findScene 18 = .ok (.aconst_null, 1) := by decide +kernel
theorem dX4_findScene_19 : decode cX4_findScene 19 = .ok (.areturn, 1) := by decide +kernel
theorem dX4_findScene_20 : decode cX4_findScene 20 = .ok (.aload_n 0, 1) := by decide +kernel
theorem dX4_findScene_21 : decode cX4_findScene 21 = .ok (.getfield 55, 3) := by decide +kernel
theorem dX4_findScene_24 : decode cX4_findScene 24 = .ok (.iload_n 1, 1) := by decide +kernel
theorem dX4_findScene_25 : decode cX4_findScene 25 = .ok (.aaload, 1) := by decide +kernel
theorem dX4_findScene_26 : decode cX4_findScene 26 = .ok (.areturn, 1) := by decide +kernel
set_option maxRecDepth 20000 in
theorem ggX4_loadOf_X4_find : GoodIn wsX4_loadOf wsX4_find := goodIn_r _ [5, 6, 7, 18, 19, 20, 21, 22, 23, 24, 25, 26, 27, 28, 29, 30, 31, 32, 33] (by decide +kernel) (by decide +kernel)
set_option maxRecDepth 20000 in
theorem gX4_loadOf_X4_find : GoodIn wsX4_loadOf (wsV RX4 137 RX4 yX4_find wsX4_find) := goodIn_app (goodIn_of _ (by decide +kernel)) ggX4_loadOf_X4_find
theorem dX4_loadOf_0 : decode cX4_loadOf 0 = .ok (.iconst 0, 1) := by decide +kernel
theorem dX4_loadOf_1 : decode cX4_loadOf 1 = .ok (.istore_n 2, 1) := by decide +kernel
theorem dX4_loadOf_2 : decode cX4_loadOf 2 = .ok (.iconst 0, 1) := by decide +kernel
theorem dX4_loadOf_3 : decode cX4_loadOf 3 = .ok (.istore_n 3, 1) := by decide +kernel
theorem dX4_loadOf_4 : decode cX4_loadOf 4 = .ok (.iload_n 3, 1) := by decide +kernel
theorem dX4_loadOf_5 : decode cX4_loadOf 5 = .ok (.bipush 10, 2) := by decide +kernel
theorem dX4_loadOf_7 : decode cX4_loadOf 7 = .ok (.if_icmp .ge 46, 3) := by decide +kernel
theorem dX4_loadOf_10 : decode cX4_loadOf 10 = .ok (.aload_n 0, 1) := by decide +kernel
theorem dX4_loadOf_11 : decode cX4_loadOf 11 = .ok (.iload_n 3, 1) := by decide +kernel
theorem dX4_loadOf_12 : decode cX4_loadOf 12 = .ok (.invokevirtual 137, 3) := by decide +kernel
theorem dX4_loadOf_15 : decode cX4_loadOf 15 = .ok (.astore 4, 2) := by decide +kernel
theorem dX4_loadOf_17 : decode cX4_loadOf 17 = .ok (.aload 4, 2) := by decide +kernel
theorem dX4_loadOf_19 : decode cX4_loadOf 19 = .ok (.ifnull 28, 3) := by decide +kernel
theorem dX4_loadOf_22 : decode cX4_loadOf 22 = .ok (.aload 4, 2) := by decide +kernel
theorem dX4_loadOf_24 : decode cX4_loadOf 24 = .ok (.getfield 151, 3) := by decide +kernel
theorem dX4_loadOf_27 : decode cX4_loadOf 27 = .ok (.ifCond .eq 20, 3) := by decide +kernel
theorem dX4_loadOf_30 : decode cX4_loadOf 30 = .ok (.aload 4, 2) := by decide +kernel
theorem dX4_loadOf_32 : decode cX4_loadOf 32 = .ok (.getfield 155, 3) := by decide +kernel
theorem dX4_loadOf_35 : decode cX4_loadOf 35 = .ok (.iload_n 1, 1) := by decide +kernel
theorem dX4_loadOf_36 : decode cX4_loadOf 36 = .ok (.if_icmp .ne 11, 3) := by decide +kernel
theorem dX4_loadOf_39 : decode cX4_loadOf 39 = .ok (.iload_n 2, 1) := by decide +kernel
theorem dX4_loadOf_40 : decode cX4_loadOf 40 = .ok (.aload 4, 2) := by decide +kernel
theorem dX4_loadOf_42 : decode cX4_loadOf 42 = .ok (.getfield 162, 3) := by decide +kernel
theorem dX4_loadOf_45 : decode cX4_loadOf 45 = .ok (.iadd, 1) := by decide +kernel
theorem dX4_loadOf_46 : decode cX4_loadOf 46 = .ok (.istore_n 2, 1) := by decide +kernel
theorem dX4_loadOf_47 : decode cX4_loadOf 47 = .ok (.iinc 3 1, 3) := by decide +kernel
theorem dX4_loadOf_50 : decode cX4_loadOf 50 = .ok (.goto (-46), 3) := by decide +kernel
theorem dX4_loadOf_53 : decode cX4_loadOf 53 = .ok (.iload_n 2, 1) := by decide +kernel
theorem dX4_loadOf_54 : decode cX4_loadOf 54 = .ok (.ireturn, 1) := by decide +kernel
set_option maxRecDepth 20000 in
theorem ggX4_borneBy_X4_isPhase : GoodIn wsX4_borneBy wsX4_isPhase := goodIn_r _ [5] (by decide +kernel) (by decide +kernel)
set_option maxRecDepth 20000 in
theorem gX4_borneBy_X4_isPhase : GoodIn wsX4_borneBy (va_wsS RX4 123 yX4_isPhase wsX4_isPhase) := goodIn_app (goodIn_of _ (by decide +kernel)) ggX4_borneBy_X4_isPhase
theorem dX4_borneBy_0 : decode cX4_borneBy 0 = .ok (.iload_n 1, 1) := by decide +kernel
theorem dX4_borneBy_1 : decode cX4_borneBy 1 = .ok (.invokestatic 123, 3) := by decide +kernel
theorem dX4_borneBy_4 : decode cX4_borneBy 4 = .ok (.ifCond .eq 12, 3) := by decide +kernel
theorem dX4_borneBy_7 : decode cX4_borneBy 7 = .ok (.aload_n 0, 1) := by decide +kernel
theorem dX4_borneBy_8 : decode cX4_borneBy 8 = .ok (.getfield 26, 3) := by decide +kernel
theorem dX4_borneBy_11 : decode cX4_borneBy 11 = .ok (.iload_n 1, 1) := by decide +kernel
theorem dX4_borneBy_12 : decode cX4_borneBy 12 = .ok (.iaload, 1) := by decide +kernel
theorem dX4_borneBy_13 : decode cX4_borneBy 13 = .ok (.goto 4, 3) := by decide +kernel
theorem dX4_borneBy_16 : decode cX4_borneBy 16 = .ok (.iconst 0, 1) := by decide +kernel
theorem dX4_borneBy_17 : decode cX4_borneBy 17 = .ok (.ireturn, 1) := by decide +kernel
set_option maxRecDepth 20000 in
theorem ggX4_powerOfOn_X4_loadOf : GoodIn wsX4_powerOfOn wsX4_loadOf := goodIn_r _ [5, 6, 7, 8, 4, 9, 10, 11, 12, 13, 14, 15, 16, 17, 18, 19, 20, 21, 22, 23, 24, 25, 26, 27, 28, 29, 30, 31, 32, 33, 34, 35, 36, 37] (by decide +kernel) (by decide +kernel)
set_option maxRecDepth 20000 in
theorem gX4_powerOfOn_X4_loadOf : GoodIn wsX4_powerOfOn (wsV RX4 158 RX4 yX4_loadOf wsX4_loadOf) := goodIn_app (goodIn_of _ (by decide +kernel)) ggX4_powerOfOn_X4_loadOf
theorem dX4_powerOfOn_0 : decode cX4_powerOfOn 0 = .ok (.aload_n 0, 1) := by decide +kernel
theorem dX4_powerOfOn_1 : decode cX4_powerOfOn 1 = .ok (.iconst 0, 1) := by decide +kernel
theorem dX4_powerOfOn_2 : decode cX4_powerOfOn 2 = .ok (.invokevirtual 158, 3) := by decide +kernel
theorem dX4_powerOfOn_5 : decode cX4_powerOfOn 5 = .ok (.aload_n 0, 1) := by decide +kernel
theorem dX4_powerOfOn_6 : decode cX4_powerOfOn 6 = .ok (.iconst 1, 1) := by decide +kernel
theorem dX4_powerOfOn_7 : decode cX4_powerOfOn 7 = .ok (.invokevirtual 158, 3) := by decide +kernel
theorem dX4_powerOfOn_10 : decode cX4_powerOfOn 10 = .ok (.iadd, 1) := by decide +kernel
theorem dX4_powerOfOn_11 : decode cX4_powerOfOn 11 = .ok (.aload_n 0, 1) := by decide +kernel
theorem dX4_powerOfOn_12 : decode cX4_powerOfOn 12 = .ok (.iconst 2, 1) := by decide +kernel
theorem dX4_powerOfOn_13 : decode cX4_powerOfOn 13 = .ok (.invokevirtual 158, 3) := by decide +kernel
theorem dX4_powerOfOn_16 : decode cX4_powerOfOn 16 = .ok (.iadd, 1) := by decide +kernel
theorem dX4_powerOfOn_17 : decode cX4_powerOfOn 17 = .ok (.ireturn, 1) := by decide +kernel
set_option maxRecDepth 20000 in
theorem ggX4_countOfOn_X4_find : GoodIn wsX4_countOfOn wsX4_find := goodIn_r _ [5, 6, 7, 18, 19, 20, 21, 22, 23, 24, 25, 26, 27, 28, 29, 30, 31, 32, 33] (by decide +kernel) (by decide +kernel)
set_option maxRecDepth 20000 in
theorem gX4_countOfOn_X4_find : GoodIn wsX4_countOfOn (wsV RX4 137 RX4 yX4_find wsX4_find) := goodIn_app (goodIn_of _ (by decide +kernel)) ggX4_countOfOn_X4_find
theorem dX4_countOfOn_0 : decode cX4_countOfOn 0 = .ok (.iconst 0, 1) := by decide +kernel
theorem dX4_countOfOn_1 : decode cX4_countOfOn 1 = .ok (.istore_n 1, 1) := by decide +kernel
theorem dX4_countOfOn_2 : decode cX4_countOfOn 2 = .ok (.iconst 0, 1) := by decide +kernel
theorem dX4_countOfOn_3 : decode cX4_countOfOn 3 = .ok (.istore_n 2, 1) := by decide +kernel
theorem dX4_countOfOn_4 : decode cX4_countOfOn 4 = .ok (.iload_n 2, 1) := by decide +kernel
theorem dX4_countOfOn_5 : decode cX4_countOfOn 5 = .ok (.bipush 10, 2) := by decide +kernel
theorem dX4_countOfOn_7 : decode cX4_countOfOn 7 = .ok (.if_icmp .ge 29, 3) := by decide +kernel
theorem dX4_countOfOn_10 : decode cX4_countOfOn 10 = .ok (.aload_n 0, 1) := by decide +kernel
theorem dX4_countOfOn_11 : decode cX4_countOfOn 11 = .ok (.iload_n 2, 1) := by decide +kernel
theorem dX4_countOfOn_12 : decode cX4_countOfOn 12 = .ok (.invokevirtual 137, 3) := by decide +kernel
theorem dX4_countOfOn_15 : decode cX4_countOfOn 15 = .ok (.astore_n 3, 1) := by decide +kernel
theorem dX4_countOfOn_16 : decode cX4_countOfOn 16 = .ok (.aload_n 3, 1) := by decide +kernel
theorem dX4_countOfOn_17 : decode cX4_countOfOn 17 = .ok (.ifnull 13, 3) := by decide +kernel
theorem dX4_countOfOn_20 : decode cX4_countOfOn 20 = .ok (.aload_n 3, 1) := by decide +kernel
theorem dX4_countOfOn_21 : decode cX4_countOfOn 21 = .ok (.getfield 151, 3) := by decide +kernel
theorem dX4_countOfOn_24 : decode cX4_countOfOn 24 = .ok (.ifCond .eq 6, 3) := by decide +kernel
theorem dX4_countOfOn_27 : decode cX4_countOfOn 27 = .ok (.iinc 1 1, 3) := by decide +kernel
theorem dX4_countOfOn_30 : decode cX4_countOfOn 30 = .ok (.iinc 2 1, 3) := by decide +kernel
theorem dX4_countOfOn_33 : decode cX4_countOfOn 33 = .ok (.goto (-29), 3) := by decide +kernel
theorem dX4_countOfOn_36 : decode cX4_countOfOn 36 = .ok (.iload_n 1, 1) := by decide +kernel
theorem dX4_countOfOn_37 : decode cX4_countOfOn 37 = .ok (.ireturn, 1) := by decide +kernel
set_option maxRecDepth 20000 in
theorem ggX4_crossing_X2_reliefOf : GoodIn wsX4_crossing wsX2_reliefOf := goodIn_r _ [5, 6, 7, 8, 9, 36, 37, 38] (by decide +kernel) (by decide +kernel)
set_option maxRecDepth 20000 in
theorem gX4_crossing_X2_reliefOf_n269 : GoodIn wsX4_crossing (wsX2_reliefOf) := ggX4_crossing_X2_reliefOf
theorem dX4_crossing_0 : decode cX4_crossing 0 = .ok (.aload_n 0, 1) := by decide +kernel
theorem dX4_crossing_1 : decode cX4_crossing 1 = .ok (.getfield 10, 3) := by decide +kernel
theorem dX4_crossing_4 : decode cX4_crossing 4 = .ok (.iload_n 2, 1) := by decide +kernel
theorem dX4_crossing_5 : decode cX4_crossing 5 = .ok (.invokevirtual 269, 3) := by decide +kernel
theorem dX4_crossing_8 : decode cX4_crossing 8 = .ok (.istore 4, 2) := by decide +kernel
theorem dX4_crossing_10 : decode cX4_crossing 10 = .ok (.aload_n 1, 1) := by decide +kernel
theorem dX4_crossing_11 : decode cX4_crossing 11 = .ok (.getfield 272, 3) := by decide +kernel
theorem dX4_crossing_14 : decode cX4_crossing 14 = .ok (.iload 4, 2) := by decide +kernel
theorem dX4_crossing_16 : decode cX4_crossing 16 = .ok (.isub, 1) := by decide +kernel
theorem dX4_crossing_17 : decode cX4_crossing 17 = .ok (.istore 5, 2) := by decide +kernel
theorem dX4_crossing_19 : decode cX4_crossing 19 = .ok (.iload 5, 2) := by decide +kernel
theorem dX4_crossing_21 : decode cX4_crossing 21 = .ok (.iconst 1, 1) := by decide +kernel
theorem dX4_crossing_22 : decode cX4_crossing 22 = .ok (.if_icmp .lt 17, 3) := by decide +kernel
theorem dX4_crossing_25 : decode cX4_crossing 25 = .ok (.iload_n 3, 1) := by decide +kernel
theorem dX4_crossing_26 : decode cX4_crossing 26 = .ok (.iload 4, 2) := by decide +kernel
theorem dX4_crossing_28 : decode cX4_crossing 28 = .ok (.if_icmp .le 11, 3) := by decide +kernel
theorem dX4_crossing_31 : decode cX4_crossing 31 = .ok (.iload_n 3, 1) := by decide +kernel
theorem dX4_crossing_32 : decode cX4_crossing 32 = .ok (.aload_n 1, 1) := by decide +kernel
theorem dX4_crossing_33 : decode cX4_crossing 33 = .ok (.getfield 272, 3) := by decide +kernel
theorem dX4_crossing_36 : decode cX4_crossing 36 = .ok (.if_icmp .lt 5, 3) := by decide +kernel
theorem dX4_crossing_39 : decode cX4_crossing 39 = .ok (.iconst (-1), 1) := by decide +kernel
theorem dX4_crossing_40 : decode cX4_crossing 40 = .ok (.ireturn, 1) := by decide +kernel
theorem dX4_crossing_41 : decode cX4_crossing 41 = .ok (.aload_n 1, 1) := by decide +kernel
theorem dX4_crossing_42 : decode cX4_crossing 42 = .ok (.getfield 272, 3) := by decide +kernel
theorem dX4_crossing_45 : decode cX4_crossing 45 = .ok (.iload_n 3, 1) := by decide +kernel
theorem dX4_crossing_46 : decode cX4_crossing 46 = .ok (.isub, 1) := by decide +kernel
theorem dX4_crossing_47 : decode cX4_crossing 47 = .ok (.istore 6, 2) := by decide +kernel
theorem dX4_crossing_49 : decode cX4_crossing 49 = .ok (.aload_n 1, 1) := by decide +kernel
theorem dX4_crossing_50 : decode cX4_crossing 50 = .ok (.getfield 275, 3) := by decide +kernel
theorem dX4_crossing_53 : decode cX4_crossing 53 = .ok (.iload 5, 2) := by decide +kernel
theorem dX4_crossing_55 : decode cX4_crossing 55 = .ok (.imul, 1) := by decide +kernel
theorem dX4_crossing_56 : decode cX4_crossing 56 = .ok (.iload_n 2, 1) := by decide +kernel
theorem dX4_crossing_57 : decode cX4_crossing 57 = .ok (.aload_n 1, 1) := by decide +kernel
theorem dX4_crossing_58 : decode cX4_crossing 58 = .ok (.getfield 275, 3) := by decide +kernel
theorem dX4_crossing_61 : decode cX4_crossing 61 = .ok (.isub, 1) := by decide +kernel
theorem dX4_crossing_62 : decode cX4_crossing 62 = .ok (.iload 6, 2) := by decide +kernel
theorem dX4_crossing_64 : decode cX4_crossing 64 = .ok (.imul, 1) := by decide +kernel
theorem dX4_crossing_65 : decode cX4_crossing 65 = .ok (.iadd, 1) := by decide +kernel
theorem dX4_crossing_66 : decode cX4_crossing 66 = .ok (.istore 7, 2) := by decide +kernel
theorem dX4_crossing_68 : decode cX4_crossing 68 = .ok (.iconst 2, 1) := by decide +kernel
theorem dX4_crossing_69 : decode cX4_crossing 69 = .ok (.iload 7, 2) := by decide +kernel
theorem dX4_crossing_71 : decode cX4_crossing 71 = .ok (.imul, 1) := by decide +kernel
theorem dX4_crossing_72 : decode cX4_crossing 72 = .ok (.iload 5, 2) := by decide +kernel
theorem dX4_crossing_74 : decode cX4_crossing 74 = .ok (.iadd, 1) := by decide +kernel
theorem dX4_crossing_75 : decode cX4_crossing 75 = .ok (.iconst 2, 1) := by decide +kernel
theorem dX4_crossing_76 : decode cX4_crossing 76 = .ok (.iload 5, 2) := by decide +kernel
theorem dX4_crossing_78 : decode cX4_crossing 78 = .ok (.imul, 1) := by decide +kernel
theorem dX4_crossing_79 : decode cX4_crossing 79 = .ok (.idiv, 1) := by decide +kernel
theorem dX4_crossing_80 : decode cX4_crossing 80 = .ok (.ireturn, 1) := by decide +kernel
set_option maxRecDepth 20000 in
theorem ggX4_isBlocked_X2_reliefOf : GoodIn wsX4_isBlocked wsX2_reliefOf := goodIn_r _ [5, 6, 7, 8, 9, 52, 53, 54] (by decide +kernel) (by decide +kernel)
set_option maxRecDepth 20000 in
theorem gX4_isBlocked_X2_reliefOf_n269 : GoodIn wsX4_isBlocked (wsX2_reliefOf) := ggX4_isBlocked_X2_reliefOf
set_option maxRecDepth 20000 in
theorem ggX4_isBlocked_X4_crossing : GoodIn wsX4_isBlocked wsX4_crossing := goodIn_r _ [13, 1, 2, 3, 4, 5, 6, 7, 8, 9, 26, 27, 28, 29, 30, 31, 32, 33, 34, 35, 36, 37, 38, 39, 40, 41, 42, 43, 44, 45, 46, 47, 48, 49, 50, 51, 52, 53, 54] (by decide +kernel) (by decide +kernel)
set_option maxRecDepth 20000 in
theorem gX4_isBlocked_X4_crossing : GoodIn wsX4_isBlocked (wsV RX4 178 RX4 yX4_crossing wsX4_crossing) := goodIn_app (goodIn_of _ (by decide +kernel)) ggX4_isBlocked_X4_crossing
set_option maxRecDepth 20000 in
theorem ggX4_isBlocked_X2_stopsRays : GoodIn wsX4_isBlocked wsX2_stopsRays := goodIn_r _ [16, 17, 18, 19, 3, 20, 21, 22, 23, 24, 25, 2, 4, 5, 6, 7, 8, 9, 52, 53, 54] (by decide +kernel) (by decide +kernel)
set_option maxRecDepth 20000 in
theorem gX4_isBlocked_X2_stopsRays_n278 : GoodIn wsX4_isBlocked (wsX2_stopsRays) := ggX4_isBlocked_X2_stopsRays
theorem dX4_isBlocked_0 : decode cX4_isBlocked 0 = .ok (.aload_n 0, 1) := by decide +kernel
theorem dX4_isBlocked_1 : decode cX4_isBlocked 1 = .ok (.getfield 10, 3) := by decide +kernel
theorem dX4_isBlocked_4 : decode cX4_isBlocked 4 = .ok (.iload_n 2, 1) := by decide +kernel
theorem dX4_isBlocked_5 : decode cX4_isBlocked 5 = .ok (.invokevirtual 269, 3) := by decide +kernel
theorem dX4_isBlocked_8 : decode cX4_isBlocked 8 = .ok (.iconst 1, 1) := by decide +kernel
theorem dX4_isBlocked_9 : decode cX4_isBlocked 9 = .ok (.iadd, 1) := by decide +kernel
theorem dX4_isBlocked_10 : decode cX4_isBlocked 10 = .ok (.istore_n 3, 1) := by decide +kernel
theorem dX4_isBlocked_11 : decode cX4_isBlocked 11 = .ok (.iload_n 3, 1) := by decide +kernel
theorem dX4_isBlocked_12 : decode cX4_isBlocked 12 = .ok (.aload_n 1, 1) := by decide +kernel
theorem dX4_isBlocked_13 : decode cX4_isBlocked 13 = .ok (.getfield 272, 3) := by decide +kernel
theorem dX4_isBlocked_16 : decode cX4_isBlocked 16 = .ok (.if_icmp .ge 29, 3) := by decide +kernel
theorem dX4_isBlocked_19 : decode cX4_isBlocked 19 = .ok (.aload_n 0, 1) := by decide +kernel
theorem dX4_isBlocked_20 : decode cX4_isBlocked 20 = .ok (.getfield 10, 3) := by decide +kernel
theorem dX4_isBlocked_23 : decode cX4_isBlocked 23 = .ok (.aload_n 0, 1) := by decide +kernel
theorem dX4_isBlocked_24 : decode cX4_isBlocked 24 = .ok (.aload_n 1, 1) := by decide +kernel
theorem dX4_isBlocked_25 : decode cX4_isBlocked 25 = .ok (.iload_n 2, 1) := by decide +kernel
theorem dX4_isBlocked_26 : decode cX4_isBlocked 26 = .ok (.iload_n 3, 1) := by decide +kernel
theorem dX4_isBlocked_27 : decode cX4_isBlocked 27 = .ok (.invokevirtual 178, 3) := by decide +kernel
theorem dX4_isBlocked_30 : decode cX4_isBlocked 30 = .ok (.iload_n 3, 1) := by decide +kernel
theorem dX4_isBlocked_31 : decode cX4_isBlocked 31 = .ok (.invokevirtual 278, 3) := by decide +kernel
theorem dX4_isBlocked_34 : decode cX4_isBlocked 34 = .ok (.ifCond .eq 5, 3) := by decide +kernel
theorem dX4_isBlocked_37 : decode cX4_isBlocked 37 = .ok (.iconst 1, 1) := by decide +kernel
theorem dX4_isBlocked_38 : decode cX4_isBlocked 38 = .ok (.ireturn, 1) := by decide +kernel
theorem dX4_isBlocked_39 : decode cX4_isBlocked 39 = .ok (.iinc 3 1, 3) := by decide +kernel
theorem dX4_isBlocked_42 : decode cX4_isBlocked 42 = .ok (.goto (-31), 3) := by decide +kernel
theorem dX4_isBlocked_45 : decode cX4_isBlocked 45 = .ok (.iconst 0, 1) := by decide +kernel
theorem dX4_isBlocked_46 : decode cX4_isBlocked 46 = .ok (.ireturn, 1) := by decide +kernel
set_option maxRecDepth 20000 in
theorem ggX4_meetsTheLiving_X4_crossing : GoodIn wsX4_meetsTheLiving wsX4_crossing := goodIn_r _ [6, 1, 7, 8, 9, 10, 11, 12, 5, 13, 35, 36, 37, 38, 39, 40, 41, 42, 43, 44, 45, 46, 47, 48, 49, 50, 25, 26, 27, 28, 29, 30, 31, 32, 33, 34, 51, 52, 53] (by decide +kernel) (by decide +kernel)
set_option maxRecDepth 20000 in
theorem gX4_meetsTheLiving_X4_crossing : GoodIn wsX4_meetsTheLiving (wsV RX4 178 RX4 yX4_crossing wsX4_crossing) := goodIn_app (goodIn_of _ (by decide +kernel)) ggX4_meetsTheLiving_X4_crossing
set_option maxRecDepth 20000 in
theorem ggX4_meetsTheLiving_X2_hasTheLiving : GoodIn wsX4_meetsTheLiving wsX2_hasTheLiving := goodIn_r _ [16, 17, 18, 19, 8, 20, 21, 22, 23, 24, 51, 52, 53] (by decide +kernel) (by decide +kernel)
set_option maxRecDepth 20000 in
theorem gX4_meetsTheLiving_X2_hasTheLiving_n282 : GoodIn wsX4_meetsTheLiving (wsX2_hasTheLiving) := ggX4_meetsTheLiving_X2_hasTheLiving
theorem dX4_meetsTheLiving_0 : decode cX4_meetsTheLiving 0 = .ok (.iconst 3, 1) := by decide +kernel
theorem dX4_meetsTheLiving_1 : decode cX4_meetsTheLiving 1 = .ok (.istore_n 3, 1) := by decide +kernel
theorem dX4_meetsTheLiving_2 : decode cX4_meetsTheLiving 2 = .ok (.iload_n 3, 1) := by decide +kernel
theorem dX4_meetsTheLiving_3 : decode cX4_meetsTheLiving 3 = .ok (.aload_n 1, 1) := by decide +kernel
theorem dX4_meetsTheLiving_4 : decode cX4_meetsTheLiving 4 = .ok (.getfield 272, 3) := by decide +kernel
theorem dX4_meetsTheLiving_7 : decode cX4_meetsTheLiving 7 = .ok (.if_icmp .ge 29, 3) := by decide +kernel
theorem dX4_meetsTheLiving_10 : decode cX4_meetsTheLiving 10 = .ok (.aload_n 0, 1) := by decide +kernel
theorem dX4_meetsTheLiving_11 : decode cX4_meetsTheLiving 11 = .ok (.getfield 10, 3) := by decide +kernel
theorem dX4_meetsTheLiving_14 : decode cX4_meetsTheLiving 14 = .ok (.aload_n 0, 1) := by decide +kernel
theorem dX4_meetsTheLiving_15 : decode cX4_meetsTheLiving 15 = .ok (.aload_n 1, 1) := by decide +kernel
theorem dX4_meetsTheLiving_16 : decode cX4_meetsTheLiving 16 = .ok (.iload_n 2, 1) := by decide +kernel
theorem dX4_meetsTheLiving_17 : decode cX4_meetsTheLiving 17 = .ok (.iload_n 3, 1) := by decide +kernel
theorem dX4_meetsTheLiving_18 : decode cX4_meetsTheLiving 18 = .ok (.invokevirtual 178, 3) := by decide +kernel
theorem dX4_meetsTheLiving_21 : decode cX4_meetsTheLiving 21 = .ok (.iload_n 3, 1) := by decide +kernel
theorem dX4_meetsTheLiving_22 : decode cX4_meetsTheLiving 22 = .ok (.invokevirtual 282, 3) := by decide +kernel
theorem dX4_meetsTheLiving_25 : decode cX4_meetsTheLiving 25 = .ok (.ifCond .eq 5, 3) := by decide +kernel
theorem dX4_meetsTheLiving_28 : decode cX4_meetsTheLiving 28 = .ok (.iconst 1, 1) := by decide +kernel
theorem dX4_meetsTheLiving_29 : decode cX4_meetsTheLiving 29 = .ok (.ireturn, 1) := by decide +kernel
theorem dX4_meetsTheLiving_30 : decode cX4_meetsTheLiving 30 = .ok (.iinc 3 1, 3) := by decide +kernel
theorem dX4_meetsTheLiving_33 : decode cX4_meetsTheLiving 33 = .ok (.goto (-31), 3) := by decide +kernel
theorem dX4_meetsTheLiving_36 : decode cX4_meetsTheLiving 36 = .ok (.iconst 0, 1) := by decide +kernel
theorem dX4_meetsTheLiving_37 : decode cX4_meetsTheLiving 37 = .ok (.ireturn, 1) := by decide +kernel
theorem dX4_isAimedAt_0 : decode cX4_isAimedAt 0 = .ok (.aload_n 1, 1) := by decide +kernel
theorem dX4_isAimedAt_1 : decode cX4_isAimedAt 1 = .ok (.getfield 145, 3) := by decide +kernel
theorem dX4_isAimedAt_4 : decode cX4_isAimedAt 4 = .ok (.iconst (-1), 1) := by decide +kernel
theorem dX4_isAimedAt_5 : decode cX4_isAimedAt 5 = .ok (.if_icmp .ne 5, 3) := by decide +kernel
theorem dX4_isAimedAt_8 : decode cX4_isAimedAt 8 = .ok (.iconst 0, 1) := by decide +kernel
theorem dX4_isAimedAt_9 : decode cX4_isAimedAt 9 = .ok (.ireturn, 1) := by decide +kernel
theorem dX4_isAimedAt_10 : decode cX4_isAimedAt 10 = .ok (.aload_n 0, 1) := by decide +kernel
theorem dX4_isAimedAt_11 : decode cX4_isAimedAt 11 = .ok (.getfield 30, 3) := by decide +kernel
theorem dX4_isAimedAt_14 : decode cX4_isAimedAt 14 = .ok (.iconst 3, 1) := by decide +kernel
theorem dX4_isAimedAt_15 : decode cX4_isAimedAt 15 = .ok (.if_icmp .le 12, 3) := by decide +kernel
theorem dX4_isAimedAt_18 : decode cX4_isAimedAt 18 = .ok (.aload_n 0, 1) := by decide +kernel
theorem dX4_isAimedAt_19 : decode cX4_isAimedAt 19 = .ok (.getfield 30, 3) := by decide +kernel
theorem dX4_isAimedAt_22 : decode cX4_isAimedAt 22 = .ok (.iconst 3, 1) := by decide +kernel
theorem dX4_isAimedAt_23 : decode cX4_isAimedAt 23 = .ok (.isub, 1) := by decide +kernel
theorem dX4_isAimedAt_24 : decode cX4_isAimedAt 24 = .ok (.goto 4, 3) := by decide +kernel
theorem dX4_isAimedAt_27 : decode cX4_isAimedAt 27 = .ok (.iconst 0, 1) := by decide +kernel
theorem dX4_isAimedAt_28 : decode cX4_isAimedAt 28 = .ok (.istore_n 3, 1) := by decide +kernel
theorem dX4_isAimedAt_29 : decode cX4_isAimedAt 29 = .ok (.iload_n 2, 1) := by decide +kernel
theorem dX4_isAimedAt_30 : decode cX4_isAimedAt 30 = .ok (.aload_n 1, 1) := by decide +kernel
theorem dX4_isAimedAt_31 : decode cX4_isAimedAt 31 = .ok (.getfield 145, 3) := by decide +kernel
theorem dX4_isAimedAt_34 : decode cX4_isAimedAt 34 = .ok (.iload_n 3, 1) := by decide +kernel
theorem dX4_isAimedAt_35 : decode cX4_isAimedAt 35 = .ok (.iadd, 1) := by decide +kernel
theorem dX4_isAimedAt_36 : decode cX4_isAimedAt 36 = .ok (.if_icmp .lt 17, 3) := by decide +kernel
theorem dX4_isAimedAt_39 : decode cX4_isAimedAt 39 = .ok (.iload_n 2, 1) := by decide +kernel
theorem dX4_isAimedAt_40 : decode cX4_isAimedAt 40 = .ok (.aload_n 1, 1) := by decide +kernel
theorem dX4_isAimedAt_41 : decode cX4_isAimedAt 41 = .ok (.getfield 148, 3) := by decide +kernel
theorem dX4_isAimedAt_44 : decode cX4_isAimedAt 44 = .ok (.iload_n 3, 1) := by decide +kernel
theorem dX4_isAimedAt_45 : decode cX4_isAimedAt 45 = .ok (.iadd, 1) := by decide +kernel
theorem dX4_isAimedAt_46 : decode cX4_isAimedAt 46 = .ok (.if_icmp .gt 7, 3) := by decide +kernel
theorem dX4_isAimedAt_49 : decode cX4_isAimedAt 49 = .ok (.iconst 1, 1) := by decide +kernel
theorem dX4_isAimedAt_50 : decode cX4_isAimedAt 50 = .ok (.goto 4, 3) := by decide +kernel
theorem dX4_isAimedAt_53 : decode cX4_isAimedAt 53 = .ok (.iconst 0, 1) := by decide +kernel
theorem dX4_isAimedAt_54 : decode cX4_isAimedAt 54 = .ok (.ireturn, 1) := by decide +kernel
set_option maxRecDepth 20000 in
theorem ggX4_breachesBy_X4_isAimedAt : GoodIn wsX4_breachesBy wsX4_isAimedAt := goodIn_r _ [5, 6, 42, 43, 44, 45, 46, 47, 48, 49, 50, 51, 52, 53, 54, 55, 56, 57, 58, 59, 60, 61, 62, 63, 64, 65, 66, 67] (by decide +kernel) (by decide +kernel)
set_option maxRecDepth 20000 in
theorem gX4_breachesBy_X4_isAimedAt : GoodIn wsX4_breachesBy (wsV RX4 285 RX4 yX4_isAimedAt wsX4_isAimedAt) := goodIn_app (goodIn_of _ (by decide +kernel)) ggX4_breachesBy_X4_isAimedAt
set_option maxRecDepth 20000 in
theorem ggX4_breachesBy_X4_meetsTheLiving : GoodIn wsX4_breachesBy wsX4_meetsTheLiving := goodIn_r _ [10, 11, 12, 13, 14, 4, 15, 16, 17, 18, 19, 20, 21, 22, 23, 24, 25, 26, 27, 28, 29, 30, 31, 32, 33, 42, 43, 44, 45, 46, 47, 48, 49, 50, 51, 52, 53, 54, 55, 56, 57, 58, 59, 60, 61, 62, 63, 64, 65, 66, 67, 68, 69, 70] (by decide +kernel) (by decide +kernel)
set_option maxRecDepth 20000 in
theorem gX4_breachesBy_X4_meetsTheLiving : GoodIn wsX4_breachesBy (wsV RX4 288 RX4 yX4_meetsTheLiving wsX4_meetsTheLiving) := goodIn_app (goodIn_of _ (by decide +kernel)) ggX4_breachesBy_X4_meetsTheLiving
set_option maxRecDepth 20000 in
theorem ggX4_breachesBy_X4_isBlocked : GoodIn wsX4_breachesBy wsX4_isBlocked := goodIn_r _ [37, 11, 16, 17, 18, 19, 20, 21, 4, 22, 12, 13, 14, 15, 38, 39, 40, 26, 27, 28, 29, 30, 31, 32, 33, 41, 52, 53, 54, 55, 56, 57, 58, 59, 60, 61, 62, 63, 64, 65, 66, 67, 42, 43, 44, 45, 46, 47, 48, 49, 50, 51, 68, 69, 70] (by decide +kernel) (by decide +kernel)
set_option maxRecDepth 20000 in
theorem gX4_breachesBy_X4_isBlocked : GoodIn wsX4_breachesBy (wsV RX4 291 RX4 yX4_isBlocked wsX4_isBlocked) := goodIn_app (goodIn_of _ (by decide +kernel)) ggX4_breachesBy_X4_isBlocked
theorem dX4_breachesBy_0 : decode cX4_breachesBy 0 = .ok (.iconst 0, 1) := by decide +kernel
theorem dX4_breachesBy_1 : decode cX4_breachesBy 1 = .ok (.istore_n 2, 1) := by decide +kernel
theorem dX4_breachesBy_2 : decode cX4_breachesBy 2 = .ok (.iconst 0, 1) := by decide +kernel
theorem dX4_breachesBy_3 : decode cX4_breachesBy 3 = .ok (.istore_n 3, 1) := by decide +kernel
theorem dX4_breachesBy_4 : decode cX4_breachesBy 4 = .ok (.iload_n 3, 1) := by decide +kernel
theorem dX4_breachesBy_5 : decode cX4_breachesBy 5 = .ok (.bipush 16, 2) := by decide +kernel
theorem dX4_breachesBy_7 : decode cX4_breachesBy 7 = .ok (.if_icmp .ge 39, 3) := by decide +kernel
theorem dX4_breachesBy_10 : decode cX4_breachesBy 10 = .ok (.aload_n 0, 1) := by decide +kernel
theorem dX4_breachesBy_11 : decode cX4_breachesBy 11 = .ok (.aload_n 1, 1) := by decide +kernel
theorem dX4_breachesBy_12 : decode cX4_breachesBy 12 = .ok (.iload_n 3, 1) := by decide +kernel
theorem dX4_breachesBy_13 : decode cX4_breachesBy 13 = .ok (.invokevirtual 285, 3) := by decide +kernel
theorem dX4_breachesBy_16 : decode cX4_breachesBy 16 = .ok (.ifCond .eq 24, 3) := by decide +kernel
theorem dX4_breachesBy_19 : decode cX4_breachesBy 19 = .ok (.aload_n 0, 1) := by decide +kernel
theorem dX4_breachesBy_20 : decode cX4_breachesBy 20 = .ok (.aload_n 1, 1) := by decide +kernel
theorem dX4_breachesBy_21 : decode cX4_breachesBy 21 = .ok (.iload_n 3, 1) := by decide +kernel
theorem dX4_breachesBy_22 : decode cX4_breachesBy 22 = .ok (.invokevirtual 288, 3) := by decide +kernel
theorem dX4_breachesBy_25 : decode cX4_breachesBy 25 = .ok (.ifCond .eq 15, 3) := by decide +kernel
theorem dX4_breachesBy_28 : decode cX4_breachesBy 28 = .ok (.aload_n 0, 1) := by decide +kernel
theorem dX4_breachesBy_29 : decode cX4_breachesBy 29 = .ok (.aload_n 1, 1) := by decide +kernel
theorem dX4_breachesBy_30 : decode cX4_breachesBy 30 = .ok (.iload_n 3, 1) := by decide +kernel
theorem dX4_breachesBy_31 : decode cX4_breachesBy 31 = .ok (.invokevirtual 291, 3) := by decide +kernel
theorem dX4_breachesBy_34 : decode cX4_breachesBy 34 = .ok (.ifCond .ne 6, 3) := by decide +kernel
theorem dX4_breachesBy_37 : decode cX4_breachesBy 37 = .ok (.iinc 2 1, 3) := by decide +kernel
theorem dX4_breachesBy_40 : decode cX4_breachesBy 40 = .ok (.iinc 3 1, 3) := by decide +kernel
theorem dX4_breachesBy_43 : decode cX4_breachesBy 43 = .ok (.goto (-39), 3) := by decide +kernel
theorem dX4_breachesBy_46 : decode cX4_breachesBy 46 = .ok (.iload_n 2, 1) := by decide +kernel
theorem dX4_breachesBy_47 : decode cX4_breachesBy 47 = .ok (.ireturn, 1) := by decide +kernel
set_option maxRecDepth 20000 in
theorem ggX4_lightFrom_X4_isAimedAt : GoodIn wsX4_lightFrom wsX4_isAimedAt := goodIn_r _ [6, 7, 39, 40, 41, 42, 43, 44, 45, 46, 47, 48, 49, 50, 51, 52, 53, 54, 55, 56, 57, 58, 59, 60, 61, 62, 63, 64] (by decide +kernel) (by decide +kernel)
set_option maxRecDepth 20000 in
theorem gX4_lightFrom_X4_isAimedAt : GoodIn wsX4_lightFrom (wsV RX4 285 RX4 yX4_isAimedAt wsX4_isAimedAt) := goodIn_app (goodIn_of _ (by decide +kernel)) ggX4_lightFrom_X4_isAimedAt
set_option maxRecDepth 20000 in
theorem ggX4_lightFrom_X4_isBlocked : GoodIn wsX4_lightFrom wsX4_isBlocked := goodIn_r _ [11, 1, 12, 13, 14, 15, 16, 17, 5, 18, 19, 20, 21, 22, 23, 24, 25, 26, 27, 28, 29, 30, 31, 32, 33, 34, 49, 50, 51, 52, 53, 54, 55, 56, 57, 58, 59, 60, 61, 62, 63, 64, 39, 40, 41, 42, 43, 44, 45, 46, 47, 48, 65, 66, 67] (by decide +kernel) (by decide +kernel)
set_option maxRecDepth 20000 in
theorem gX4_lightFrom_X4_isBlocked : GoodIn wsX4_lightFrom (wsV RX4 291 RX4 yX4_isBlocked wsX4_isBlocked) := goodIn_app (goodIn_of _ (by decide +kernel)) ggX4_lightFrom_X4_isBlocked
set_option maxRecDepth 20000 in
theorem ggX4_lightFrom_X2_reliefOf : GoodIn wsX4_lightFrom wsX2_reliefOf := goodIn_r _ [15, 16, 17, 5, 18, 65, 66, 67] (by decide +kernel) (by decide +kernel)
set_option maxRecDepth 20000 in
theorem gX4_lightFrom_X2_reliefOf_n269 : GoodIn wsX4_lightFrom (wsX2_reliefOf) := ggX4_lightFrom_X2_reliefOf
set_option maxRecDepth 20000 in
theorem ggX4_lightFrom_X2_hundredthsOf : GoodIn wsX4_lightFrom wsX2_hundredthsOf := goodIn_r _ [37, 38, 17, 5, 18, 65, 66, 67] (by decide +kernel) (by decide +kernel)
set_option maxRecDepth 20000 in
theorem gX4_lightFrom_X2_hundredthsOf_n294 : GoodIn wsX4_lightFrom (wsX2_hundredthsOf) := ggX4_lightFrom_X2_hundredthsOf
theorem dX4_lightFrom_0 : decode cX4_lightFrom 0 = .ok (.aload_n 0, 1) := by decide +kernel
theorem dX4_lightFrom_1 : decode cX4_lightFrom 1 = .ok (.aload_n 1, 1) := by decide +kernel
theorem dX4_lightFrom_2 : decode cX4_lightFrom 2 = .ok (.iload_n 2, 1) := by decide +kernel
theorem dX4_lightFrom_3 : decode cX4_lightFrom 3 = .ok (.invokevirtual 285, 3) := by decide +kernel
theorem dX4_lightFrom_6 : decode cX4_lightFrom 6 = .ok (.ifCond .eq 12, 3) := by decide +kernel
theorem dX4_lightFrom_9 : decode cX4_lightFrom 9 = .ok (.aload_n 0, 1) := by decide +kernel
theorem dX4_lightFrom_10 : decode cX4_lightFrom 10 = .ok (.aload_n 1, 1) := by decide +kernel
theorem dX4_lightFrom_11 : decode cX4_lightFrom 11 = .ok (.iload_n 2, 1) := by decide +kernel
theorem dX4_lightFrom_12 : decode cX4_lightFrom 12 = .ok (.invokevirtual 291, 3) := by decide +kernel
theorem dX4_lightFrom_15 : decode cX4_lightFrom 15 = .ok (.ifCond .eq 5, 3) := by decide +kernel
theorem dX4_lightFrom_18 : decode cX4_lightFrom 18 = .ok (.iconst 0, 1) := by decide +kernel
theorem dX4_lightFrom_19 : decode cX4_lightFrom 19 = .ok (.ireturn, 1) := by decide +kernel
theorem dX4_lightFrom_20 : decode cX4_lightFrom 20 = .ok (.iload_n 2, 1) := by decide +kernel
theorem dX4_lightFrom_21 : decode cX4_lightFrom 21 = .ok (.aload_n 1, 1) := by decide +kernel
theorem dX4_lightFrom_22 : decode cX4_lightFrom 22 = .ok (.getfield 275, 3) := by decide +kernel
theorem dX4_lightFrom_25 : decode cX4_lightFrom 25 = .ok (.isub, 1) := by decide +kernel
theorem dX4_lightFrom_26 : decode cX4_lightFrom 26 = .ok (.istore_n 3, 1) := by decide +kernel
theorem dX4_lightFrom_27 : decode cX4_lightFrom 27 = .ok (.aload_n 1, 1) := by decide +kernel
theorem dX4_lightFrom_28 : decode cX4_lightFrom 28 = .ok (.getfield 272, 3) := by decide +kernel
theorem dX4_lightFrom_31 : decode cX4_lightFrom 31 = .ok (.aload_n 0, 1) := by decide +kernel
theorem dX4_lightFrom_32 : decode cX4_lightFrom 32 = .ok (.getfield 10, 3) := by decide +kernel
theorem dX4_lightFrom_35 : decode cX4_lightFrom 35 = .ok (.iload_n 2, 1) := by decide +kernel
theorem dX4_lightFrom_36 : decode cX4_lightFrom 36 = .ok (.invokevirtual 269, 3) := by decide +kernel
theorem dX4_lightFrom_39 : decode cX4_lightFrom 39 = .ok (.isub, 1) := by decide +kernel
theorem dX4_lightFrom_40 : decode cX4_lightFrom 40 = .ok (.istore 4, 2) := by decide +kernel
theorem dX4_lightFrom_42 : decode cX4_lightFrom 42 = .ok (.iload_n 3, 1) := by decide +kernel
theorem dX4_lightFrom_43 : decode cX4_lightFrom 43 = .ok (.iload_n 3, 1) := by decide +kernel
theorem dX4_lightFrom_44 : decode cX4_lightFrom 44 = .ok (.imul, 1) := by decide +kernel
theorem dX4_lightFrom_45 : decode cX4_lightFrom 45 = .ok (.iload 4, 2) := by decide +kernel
theorem dX4_lightFrom_47 : decode cX4_lightFrom 47 = .ok (.iload 4, 2) := by decide +kernel
theorem dX4_lightFrom_49 : decode cX4_lightFrom 49 = .ok (.imul, 1) := by decide +kernel
theorem dX4_lightFrom_50 : decode cX4_lightFrom 50 = .ok (.iadd, 1) := by decide +kernel
theorem dX4_lightFrom_51 : decode cX4_lightFrom 51 = .ok (.istore 5, 2) := by decide +kernel
theorem dX4_lightFrom_53 : decode cX4_lightFrom 53 = .ok (.iload 5, 2) := by decide +kernel
theorem dX4_lightFrom_55 : decode cX4_lightFrom 55 = .ok (.iconst 1, 1) := by decide +kernel
theorem dX4_lightFrom_56 : decode cX4_lightFrom 56 = .ok (.if_icmp .ge 5, 3) := by decide +kernel
theorem dX4_lightFrom_59 : decode cX4_lightFrom 59 = .ok (.iconst 0, 1) := by decide +kernel
theorem dX4_lightFrom_60 : decode cX4_lightFrom 60 = .ok (.ireturn, 1) := by decide +kernel
theorem dX4_lightFrom_61 : decode cX4_lightFrom 61 = .ok (.bipush 100, 2) := by decide +kernel
theorem dX4_lightFrom_63 : decode cX4_lightFrom 63 = .ok (.aload_n 1, 1) := by decide +kernel
theorem dX4_lightFrom_64 : decode cX4_lightFrom 64 = .ok (.getfield 162, 3) := by decide +kernel
theorem dX4_lightFrom_67 : decode cX4_lightFrom 67 = .ok (.imul, 1) := by decide +kernel
theorem dX4_lightFrom_68 : decode cX4_lightFrom 68 = .ok (.iload 5, 2) := by decide +kernel
theorem dX4_lightFrom_70 : decode cX4_lightFrom 70 = .ok (.idiv, 1) := by decide +kernel
theorem dX4_lightFrom_71 : decode cX4_lightFrom 71 = .ok (.aload_n 0, 1) := by decide +kernel
theorem dX4_lightFrom_72 : decode cX4_lightFrom 72 = .ok (.getfield 10, 3) := by decide +kernel
theorem dX4_lightFrom_75 : decode cX4_lightFrom 75 = .ok (.iload_n 2, 1) := by decide +kernel
theorem dX4_lightFrom_76 : decode cX4_lightFrom 76 = .ok (.invokevirtual 294, 3) := by decide +kernel
theorem dX4_lightFrom_79 : decode cX4_lightFrom 79 = .ok (.imul, 1) := by decide +kernel
theorem dX4_lightFrom_80 : decode cX4_lightFrom 80 = .ok (.bipush 100, 2) := by decide +kernel
theorem dX4_lightFrom_82 : decode cX4_lightFrom 82 = .ok (.idiv, 1) := by decide +kernel
theorem dX4_lightFrom_83 : decode cX4_lightFrom 83 = .ok (.ireturn, 1) := by decide +kernel
set_option maxRecDepth 20000 in
theorem ggX4_isInFocus_X2_reliefOf : GoodIn wsX4_isInFocus wsX2_reliefOf := goodIn_r _ [5, 6, 7, 8, 9, 36, 37, 38] (by decide +kernel) (by decide +kernel)
set_option maxRecDepth 20000 in
theorem gX4_isInFocus_X2_reliefOf_n269 : GoodIn wsX4_isInFocus (wsX2_reliefOf) := ggX4_isInFocus_X2_reliefOf
theorem dX4_isInFocus_0 : decode cX4_isInFocus 0 = .ok (.aload_n 1, 1) := by decide +kernel
theorem dX4_isInFocus_1 : decode cX4_isInFocus 1 = .ok (.getfield 272, 3) := by decide +kernel
theorem dX4_isInFocus_4 : decode cX4_isInFocus 4 = .ok (.aload_n 0, 1) := by decide +kernel
theorem dX4_isInFocus_5 : decode cX4_isInFocus 5 = .ok (.getfield 10, 3) := by decide +kernel
theorem dX4_isInFocus_8 : decode cX4_isInFocus 8 = .ok (.iload_n 2, 1) := by decide +kernel
theorem dX4_isInFocus_9 : decode cX4_isInFocus 9 = .ok (.invokevirtual 269, 3) := by decide +kernel
theorem dX4_isInFocus_12 : decode cX4_isInFocus 12 = .ok (.isub, 1) := by decide +kernel
theorem dX4_isInFocus_13 : decode cX4_isInFocus 13 = .ok (.aload_n 1, 1) := by decide +kernel
theorem dX4_isInFocus_14 : decode cX4_isInFocus 14 = .ok (.getfield 297, 3) := by decide +kernel
theorem dX4_isInFocus_17 : decode cX4_isInFocus 17 = .ok (.isub, 1) := by decide +kernel
theorem dX4_isInFocus_18 : decode cX4_isInFocus 18 = .ok (.istore_n 3, 1) := by decide +kernel
theorem dX4_isInFocus_19 : decode cX4_isInFocus 19 = .ok (.iload_n 3, 1) := by decide +kernel
theorem dX4_isInFocus_20 : decode cX4_isInFocus 20 = .ok (.iconst (-1), 1) := by decide +kernel
theorem dX4_isInFocus_21 : decode cX4_isInFocus 21 = .ok (.if_icmp .lt 12, 3) := by decide +kernel
theorem dX4_isInFocus_24 : decode cX4_isInFocus 24 = .ok (.iload_n 3, 1) := by decide +kernel
theorem dX4_isInFocus_25 : decode cX4_isInFocus 25 = .ok (.iconst 1, 1) := by decide +kernel
theorem dX4_isInFocus_26 : decode cX4_isInFocus 26 = .ok (.if_icmp .gt 7, 3) := by decide +kernel
theorem dX4_isInFocus_29 : decode cX4_isInFocus 29 = .ok (.iconst 1, 1) := by decide +kernel
theorem dX4_isInFocus_30 : decode cX4_isInFocus 30 = .ok (.goto 4, 3) := by decide +kernel
theorem dX4_isInFocus_33 : decode cX4_isInFocus 33 = .ok (.iconst 0, 1) := by decide +kernel
theorem dX4_isInFocus_34 : decode cX4_isInFocus 34 = .ok (.ireturn, 1) := by decide +kernel
set_option maxRecDepth 20000 in
theorem ggX4_lightOf_X4_find : GoodIn wsX4_lightOf wsX4_find := goodIn_r _ [5, 6, 7, 55, 56, 57, 58, 59, 60, 61, 62, 63, 64, 65, 66, 67, 68, 69, 70] (by decide +kernel) (by decide +kernel)
set_option maxRecDepth 20000 in
theorem gX4_lightOf_X4_find : GoodIn wsX4_lightOf (wsV RX4 137 RX4 yX4_find wsX4_find) := goodIn_app (goodIn_of _ (by decide +kernel)) ggX4_lightOf_X4_find
set_option maxRecDepth 20000 in
theorem ggX4_lightOf_X0_shines : GoodIn wsX4_lightOf wsX0_shines := goodIn_r _ [11, 12, 13, 71, 72, 73, 74, 75, 76, 77, 78, 79, 80] (by decide +kernel) (by decide +kernel)
set_option maxRecDepth 20000 in
theorem gX4_lightOf_X0_shines_n193 : GoodIn wsX4_lightOf (wsX0_shines) := ggX4_lightOf_X0_shines
set_option maxRecDepth 20000 in
theorem ggX4_lightOf_X4_lightFrom : GoodIn wsX4_lightOf wsX4_lightFrom := goodIn_r _ [17, 18, 19, 20, 21, 4, 22, 23, 24, 25, 26, 27, 28, 29, 30, 31, 32, 33, 34, 35, 36, 37, 38, 39, 40, 41, 42, 43, 44, 45, 46, 47, 48, 49, 50, 51, 52, 53, 54, 71, 72, 73, 74, 75, 76, 77, 78, 79, 80, 55, 56, 57, 58, 59, 60, 61, 62, 63, 64, 65, 66, 67, 68, 69, 70, 81, 82, 83] (by decide +kernel) (by decide +kernel)
set_option maxRecDepth 20000 in
theorem gX4_lightOf_X4_lightFrom : GoodIn wsX4_lightOf (wsV RX4 182 RX4 yX4_lightFrom wsX4_lightFrom) := goodIn_app (goodIn_of _ (by decide +kernel)) ggX4_lightOf_X4_lightFrom
theorem dX4_lightOf_0 : decode cX4_lightOf 0 = .ok (.iconst 0, 1) := by decide +kernel
theorem dX4_lightOf_1 : decode cX4_lightOf 1 = .ok (.istore_n 2, 1) := by decide +kernel
theorem dX4_lightOf_2 : decode cX4_lightOf 2 = .ok (.iconst 0, 1) := by decide +kernel
theorem dX4_lightOf_3 : decode cX4_lightOf 3 = .ok (.istore_n 3, 1) := by decide +kernel
theorem dX4_lightOf_4 : decode cX4_lightOf 4 = .ok (.iload_n 3, 1) := by decide +kernel
theorem dX4_lightOf_5 : decode cX4_lightOf 5 = .ok (.bipush 10, 2) := by decide +kernel
theorem dX4_lightOf_7 : decode cX4_lightOf 7 = .ok (.if_icmp .ge 39, 3) := by decide +kernel
theorem dX4_lightOf_10 : decode cX4_lightOf 10 = .ok (.aload_n 0, 1) := by decide +kernel
theorem dX4_lightOf_11 : decode cX4_lightOf 11 = .ok (.iload_n 3, 1) := by decide +kernel
theorem dX4_lightOf_12 : decode cX4_lightOf 12 = .ok (.invokevirtual 137, 3) := by decide +kernel
theorem dX4_lightOf_15 : decode cX4_lightOf 15 = .ok (.astore 4, 2) := by decide +kernel
theorem dX4_lightOf_17 : decode cX4_lightOf 17 = .ok (.aload 4, 2) := by decide +kernel
theorem dX4_lightOf_19 : decode cX4_lightOf 19 = .ok (.ifnull 21, 3) := by decide +kernel
theorem dX4_lightOf_22 : decode cX4_lightOf 22 = .ok (.aload 4, 2) := by decide +kernel
theorem dX4_lightOf_24 : decode cX4_lightOf 24 = .ok (.invokevirtual 193, 3) := by decide +kernel
theorem dX4_lightOf_27 : decode cX4_lightOf 27 = .ok (.ifCond .eq 13, 3) := by decide +kernel
theorem dX4_lightOf_30 : decode cX4_lightOf 30 = .ok (.iload_n 2, 1) := by decide +kernel
theorem dX4_lightOf_31 : decode cX4_lightOf 31 = .ok (.aload_n 0, 1) := by decide +kernel
theorem dX4_lightOf_32 : decode cX4_lightOf 32 = .ok (.aload 4, 2) := by decide +kernel
theorem dX4_lightOf_34 : decode cX4_lightOf 34 = .ok (.iload_n 1, 1) := by decide +kernel
theorem dX4_lightOf_35 : decode cX4_lightOf 35 = .ok (.invokevirtual 182, 3) := by decide +kernel
theorem dX4_lightOf_38 : decode cX4_lightOf 38 = .ok (.iadd, 1) := by decide +kernel
theorem dX4_lightOf_39 : decode cX4_lightOf 39 = .ok (.istore_n 2, 1) := by decide +kernel
theorem dX4_lightOf_40 : decode cX4_lightOf 40 = .ok (.iinc 3 1, 3) := by decide +kernel
theorem dX4_lightOf_43 : decode cX4_lightOf 43 = .ok (.goto (-39), 3) := by decide +kernel
theorem dX4_lightOf_46 : decode cX4_lightOf 46 = .ok (.iload_n 2, 1) := by decide +kernel
theorem dX4_lightOf_47 : decode cX4_lightOf 47 = .ok (.ireturn, 1) := by decide +kernel
set_option maxRecDepth 20000 in
theorem ggX4_unfailedProjectors_X4_find : GoodIn wsX4_unfailedProjectors wsX4_find := goodIn_r _ [5, 6, 7, 18, 19, 20, 21, 22, 23, 24, 25, 26, 27, 28, 29, 30, 31, 32, 33] (by decide +kernel) (by decide +kernel)
set_option maxRecDepth 20000 in
theorem gX4_unfailedProjectors_X4_find : GoodIn wsX4_unfailedProjectors (wsV RX4 137 RX4 yX4_find wsX4_find) := goodIn_app (goodIn_of _ (by decide +kernel)) ggX4_unfailedProjectors_X4_find
theorem dX4_unfailedProjectors_0 : decode cX4_unfailedProjectors 0 = .ok (.iconst 0, 1) := by decide +kernel
theorem dX4_unfailedProjectors_1 : decode cX4_unfailedProjectors 1 = .ok (.istore_n 1, 1) := by decide +kernel
theorem dX4_unfailedProjectors_2 : decode cX4_unfailedProjectors 2 = .ok (.iconst 0, 1) := by decide +kernel
theorem dX4_unfailedProjectors_3 : decode cX4_unfailedProjectors 3 = .ok (.istore_n 2, 1) := by decide +kernel
theorem dX4_unfailedProjectors_4 : decode cX4_unfailedProjectors 4 = .ok (.iload_n 2, 1) := by decide +kernel
theorem dX4_unfailedProjectors_5 : decode cX4_unfailedProjectors 5 = .ok (.bipush 10, 2) := by decide +kernel
theorem dX4_unfailedProjectors_7 : decode cX4_unfailedProjectors 7 = .ok (.if_icmp .ge 32, 3) := by decide +kernel
theorem dX4_unfailedProjectors_10 : decode cX4_unfailedProjectors 10 = .ok (.aload_n 0, 1) := by decide +kernel
theorem dX4_unfailedProjectors_11 : decode cX4_unfailedProjectors 11 = .ok (.iload_n 2, 1) := by decide +kernel
theorem dX4_unfailedProjectors_12 : decode cX4_unfailedProjectors 12 = .ok (.invokevirtual 137, 3) := by decide +kernel
theorem dX4_unfailedProjectors_15 : decode cX4_unfailedProjectors 15 = .ok (.astore_n 3, 1) := by decide +kernel
theorem dX4_unfailedProjectors_16 : decode cX4_unfailedProjectors 16 = .ok (.aload_n 3, 1) := by decide +kernel
theorem dX4_unfailedProjectors_17 : decode cX4_unfailedProjectors 17 = .ok (.ifnull 16, 3) := by decide +kernel
theorem dX4_unfailedProjectors_20 : decode cX4_unfailedProjectors 20 = .ok (.aload_n 3, 1) := by decide +kernel
theorem dX4_unfailedProjectors_21 : decode cX4_unfailedProjectors 21 = .ok (.getfield 170, 3) := by decide +kernel
theorem dX4_unfailedProjectors_24 : decode cX4_unfailedProjectors 24 = .ok (.ifCond .ne 9, 3) := by decide +kernel
theorem dX4_unfailedProjectors_27 : decode cX4_unfailedProjectors 27 = .ok (.iload_n 1, 1) := by decide +kernel
theorem dX4_unfailedProjectors_28 : decode cX4_unfailedProjectors 28 = .ok (.iconst 1, 1) := by decide +kernel
theorem dX4_unfailedProjectors_29 : decode cX4_unfailedProjectors 29 = .ok (.iload_n 2, 1) := by decide +kernel
theorem dX4_unfailedProjectors_30 : decode cX4_unfailedProjectors 30 = .ok (.ishl, 1) := by decide +kernel
theorem dX4_unfailedProjectors_31 : decode cX4_unfailedProjectors 31 = .ok (.ior, 1) := by decide +kernel
theorem dX4_unfailedProjectors_32 : decode cX4_unfailedProjectors 32 = .ok (.istore_n 1, 1) := by decide +kernel
theorem dX4_unfailedProjectors_33 : decode cX4_unfailedProjectors 33 = .ok (.iinc 2 1, 3) := by decide +kernel
theorem dX4_unfailedProjectors_36 : decode cX4_unfailedProjectors 36 = .ok (.goto (-32), 3) := by decide +kernel
theorem dX4_unfailedProjectors_39 : decode cX4_unfailedProjectors 39 = .ok (.iload_n 1, 1) := by decide +kernel
theorem dX4_unfailedProjectors_40 : decode cX4_unfailedProjectors 40 = .ok (.ireturn, 1) := by decide +kernel
set_option maxRecDepth 20000 in
theorem ggX4_surveyLights_X4_find : GoodIn wsX4_surveyLights wsX4_find := goodIn_r _ [6, 7, 8, 73, 74, 75, 76, 77, 78, 79, 80, 81, 82, 83, 84, 85, 86, 87, 88] (by decide +kernel) (by decide +kernel)
set_option maxRecDepth 20000 in
theorem gX4_surveyLights_X4_find : GoodIn wsX4_surveyLights (wsV RX4 137 RX4 yX4_find wsX4_find) := goodIn_app (goodIn_of _ (by decide +kernel)) ggX4_surveyLights_X4_find
set_option maxRecDepth 20000 in
theorem ggX4_surveyLights_X3_note : GoodIn wsX4_surveyLights wsX3_note := goodIn_r _ [12, 13, 14, 15, 16, 10, 17, 18, 5, 19, 89, 90] (by decide +kernel) (by decide +kernel)
set_option maxRecDepth 20000 in
theorem gX4_surveyLights_X3_note_n300 : GoodIn wsX4_surveyLights (wsX3_note) := ggX4_surveyLights_X3_note
set_option maxRecDepth 20000 in
theorem ggX4_surveyLights_X4_lightFrom : GoodIn wsX4_surveyLights wsX4_lightFrom := goodIn_r _ [23, 24, 25, 26, 27, 5, 28, 29, 30, 31, 32, 33, 34, 35, 36, 37, 38, 18, 19, 39, 40, 41, 42, 43, 44, 45, 46, 47, 48, 49, 50, 51, 52, 53, 54, 55, 56, 57, 58, 63, 64, 65, 66, 67, 68, 69, 70, 71, 72, 73, 74, 75, 76, 77, 78, 79, 80, 81, 82, 83, 84, 85, 86, 87, 88, 91, 92, 93] (by decide +kernel) (by decide +kernel)
set_option maxRecDepth 20000 in
theorem gX4_surveyLights_X4_lightFrom : GoodIn wsX4_surveyLights (wsV RX4 182 RX4 yX4_lightFrom wsX4_lightFrom) := goodIn_app (goodIn_of _ (by decide +kernel)) ggX4_surveyLights_X4_lightFrom
set_option maxRecDepth 20000 in
theorem ggX4_surveyLights_X4_isInFocus : GoodIn wsX4_surveyLights wsX4_isInFocus := goodIn_r _ [62, 24, 34, 35, 36, 37, 38, 18, 5, 19, 63, 64, 65, 66, 67, 68, 69, 70, 71, 72, 73, 74, 75, 76, 77, 78, 79, 80, 81, 82, 83, 84, 85, 86, 87, 88, 91, 92, 93] (by decide +kernel) (by decide +kernel)
set_option maxRecDepth 20000 in
theorem gX4_surveyLights_X4_isInFocus : GoodIn wsX4_surveyLights (wsV RX4 186 RX4 yX4_isInFocus wsX4_isInFocus) := goodIn_app (goodIn_of _ (by decide +kernel)) ggX4_surveyLights_X4_isInFocus
theorem dX4_surveyLights_0 : decode cX4_surveyLights 0 = .ok (.iconst 0, 1) := by decide +kernel
theorem dX4_surveyLights_1 : decode cX4_surveyLights 1 = .ok (.istore_n 1, 1) := by decide +kernel
theorem dX4_surveyLights_2 : decode cX4_surveyLights 2 = .ok (.iload_n 1, 1) := by decide +kernel
theorem dX4_surveyLights_3 : decode cX4_surveyLights 3 = .ok (.bipush 16, 2) := by decide +kernel
theorem dX4_surveyLights_5 : decode cX4_surveyLights 5 = .ok (.if_icmp .ge 75, 3) := by decide +kernel
theorem dX4_surveyLights_8 : decode cX4_surveyLights 8 = .ok (.iconst 0, 1) := by decide +kernel
theorem dX4_surveyLights_9 : decode cX4_surveyLights 9 = .ok (.istore_n 2, 1) := by decide +kernel
theorem dX4_surveyLights_10 : decode cX4_surveyLights 10 = .ok (.iload_n 2, 1) := by decide +kernel
theorem dX4_surveyLights_11 : decode cX4_surveyLights 11 = .ok (.bipush 10, 2) := by decide +kernel
theorem dX4_surveyLights_13 : decode cX4_surveyLights 13 = .ok (.if_icmp .ge 61, 3) := by decide +kernel
theorem dX4_surveyLights_16 : decode cX4_surveyLights 16 = .ok (.aload_n 0, 1) := by decide +kernel
theorem dX4_surveyLights_17 : decode cX4_surveyLights 17 = .ok (.iload_n 2, 1) := by decide +kernel
theorem dX4_surveyLights_18 : decode cX4_surveyLights 18 = .ok (.invokevirtual 137, 3) := by decide +kernel
theorem dX4_surveyLights_21 : decode cX4_surveyLights 21 = .ok (.astore_n 3, 1) := by decide +kernel
theorem dX4_surveyLights_22 : decode cX4_surveyLights 22 = .ok (.aload_n 3, 1) := by decide +kernel
theorem dX4_surveyLights_23 : decode cX4_surveyLights 23 = .ok (.ifnull 10, 3) := by decide +kernel
theorem dX4_surveyLights_26 : decode cX4_surveyLights 26 = .ok (.aload_n 3, 1) := by decide +kernel
theorem dX4_surveyLights_27 : decode cX4_surveyLights 27 = .ok (.getfield 170, 3) := by decide +kernel
theorem dX4_surveyLights_30 : decode cX4_surveyLights 30 = .ok (.ifCond .eq 17, 3) := by decide +kernel
theorem dX4_surveyLights_33 : decode cX4_surveyLights 33 = .ok (.aload_n 0, 1) := by decide +kernel
theorem dX4_surveyLights_34 : decode cX4_surveyLights 34 = .ok (.getfield 42, 3) := by decide +kernel
theorem dX4_surveyLights_37 : decode cX4_surveyLights 37 = .ok (.iload_n 1, 1) := by decide +kernel
theorem dX4_surveyLights_38 : decode cX4_surveyLights 38 = .ok (.iload_n 2, 1) := by decide +kernel
theorem dX4_surveyLights_39 : decode cX4_surveyLights 39 = .ok (.iconst 0, 1) := by decide +kernel
theorem dX4_surveyLights_40 : decode cX4_surveyLights 40 = .ok (.iconst 1, 1) := by decide +kernel
theorem dX4_surveyLights_41 : decode cX4_surveyLights 41 = .ok (.invokevirtual 300, 3) := by decide +kernel
theorem dX4_surveyLights_44 : decode cX4_surveyLights 44 = .ok (.goto 24, 3) := by decide +kernel
theorem dX4_surveyLights_47 : decode cX4_surveyLights 47 = .ok (.aload_n 0, 1) := by decide +kernel
theorem dX4_surveyLights_48 : decode cX4_surveyLights 48 = .ok (.getfield 42, 3) := by decide +kernel
theorem dX4_surveyLights_51 : decode cX4_surveyLights 51 = .ok (.iload_n 1, 1) := by decide +kernel
theorem dX4_surveyLights_52 : decode cX4_surveyLights 52 = .ok (.iload_n 2, 1) := by decide +kernel
theorem dX4_surveyLights_53 : decode cX4_surveyLights 53 = .ok (.aload_n 0, 1) := by decide +kernel
theorem dX4_surveyLights_54 : decode cX4_surveyLights 54 = .ok (.aload_n 3, 1) := by decide +kernel
theorem dX4_surveyLights_55 : decode cX4_surveyLights 55 = .ok (.iload_n 1, 1) := by decide +kernel
theorem dX4_surveyLights_56 : decode cX4_surveyLights 56 = .ok (.invokevirtual 182, 3) := by decide +kernel
theorem dX4_surveyLights_59 : decode cX4_surveyLights 59 = .ok (.aload_n 0, 1) := by decide +kernel
theorem dX4_surveyLights_60 : decode cX4_surveyLights 60 = .ok (.aload_n 3, 1) := by decide +kernel
theorem dX4_surveyLights_61 : decode cX4_surveyLights 61 = .ok (.iload_n 1, 1) := by decide +kernel
theorem dX4_surveyLights_62 : decode cX4_surveyLights 62 = .ok (.invokevirtual 186, 3) := by decide +kernel
theorem dX4_surveyLights_65 : decode cX4_surveyLights 65 = .ok (.invokevirtual 300, 3) := by decide +kernel
theorem dX4_surveyLights_68 : decode cX4_surveyLights 68 = .ok (.iinc 2 1, 3) := by decide +kernel
theorem dX4_surveyLights_71 : decode cX4_surveyLights 71 = .ok (.goto (-61), 3) := by decide +kernel
theorem dX4_surveyLights_74 : decode cX4_surveyLights 74 = .ok (.iinc 1 1, 3) := by decide +kernel
theorem dX4_surveyLights_77 : decode cX4_surveyLights 77 = .ok (.goto (-75), 3) := by decide +kernel
theorem dX4_surveyLights_80 : decode cX4_surveyLights 80 = .ok (.return_, 1) := by decide +kernel
theorem dX4_isCurfewNow_0 : decode cX4_isCurfewNow 0 = .ok (.aload_n 0, 1) := by decide +kernel
theorem dX4_isCurfewNow_1 : decode cX4_isCurfewNow 1 = .ok (.getfield 72, 3) := by decide +kernel
theorem dX4_isCurfewNow_4 : decode cX4_isCurfewNow 4 = .ok (.sipush 1440, 3) := by decide +kernel
theorem dX4_isCurfewNow_7 : decode cX4_isCurfewNow 7 = .ok (.irem, 1) := by decide +kernel
theorem dX4_isCurfewNow_8 : decode cX4_isCurfewNow 8 = .ok (.istore_n 1, 1) := by decide +kernel
theorem dX4_isCurfewNow_9 : decode cX4_isCurfewNow 9 = .ok (.iload_n 1, 1) := by decide +kernel
theorem dX4_isCurfewNow_10 : decode cX4_isCurfewNow 10 = .ok (.aload_n 0, 1) := by decide +kernel
theorem dX4_isCurfewNow_11 : decode cX4_isCurfewNow 11 = .ok (.getfield 46, 3) := by decide +kernel
theorem dX4_isCurfewNow_14 : decode cX4_isCurfewNow 14 = .ok (.if_icmp .lt 15, 3) := by decide +kernel
theorem dX4_isCurfewNow_17 : decode cX4_isCurfewNow 17 = .ok (.iload_n 1, 1) := by decide +kernel
theorem dX4_isCurfewNow_18 : decode cX4_isCurfewNow 18 = .ok (.aload_n 0, 1) := by decide +kernel
theorem dX4_isCurfewNow_19 : decode cX4_isCurfewNow 19 = .ok (.getfield 49, 3) := by decide +kernel
theorem dX4_isCurfewNow_22 : decode cX4_isCurfewNow 22 = .ok (.if_icmp .ge 7, 3) := by decide +kernel
theorem dX4_isCurfewNow_25 : decode cX4_isCurfewNow 25 = .ok (.iconst 1, 1) := by decide +kernel
theorem dX4_isCurfewNow_26 : decode cX4_isCurfewNow 26 = .ok (.goto 4, 3) := by decide +kernel
theorem dX4_isCurfewNow_29 : decode cX4_isCurfewNow 29 = .ok (.iconst 0, 1) := by decide +kernel
theorem dX4_isCurfewNow_30 : decode cX4_isCurfewNow 30 = .ok (.ireturn, 1) := by decide +kernel
set_option maxRecDepth 20000 in
theorem ggX4_lastFrameOfAll_X4_find : GoodIn wsX4_lastFrameOfAll wsX4_find := goodIn_r _ [5, 6, 7, 24, 25, 26, 27, 28, 29, 30, 31, 32, 33, 34, 35, 36, 37, 38, 39] (by decide +kernel) (by decide +kernel)
set_option maxRecDepth 20000 in
theorem gX4_lastFrameOfAll_X4_find : GoodIn wsX4_lastFrameOfAll (wsV RX4 137 RX4 yX4_find wsX4_find) := goodIn_app (goodIn_of _ (by decide +kernel)) ggX4_lastFrameOfAll_X4_find
set_option maxRecDepth 20000 in
theorem ggX4_lastFrameOfAll_X0_shines : GoodIn wsX4_lastFrameOfAll wsX0_shines := goodIn_r _ [11, 12, 13, 14, 15, 16, 17, 18, 19, 20, 21, 22, 23] (by decide +kernel) (by decide +kernel)
set_option maxRecDepth 20000 in
theorem gX4_lastFrameOfAll_X0_shines_n193 : GoodIn wsX4_lastFrameOfAll (wsX0_shines) := ggX4_lastFrameOfAll_X0_shines
theorem dX4_lastFrameOfAll_0 : decode cX4_lastFrameOfAll 0 = .ok (.iconst (-1), 1) := by decide +kernel
theorem dX4_lastFrameOfAll_1 : decode cX4_lastFrameOfAll 1 = .ok (.istore_n 1, 1) := by decide +kernel
theorem dX4_lastFrameOfAll_2 : decode cX4_lastFrameOfAll 2 = .ok (.iconst 0, 1) := by decide +kernel
theorem dX4_lastFrameOfAll_3 : decode cX4_lastFrameOfAll 3 = .ok (.istore_n 2, 1) := by decide +kernel
theorem dX4_lastFrameOfAll_4 : decode cX4_lastFrameOfAll 4 = .ok (.iload_n 2, 1) := by decide +kernel
theorem dX4_lastFrameOfAll_5 : decode cX4_lastFrameOfAll 5 = .ok (.bipush 10, 2) := by decide +kernel
theorem dX4_lastFrameOfAll_7 : decode cX4_lastFrameOfAll 7 = .ok (.if_icmp .ge 44, 3) := by decide +kernel
theorem dX4_lastFrameOfAll_10 : decode cX4_lastFrameOfAll 10 = .ok (.aload_n 0, 1) := by decide +kernel
theorem dX4_lastFrameOfAll_11 : decode cX4_lastFrameOfAll 11 = .ok (.iload_n 2, 1) := by decide +kernel
theorem dX4_lastFrameOfAll_12 : decode cX4_lastFrameOfAll 12 = .ok (.invokevirtual 137, 3) := by decide +kernel
theorem dX4_lastFrameOfAll_15 : decode cX4_lastFrameOfAll 15 = .ok (.astore_n 3, 1) := by decide +kernel
theorem dX4_lastFrameOfAll_16 : decode cX4_lastFrameOfAll 16 = .ok (.aload_n 3, 1) := by decide +kernel
theorem dX4_lastFrameOfAll_17 : decode cX4_lastFrameOfAll 17 = .ok (.ifnull 28, 3) := by decide +kernel
theorem dX4_lastFrameOfAll_20 : decode cX4_lastFrameOfAll 20 = .ok (.aload_n 3, 1) := by decide +kernel
theorem dX4_lastFrameOfAll_21 : decode cX4_lastFrameOfAll 21 = .ok (.invokevirtual 193, 3) := by decide +kernel
theorem dX4_lastFrameOfAll_24 : decode cX4_lastFrameOfAll 24 = .ok (.ifCond .eq 21, 3) := by decide +kernel
theorem dX4_lastFrameOfAll_27 : decode cX4_lastFrameOfAll 27 = .ok (.iload_n 1, 1) := by decide +kernel
theorem dX4_lastFrameOfAll_28 : decode cX4_lastFrameOfAll 28 = .ok (.iconst (-1), 1) := by decide +kernel
theorem dX4_lastFrameOfAll_29 : decode cX4_lastFrameOfAll 29 = .ok (.if_icmp .eq 11, 3) := by decide +kernel
theorem dX4_lastFrameOfAll_32 : decode cX4_lastFrameOfAll 32 = .ok (.aload_n 3, 1) := by decide +kernel
theorem dX4_lastFrameOfAll_33 : decode cX4_lastFrameOfAll 33 = .ok (.getfield 231, 3) := by decide +kernel
theorem dX4_lastFrameOfAll_36 : decode cX4_lastFrameOfAll 36 = .ok (.iload_n 1, 1) := by decide +kernel
theorem dX4_lastFrameOfAll_37 : decode cX4_lastFrameOfAll 37 = .ok (.if_icmp .ge 8, 3) := by decide +kernel
theorem dX4_lastFrameOfAll_40 : decode cX4_lastFrameOfAll 40 = .ok (.aload_n 3, 1) := by decide +kernel
theorem dX4_lastFrameOfAll_41 : decode cX4_lastFrameOfAll 41 = .ok (.getfield 231, 3) := by decide +kernel
theorem dX4_lastFrameOfAll_44 : decode cX4_lastFrameOfAll 44 = .ok (.istore_n 1, 1) := by decide +kernel
theorem dX4_lastFrameOfAll_45 : decode cX4_lastFrameOfAll 45 = .ok (.iinc 2 1, 3) := by decide +kernel
theorem dX4_lastFrameOfAll_48 : decode cX4_lastFrameOfAll 48 = .ok (.goto (-44), 3) := by decide +kernel
theorem dX4_lastFrameOfAll_51 : decode cX4_lastFrameOfAll 51 = .ok (.iload_n 1, 1) := by decide +kernel
theorem dX4_lastFrameOfAll_52 : decode cX4_lastFrameOfAll 52 = .ok (.ireturn, 1) := by decide +kernel
