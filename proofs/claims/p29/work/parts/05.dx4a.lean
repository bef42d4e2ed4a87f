set_option maxRecDepth 20000 in
theorem ggX4_init_X2_init : GoodIn wsX4_init wsX2_init := goodIn_r _ [32, 33, 2, 3, 11, 34, 35, 36, 47, 48, 49] (by decide +kernel) (by decide +kernel)
set_option maxRecDepth 20000 in
theorem gX4_init_X2_init_n9 : GoodIn wsX4_init (wsX2_init) := ggX4_init_X2_init
set_option maxRecDepth 20000 in
theorem ggX4_init_X3_init : GoodIn wsX4_init wsX3_init := goodIn_r _ [38, 39, 2, 3, 11, 40, 41, 66, 67] (by decide +kernel) (by decide +kernel)
set_option maxRecDepth 20000 in
theorem gX4_init_X3_init_n41 : GoodIn wsX4_init (wsX3_init) := ggX4_init_X3_init
set_option maxRecDepth 20000 in
theorem ggX4_init_X1_init : GoodIn wsX4_init wsX1_init := goodIn_r _ [43, 44, 2, 3, 45, 46, 68, 69] (by decide +kernel) (by decide +kernel)
set_option maxRecDepth 20000 in
theorem gX4_init_X1_init_n54 : GoodIn wsX4_init (wsX1_init) := ggX4_init_X1_init
theorem dX4_init_0 : decode cX4_init 0 = .ok (.aload_n 0, 1) := by decide +kernel
theorem dX4_init_1 : decode cX4_init 1 = .ok (.invokespecial 1, 3) := by decide +kernel
theorem dX4_init_4 : decode cX4_init 4 = .ok (.aload_n 0, 1) := by decide +kernel
theorem dX4_init_5 : decode cX4_init 5 = .ok (.new 7, 3) := by decide +kernel
theorem dX4_init_8 : decode cX4_init 8 = .ok (.dup, 1) := by decide +kernel
theorem dX4_init_9 : decode cX4_init 9 = .ok (.invokespecial 9, 3) := by decide +kernel
theorem dX4_init_12 : decode cX4_init 12 = .ok (.putfield 10, 3) := by decide +kernel
theorem dX4_init_15 : decode cX4_init 15 = .ok (.aload_n 0, 1) := by decide +kernel
theorem dX4_init_16 : decode cX4_init 16 = .ok (.bipush 10, 2) := by decide +kernel
theorem dX4_init_18 : decode cX4_init 18 = .ok (.anewarray 16, 3) := by decide +kernel
theorem dX4_init_21 : decode cX4_init 21 = .ok (.putfield 18, 3) := by decide +kernel
theorem dX4_init_24 : decode cX4_init 24 = .ok (.aload_n 0, 1) := by decide +kernel
theorem dX4_init_25 : decode cX4_init 25 = .ok (.iconst 0, 1) := by decide +kernel
theorem dX4_init_26 : decode cX4_init 26 = .ok (.putfield 22, 3) := by decide +kernel
theorem dX4_init_29 : decode cX4_init 29 = .ok (.aload_n 0, 1) := by decide +kernel
theorem dX4_init_30 : decode cX4_init 30 = .ok (.iconst 3, 1) := by decide +kernel
theorem dX4_init_31 : decode cX4_init 31 = .ok (.newarray .int, 2) := by decide +kernel
theorem dX4_init_33 : decode cX4_init 33 = .ok (.dup, 1) := by decide +kernel
theorem dX4_init_34 : decode cX4_init 34 = .ok (.iconst 0, 1) := by decide +kernel
theorem dX4_init_35 : decode cX4_init 35 = .ok (.sipush 9999, 3) := by decide +kernel
theorem dX4_init_38 : decode cX4_init 38 = .ok (.iastore, 1) := by decide +kernel
theorem dX4_init_39 : decode cX4_init 39 = .ok (.dup, 1) := by decide +kernel
theorem dX4_init_40 : decode cX4_init 40 = .ok (.iconst 1, 1) := by decide +kernel
theorem dX4_init_41 : decode cX4_init 41 = .ok (.sipush 9999, 3) := by decide +kernel
theorem dX4_init_44 : decode cX4_init 44 = .ok (.iastore, 1) := by decide +kernel
theorem dX4_init_45 : decode cX4_init 45 = .ok (.dup, 1) := by decide +kernel
theorem dX4_init_46 : decode cX4_init 46 = .ok (.iconst 2, 1) := by decide +kernel
theorem dX4_init_47 : decode cX4_init 47 = .ok (.sipush 9999, 3) := by decide +kernel
theorem dX4_init_50 : decode cX4_init 50 = .ok (.iastore, 1) := by decide +kernel
theorem dX4_init_51 : decode cX4_init 51 = .ok (.putfield 26, 3) := by decide +kernel
theorem dX4_init_54 : decode cX4_init 54 = .ok (.aload_n 0, 1) := by decide +kernel
theorem dX4_init_55 : decode cX4_init 55 = .ok (.iconst 0, 1) := by decide +kernel
theorem dX4_init_56 : decode cX4_init 56 = .ok (.putfield 30, 3) := by decide +kernel
theorem dX4_init_59 : decode cX4_init 59 = .ok (.aload_n 0, 1) := by decide +kernel
theorem dX4_init_60 : decode cX4_init 60 = .ok (.iconst 0, 1) := by decide +kernel
theorem dX4_init_61 : decode cX4_init 61 = .ok (.putfield 33, 3) := by decide +kernel
theorem dX4_init_64 : decode cX4_init 64 = .ok (.aload_n 0, 1) := by decide +kernel
theorem dX4_init_65 : decode cX4_init 65 = .ok (.bipush 100, 2) := by decide +kernel
theorem dX4_init_67 : decode cX4_init 67 = .ok (.putfield 36, 3) := by decide +kernel
theorem dX4_init_70 : decode cX4_init 70 = .ok (.aload_n 0, 1) := by decide +kernel
theorem dX4_init_71 : decode cX4_init 71 = .ok (.new 39, 3) := by decide +kernel
theorem dX4_init_74 : decode cX4_init 74 = .ok (.dup, 1) := by decide +kernel
theorem dX4_init_75 : decode cX4_init 75 = .ok (.invokespecial 41, 3) := by decide +kernel
theorem dX4_init_78 : decode cX4_init 78 = .ok (.putfield 42, 3) := by decide +kernel
theorem dX4_init_81 : decode cX4_init 81 = .ok (.aload_n 0, 1) := by decide +kernel
theorem dX4_init_82 : decode cX4_init 82 = .ok (.iconst 0, 1) := by decide +kernel
theorem dX4_init_83 : decode cX4_init 83 = .ok (.putfield 46, 3) := by decide +kernel
theorem dX4_init_86 : decode cX4_init 86 = .ok (.aload_n 0, 1) := by decide +kernel
theorem dX4_init_87 : decode cX4_init 87 = .ok (.iconst 0, 1) := by decide +kernel
theorem dX4_init_88 : decode cX4_init 88 = .ok (.putfield 49, 3) := by decide +kernel
theorem dX4_init_91 : decode cX4_init 91 = .ok (.aload_n 0, 1) := by decide +kernel
theorem dX4_init_92 : decode cX4_init 92 = .ok (.iconst 4, 1) := by decide +kernel
theorem dX4_init_93 : decode cX4_init 93 = .ok (.anewarray 52, 3) := by decide +kernel
theorem dX4_init_96 : decode cX4_init 96 = .ok (.dup, 1) := by decide +kernel
theorem dX4_init_97 : decode cX4_init 97 = .ok (.iconst 0, 1) := by decide +kernel
theorem dX4_init_98 : decode cX4_init 98 = .ok (.new 52, 3) := by decide +kernel
theorem dX4_init_101 : decode cX4_init 101 = .ok (.dup, 1) := by decide +kernel
theorem dX4_init_102 : decode cX4_init 102 = .ok (.invokespecial 54, 3) := by decide +kernel
theorem dX4_init_105 : decode cX4_init 105 = .ok (.aastore, 1) := by decide +kernel
theorem dX4_init_106 : decode cX4_init 106 = .ok (.dup, 1) := by decide +kernel
theorem dX4_init_107 : decode cX4_init 107 = .ok (.iconst 1, 1) := by decide +kernel
theorem dX4_init_108 : decode cX4_init 108 = .ok (.new 52, 3) := by decide +kernel
theorem dX4_init_111 : decode cX4_init 111 = .ok (.dup, 1) := by decide +kernel
theorem dX4_init_112 : decode cX4_init 112 = .ok (.invokespecial 54, 3) := by decide +kernel
theorem dX4_init_115 : decode cX4_init 115 = .ok (.aastore, 1) := by decide +kernel
theorem dX4_init_116 : decode cX4_init 116 = .ok (.dup, 1) := by decide +kernel
theorem dX4_init_117 : decode cX4_init 117 = .ok (.iconst 2, 1) := by decide +kernel
theorem dX4_init_118 : decode cX4_init 118 = .ok (.new 52, 3) := by decide +kernel
theorem dX4_init_121 : decode cX4_init 121 = .ok (.dup, 1) := by decide +kernel
theorem dX4_init_122 : decode cX4_init 122 = .ok (.invokespecial 54, 3) := by decide +kernel
theorem dX4_init_125 : decode cX4_init 125 = .ok (.aastore, 1) := by decide +kernel
theorem dX4_init_126 : decode cX4_init 126 = .ok (.dup, 1) := by decide +kernel
theorem dX4_init_127 : decode cX4_init 127 = .ok (.iconst 3, 1) := by decide +kernel
theorem dX4_init_128 : decode cX4_init 128 = .ok (.new 52, 3) := by decide +kernel
theorem dX4_init_131 : decode cX4_init 131 = .ok (.dup, 1) := by decide +kernel
theorem dX4_init_132 : decode cX4_init 132 = .ok (.invokespecial 54, 3) := by decide +kernel
theorem dX4_init_135 : decode cX4_init 135 = .ok (.aastore, 1) := by decide +kernel
theorem dX4_init_136 : decode cX4_init 136 = .ok (.putfield 55, 3) := by decide +kernel
theorem dX4_init_139 : decode cX4_init 139 = .ok (.aload_n 0, 1) := by decide +kernel
theorem dX4_init_140 : decode cX4_init 140 = .ok (.iconst 0, 1) := by decide +kernel
theorem dX4_init_141 : decode cX4_init 141 = .ok (.putfield 59, 3) := by decide +kernel
theorem dX4_init_144 : decode cX4_init 144 = .ok (.aload_n 0, 1) := by decide +kernel
theorem dX4_init_145 : decode cX4_init 145 = .ok (.iconst 0, 1) := by decide +kernel
theorem dX4_init_146 : decode cX4_init 146 = .ok (.putfield 62, 3) := by decide +kernel
theorem dX4_init_149 : decode cX4_init 149 = .ok (.aload_n 0, 1) := by decide +kernel
theorem dX4_init_150 : decode cX4_init 150 = .ok (.lconst 0, 1) := by decide +kernel
theorem dX4_init_151 : decode cX4_init 151 = .ok (.putfield 65, 3) := by decide +kernel
theorem dX4_init_154 : decode cX4_init 154 = .ok (.aload_n 0, 1) := by decide +kernel
theorem dX4_init_155 : decode cX4_init 155 = .ok (.lconst 0, 1) := by decide +kernel
theorem dX4_init_156 : decode cX4_init 156 = .ok (.putfield 69, 3) := by decide +kernel
theorem dX4_init_159 : decode cX4_init 159 = .ok (.aload_n 0, 1) := by decide +kernel
theorem dX4_init_160 : decode cX4_init 160 = .ok (.iconst 0, 1) := by decide +kernel
theorem dX4_init_161 : decode cX4_init 161 = .ok (.putfield 72, 3) := by decide +kernel
theorem dX4_init_164 : decode cX4_init 164 = .ok (.return_, 1) := by decide +kernel
set_option maxRecDepth 20000 in
theorem ggX4_column_X4_isColumn : GoodIn wsX4_column wsX4_isColumn := goodIn_r _ [9] (by decide +kernel) (by decide +kernel)
set_option maxRecDepth 20000 in
theorem gX4_column_X4_isColumn : GoodIn wsX4_column (va_wsS RX4 75 yX4_isColumn wsX4_isColumn) := goodIn_app (goodIn_of _ (by decide +kernel)) ggX4_column_X4_isColumn
set_option maxRecDepth 20000 in
theorem ggX4_column_X2_build : GoodIn wsX4_column wsX2_build := goodIn_r _ [13, 14, 15, 7, 8, 9, 32, 33, 34] (by decide +kernel) (by decide +kernel)
set_option maxRecDepth 20000 in
theorem gX4_column_X2_build_n93 : GoodIn wsX4_column (wsX2_build) := ggX4_column_X2_build
theorem dX4_column_0 : decode cX4_column 0 = .ok (.iload_n 1, 1) := by decide +kernel
theorem dX4_column_1 : decode cX4_column 1 = .ok (.invokestatic 75, 3) := by decide +kernel
theorem dX4_column_4 : decode cX4_column 4 = .ok (.ifCond .ne 13, 3) := by decide +kernel
theorem dX4_column_7 : decode cX4_column 7 = .ok (.new 79, 3) := by decide +kernel
theorem dX4_column_10 : decode cX4_column 10 = .ok (.dup, 1) := by decide +kernel
theorem dX4_column_11 : decode cX4_column 11 = .ok (.ldc 81, 2) := by decide +kernel
theorem dX4_column_13 : decode cX4_column 13 = .ok (.invokespecial 83, 3) := by decide +kernel
theorem dX4_column_16 : decode cX4_column 16 = .ok (.athrow, 1) := by decide +kernel
theorem dX4_column_17 : decode cX4_column 17 = .ok (.iload_n 2, 1) := by decide +kernel
theorem dX4_column_18 : decode cX4_column 18 = .ok (.ifCond .lt 8, 3) := by decide +kernel
theorem dX4_column_21 : decode cX4_column 21 = .ok (.iload_n 2, 1) := by decide +kernel
theorem dX4_column_22 : decode cX4_column 22 = .ok (.iconst 2, 1) := by decide +kernel
theorem dX4_column_23 : decode cX4_column 23 = .ok (.if_icmp .le 13, 3) := by decide +kernel
theorem dX4_column_26 : decode cX4_column 26 = .ok (.new 86, 3) := by decide +kernel
theorem dX4_column_29 : decode cX4_column 29 = .ok (.dup, 1) := by decide +kernel
theorem dX4_column_30 : decode cX4_column 30 = .ok (.ldc 88, 2) := by decide +kernel
theorem dX4_column_32 : decode cX4_column 32 = .ok (.invokespecial 90, 3) := by decide +kernel
theorem dX4_column_35 : decode cX4_column 35 = .ok (.athrow, 1) := by decide +kernel
theorem dX4_column_36 : decode cX4_column 36 = .ok (.iload_n 3, 1) := by decide +kernel
theorem dX4_column_37 : decode cX4_column 37 = .ok (.ifCond .lt 8, 3) := by decide +kernel
theorem dX4_column_40 : decode cX4_column 40 = .ok (.iload_n 3, 1) := by decide +kernel
theorem dX4_column_41 : decode cX4_column 41 = .ok (.iconst 2, 1) := by decide +kernel
theorem dX4_column_42 : decode cX4_column 42 = .ok (.if_icmp .le 13, 3) := by decide +kernel
theorem dX4_column_45 : decode cX4_column 45 = .ok (.new 86, 3) := by decide +kernel
theorem dX4_column_48 : decode cX4_column 48 = .ok (.dup, 1) := by decide +kernel
theorem dX4_column_49 : decode cX4_column 49 = .ok (.ldc 91, 2) := by decide +kernel
theorem dX4_column_51 : decode cX4_column 51 = .ok (.invokespecial 90, 3) := by decide +kernel
theorem dX4_column_54 : decode cX4_column 54 = .ok (.athrow, 1) := by decide +kernel
theorem dX4_column_55 : decode cX4_column 55 = .ok (.aload_n 0, 1) := by decide +kernel
theorem dX4_column_56 : decode cX4_column 56 = .ok (.getfield 10, 3) := by decide +kernel
theorem dX4_column_59 : decode cX4_column 59 = .ok (.iload_n 1, 1) := by decide +kernel
theorem dX4_column_60 : decode cX4_column 60 = .ok (.iload_n 2, 1) := by decide +kernel
theorem dX4_column_61 : decode cX4_column 61 = .ok (.iload_n 3, 1) := by decide +kernel
theorem dX4_column_62 : decode cX4_column 62 = .ok (.invokevirtual 93, 3) := by decide +kernel
theorem dX4_column_65 : decode cX4_column 65 = .ok (.return_, 1) := by decide +kernel
set_option maxRecDepth 20000 in
theorem ggX4_cell_X4_isColumn : GoodIn wsX4_cell wsX4_isColumn := goodIn_r _ [11] (by decide +kernel) (by decide +kernel)
set_option maxRecDepth 20000 in
theorem gX4_cell_X4_isColumn : GoodIn wsX4_cell (va_wsS RX4 75 yX4_isColumn wsX4_isColumn) := goodIn_app (goodIn_of _ (by decide +kernel)) ggX4_cell_X4_isColumn
set_option maxRecDepth 20000 in
theorem ggX4_cell_X4_isOpenRow : GoodIn wsX4_cell wsX4_isOpenRow := goodIn_r _ [14] (by decide +kernel) (by decide +kernel)
set_option maxRecDepth 20000 in
theorem gX4_cell_X4_isOpenRow : GoodIn wsX4_cell (va_wsS RX4 97 yX4_isOpenRow wsX4_isOpenRow) := goodIn_app (goodIn_of _ (by decide +kernel)) ggX4_cell_X4_isOpenRow
set_option maxRecDepth 20000 in
theorem ggX4_cell_X2_contentOf : GoodIn wsX4_cell wsX2_contentOf := goodIn_r _ [18, 19, 20, 21, 16, 22, 42, 43, 44] (by decide +kernel) (by decide +kernel)
set_option maxRecDepth 20000 in
theorem gX4_cell_X2_contentOf_n104 : GoodIn wsX4_cell (wsX2_contentOf) := ggX4_cell_X2_contentOf
set_option maxRecDepth 20000 in
theorem ggX4_cell_X2_put : GoodIn wsX4_cell wsX2_put := goodIn_r _ [25, 19, 20, 21, 16, 22, 42, 43, 44] (by decide +kernel) (by decide +kernel)
set_option maxRecDepth 20000 in
theorem gX4_cell_X2_put_n113 : GoodIn wsX4_cell (wsX2_put) := ggX4_cell_X2_put
theorem dX4_cell_0 : decode cX4_cell 0 = .ok (.iload_n 1, 1) := by decide +kernel
theorem dX4_cell_1 : decode cX4_cell 1 = .ok (.invokestatic 75, 3) := by decide +kernel
theorem dX4_cell_4 : decode cX4_cell 4 = .ok (.ifCond .eq 10, 3) := by decide +kernel
theorem dX4_cell_7 : decode cX4_cell 7 = .ok (.iload_n 2, 1) := by decide +kernel
theorem dX4_cell_8 : decode cX4_cell 8 = .ok (.invokestatic 97, 3) := by decide +kernel
theorem dX4_cell_11 : decode cX4_cell 11 = .ok (.ifCond .ne 13, 3) := by decide +kernel
theorem dX4_cell_14 : decode cX4_cell 14 = .ok (.new 79, 3) := by decide +kernel
theorem dX4_cell_17 : decode cX4_cell 17 = .ok (.dup, 1) := by decide +kernel
theorem dX4_cell_18 : decode cX4_cell 18 = .ok (.ldc 100, 2) := by decide +kernel
theorem dX4_cell_20 : decode cX4_cell 20 = .ok (.invokespecial 83, 3) := by decide +kernel
theorem dX4_cell_23 : decode cX4_cell 23 = .ok (.athrow, 1) := by decide +kernel
theorem dX4_cell_24 : decode cX4_cell 24 = .ok (.iload_n 3, 1) := by decide +kernel
theorem dX4_cell_25 : decode cX4_cell 25 = .ok (.ifCond .lt 8, 3) := by decide +kernel
theorem dX4_cell_28 : decode cX4_cell 28 = .ok (.iload_n 3, 1) := by decide +kernel
theorem dX4_cell_29 : decode cX4_cell 29 = .ok (.iconst 3, 1) := by decide +kernel
theorem dX4_cell_30 : decode cX4_cell 30 = .ok (.if_icmp .le 13, 3) := by decide +kernel
theorem dX4_cell_33 : decode cX4_cell 33 = .ok (.new 86, 3) := by decide +kernel
theorem dX4_cell_36 : decode cX4_cell 36 = .ok (.dup, 1) := by decide +kernel
theorem dX4_cell_37 : decode cX4_cell 37 = .ok (.ldc 102, 2) := by decide +kernel
theorem dX4_cell_39 : decode cX4_cell 39 = .ok (.invokespecial 90, 3) := by decide +kernel
theorem dX4_cell_42 : decode cX4_cell 42 = .ok (.athrow, 1) := by decide +kernel
theorem dX4_cell_43 : decode cX4_cell 43 = .ok (.aload_n 0, 1) := by decide +kernel
theorem dX4_cell_44 : decode cX4_cell 44 = .ok (.getfield 10, 3) := by decide +kernel
theorem dX4_cell_47 : decode cX4_cell 47 = .ok (.iload_n 1, 1) := by decide +kernel
theorem dX4_cell_48 : decode cX4_cell 48 = .ok (.iload_n 2, 1) := by decide +kernel
theorem dX4_cell_49 : decode cX4_cell 49 = .ok (.invokevirtual 104, 3) := by decide +kernel
theorem dX4_cell_52 : decode cX4_cell 52 = .ok (.istore 4, 2) := by decide +kernel
theorem dX4_cell_54 : decode cX4_cell 54 = .ok (.iload 4, 2) := by decide +kernel
theorem dX4_cell_56 : decode cX4_cell 56 = .ok (.iconst 4, 1) := by decide +kernel
theorem dX4_cell_57 : decode cX4_cell 57 = .ok (.if_icmp .ne 13, 3) := by decide +kernel
theorem dX4_cell_60 : decode cX4_cell 60 = .ok (.new 108, 3) := by decide +kernel
theorem dX4_cell_63 : decode cX4_cell 63 = .ok (.dup, 1) := by decide +kernel
theorem dX4_cell_64 : decode cX4_cell 64 = .ok (.ldc 110, 2) := by decide +kernel
theorem dX4_cell_66 : decode cX4_cell 66 = .ok (.invokespecial 112, 3) := by decide +kernel
theorem dX4_cell_69 : decode cX4_cell 69 = .ok (.athrow, 1) := by decide +kernel
theorem dX4_cell_70 : decode cX4_cell 70 = .ok (.aload_n 0, 1) := by decide +kernel
theorem dX4_cell_71 : decode cX4_cell 71 = .ok (.getfield 10, 3) := by decide +kernel
theorem dX4_cell_74 : decode cX4_cell 74 = .ok (.iload_n 1, 1) := by decide +kernel
theorem dX4_cell_75 : decode cX4_cell 75 = .ok (.iload_n 2, 1) := by decide +kernel
theorem dX4_cell_76 : decode cX4_cell 76 = .ok (.iload_n 3, 1) := by decide +kernel
theorem dX4_cell_77 : decode cX4_cell 77 = .ok (.invokevirtual 113, 3) := by decide +kernel
theorem dX4_cell_80 : decode cX4_cell 80 = .ok (.iload 4, 2) := by decide +kernel
theorem dX4_cell_82 : decode cX4_cell 82 = .ok (.ireturn, 1) := by decide +kernel
theorem dX4_need_0 : decode cX4_need 0 = .ok (.iload_n 1, 1) := by decide +kernel
theorem dX4_need_1 : decode cX4_need 1 = .ok (.ifCond .lt 9, 3) := by decide +kernel
theorem dX4_need_4 : decode cX4_need 4 = .ok (.iload_n 1, 1) := by decide +kernel
theorem dX4_need_5 : decode cX4_need 5 = .ok (.ldc 116, 2) := by decide +kernel
theorem dX4_need_7 : decode cX4_need 7 = .ok (.if_icmp .le 13, 3) := by decide +kernel
theorem dX4_need_10 : decode cX4_need 10 = .ok (.new 86, 3) := by decide +kernel
theorem dX4_need_13 : decode cX4_need 13 = .ok (.dup, 1) := by decide +kernel
theorem dX4_need_14 : decode cX4_need 14 = .ok (.ldc 117, 2) := by decide +kernel
theorem dX4_need_16 : decode cX4_need 16 = .ok (.invokespecial 90, 3) := by decide +kernel
theorem dX4_need_19 : decode cX4_need 19 = .ok (.athrow, 1) := by decide +kernel
theorem dX4_need_20 : decode cX4_need 20 = .ok (.iload_n 2, 1) := by decide +kernel
theorem dX4_need_21 : decode cX4_need 21 = .ok (.iconst 1, 1) := by decide +kernel
theorem dX4_need_22 : decode cX4_need 22 = .ok (.if_icmp .lt 10, 3) := by decide +kernel
theorem dX4_need_25 : decode cX4_need 25 = .ok (.iload_n 2, 1) := by decide +kernel
theorem dX4_need_26 : decode cX4_need 26 = .ok (.sipush 9999, 3) := by decide +kernel
theorem dX4_need_29 : decode cX4_need 29 = .ok (.if_icmp .le 13, 3) := by decide +kernel
theorem dX4_need_32 : decode cX4_need 32 = .ok (.new 86, 3) := by decide +kernel
theorem dX4_need_35 : decode cX4_need 35 = .ok (.dup, 1) := by decide +kernel
theorem dX4_need_36 : decode cX4_need 36 = .ok (.ldc 119, 2) := by decide +kernel
theorem dX4_need_38 : decode cX4_need 38 = .ok (.invokespecial 90, 3) := by decide +kernel
theorem dX4_need_41 : decode cX4_need 41 = .ok (.athrow, 1) := by decide +kernel
theorem dX4_need_42 : decode cX4_need 42 = .ok (.aload_n 0, 1) := by decide +kernel
theorem dX4_need_43 : decode cX4_need 43 = .ok (.iload_n 1, 1) := by decide +kernel
theorem dX4_need_44 : decode cX4_need 44 = .ok (.putfield 33, 3) := by decide +kernel
theorem dX4_need_47 : decode cX4_need 47 = .ok (.aload_n 0, 1) := by decide +kernel
theorem dX4_need_48 : decode cX4_need 48 = .ok (.iload_n 2, 1) := by decide +kernel
theorem dX4_need_49 : decode cX4_need 49 = .ok (.putfield 36, 3) := by decide +kernel
theorem dX4_need_52 : decode cX4_need 52 = .ok (.return_, 1) := by decide +kernel
set_option maxRecDepth 20000 in
theorem ggX4_projector_X4_isColumn : GoodIn wsX4_projector wsX4_isColumn := goodIn_r _ [16] (by decide +kernel) (by decide +kernel)
set_option maxRecDepth 20000 in
theorem gX4_projector_X4_isColumn : GoodIn wsX4_projector (va_wsS RX4 75 yX4_isColumn wsX4_isColumn) := goodIn_app (goodIn_of _ (by decide +kernel)) ggX4_projector_X4_isColumn
set_option maxRecDepth 20000 in
theorem ggX4_projector_X4_isOpenRow : GoodIn wsX4_projector wsX4_isOpenRow := goodIn_r _ [19] (by decide +kernel) (by decide +kernel)
set_option maxRecDepth 20000 in
theorem gX4_projector_X4_isOpenRow : GoodIn wsX4_projector (va_wsS RX4 97 yX4_isOpenRow wsX4_isOpenRow) := goodIn_app (goodIn_of _ (by decide +kernel)) ggX4_projector_X4_isOpenRow
set_option maxRecDepth 20000 in
theorem ggX4_projector_X4_isPhase : GoodIn wsX4_projector wsX4_isPhase := goodIn_r _ [22] (by decide +kernel) (by decide +kernel)
set_option maxRecDepth 20000 in
theorem gX4_projector_X4_isPhase : GoodIn wsX4_projector (va_wsS RX4 123 yX4_isPhase wsX4_isPhase) := goodIn_app (goodIn_of _ (by decide +kernel)) ggX4_projector_X4_isPhase
set_option maxRecDepth 20000 in
theorem ggX4_projector_X2_contentOf : GoodIn wsX4_projector wsX2_contentOf := goodIn_r _ [26, 27, 28, 29, 24, 30, 72, 73, 74] (by decide +kernel) (by decide +kernel)
set_option maxRecDepth 20000 in
theorem gX4_projector_X2_contentOf_n104 : GoodIn wsX4_projector (wsX2_contentOf) := ggX4_projector_X2_contentOf
set_option maxRecDepth 20000 in
theorem ggX4_projector_X2_put : GoodIn wsX4_projector wsX2_put := goodIn_r _ [33, 27, 28, 29, 24, 30, 72, 73, 74] (by decide +kernel) (by decide +kernel)
set_option maxRecDepth 20000 in
theorem gX4_projector_X2_put_n113 : GoodIn wsX4_projector (wsX2_put) := ggX4_projector_X2_put
set_option maxRecDepth 20000 in
theorem ggX4_projector_X0_init : GoodIn wsX4_projector wsX0_init := goodIn_r _ [35, 36, 37, 38, 39, 40, 41, 42, 43, 44, 45, 62, 63, 64, 65, 66, 67, 68, 69, 70, 71] (by decide +kernel) (by decide +kernel)
set_option maxRecDepth 20000 in
theorem gX4_projector_X0_init_n134 : GoodIn wsX4_projector (wsX0_init) := ggX4_projector_X0_init
theorem dX4_projector_0 : decode cX4_projector 0 = .ok (.iload_n 1, 1) := by decide +kernel
theorem dX4_projector_1 : decode cX4_projector 1 = .ok (.invokestatic 75, 3) := by decide +kernel
theorem dX4_projector_4 : decode cX4_projector 4 = .ok (.ifCond .eq 10, 3) := by decide +kernel
theorem dX4_projector_7 : decode cX4_projector 7 = .ok (.iload_n 2, 1) := by decide +kernel
theorem dX4_projector_8 : decode cX4_projector 8 = .ok (.invokestatic 97, 3) := by decide +kernel
theorem dX4_projector_11 : decode cX4_projector 11 = .ok (.ifCond .ne 13, 3) := by decide +kernel
theorem dX4_projector_14 : decode cX4_projector 14 = .ok (.new 79, 3) := by decide +kernel
theorem dX4_projector_17 : decode cX4_projector 17 = .ok (.dup, 1) := by decide +kernel
theorem dX4_projector_18 : decode cX4_projector 18 = .ok (.ldc 100, 2) := by decide +kernel
theorem dX4_projector_20 : decode cX4_projector 20 = .ok (.invokespecial 83, 3) := by decide +kernel
theorem dX4_projector_23 : decode cX4_projector 23 = .ok (.athrow, 1) := by decide +kernel
theorem dX4_projector_24 : decode cX4_projector 24 = .ok (.iload_n 3, 1) := by decide +kernel
theorem dX4_projector_25 : decode cX4_projector 25 = .ok (.iconst 1, 1) := by decide +kernel
theorem dX4_projector_26 : decode cX4_projector 26 = .ok (.if_icmp .lt 10, 3) := by decide +kernel
theorem dX4_projector_29 : decode cX4_projector 29 = .ok (.iload_n 3, 1) := by decide +kernel
theorem dX4_projector_30 : decode cX4_projector 30 = .ok (.sipush 9999, 3) := by decide +kernel
theorem dX4_projector_33 : decode cX4_projector 33 = .ok (.if_icmp .le 13, 3) := by decide +kernel
theorem dX4_projector_36 : decode cX4_projector 36 = .ok (.new 86, 3) := by decide +kernel
theorem dX4_projector_39 : decode cX4_projector 39 = .ok (.dup, 1) := by decide +kernel
theorem dX4_projector_40 : decode cX4_projector 40 = .ok (.ldc 121, 2) := by decide +kernel
theorem dX4_projector_42 : decode cX4_projector 42 = .ok (.invokespecial 90, 3) := by decide +kernel
theorem dX4_projector_45 : decode cX4_projector 45 = .ok (.athrow, 1) := by decide +kernel
theorem dX4_projector_46 : decode cX4_projector 46 = .ok (.iload 4, 2) := by decide +kernel
theorem dX4_projector_48 : decode cX4_projector 48 = .ok (.invokestatic 123, 3) := by decide +kernel
theorem dX4_projector_51 : decode cX4_projector 51 = .ok (.ifCond .ne 13, 3) := by decide +kernel
theorem dX4_projector_54 : decode cX4_projector 54 = .ok (.new 86, 3) := by decide +kernel
theorem dX4_projector_57 : decode cX4_projector 57 = .ok (.dup, 1) := by decide +kernel
theorem dX4_projector_58 : decode cX4_projector 58 = .ok (.ldc 126, 2) := by decide +kernel
theorem dX4_projector_60 : decode cX4_projector 60 = .ok (.invokespecial 90, 3) := by decide +kernel
theorem dX4_projector_63 : decode cX4_projector 63 = .ok (.athrow, 1) := by decide +kernel
theorem dX4_projector_64 : decode cX4_projector 64 = .ok (.iload 5, 2) := by decide +kernel
theorem dX4_projector_66 : decode cX4_projector 66 = .ok (.iconst 1, 1) := by decide +kernel
theorem dX4_projector_67 : decode cX4_projector 67 = .ok (.if_icmp .lt 10, 3) := by decide +kernel
theorem dX4_projector_70 : decode cX4_projector 70 = .ok (.iload 5, 2) := by decide +kernel
theorem dX4_projector_72 : decode cX4_projector 72 = .ok (.bipush 11, 2) := by decide +kernel
theorem dX4_projector_74 : decode cX4_projector 74 = .ok (.if_icmp .le 13, 3) := by decide +kernel
theorem dX4_projector_77 : decode cX4_projector 77 = .ok (.new 86, 3) := by decide +kernel
theorem dX4_projector_80 : decode cX4_projector 80 = .ok (.dup, 1) := by decide +kernel
theorem dX4_projector_81 : decode cX4_projector 81 = .ok (.ldc 128, 2) := by decide +kernel
theorem dX4_projector_83 : decode cX4_projector 83 = .ok (.invokespecial 90, 3) := by decide +kernel
theorem dX4_projector_86 : decode cX4_projector 86 = .ok (.athrow, 1) := by decide +kernel
theorem dX4_projector_87 : decode cX4_projector 87 = .ok (.aload_n 0, 1) := by decide +kernel
theorem dX4_projector_88 : decode cX4_projector 88 = .ok (.getfield 10, 3) := by decide +kernel
theorem dX4_projector_91 : decode cX4_projector 91 = .ok (.iload_n 1, 1) := by decide +kernel
theorem dX4_projector_92 : decode cX4_projector 92 = .ok (.iload_n 2, 1) := by decide +kernel
theorem dX4_projector_93 : decode cX4_projector 93 = .ok (.invokevirtual 104, 3) := by decide +kernel
theorem dX4_projector_96 : decode cX4_projector 96 = .ok (.ifCond .eq 13, 3) := by decide +kernel
theorem dX4_projector_99 : decode cX4_projector 99 = .ok (.new 108, 3) := by decide +kernel
theorem dX4_projector_102 : decode cX4_projector 102 = .ok (.dup, 1) := by decide +kernel
theorem dX4_projector_103 : decode cX4_projector 103 = .ok (.ldc 130, 2) := by decide +kernel
theorem dX4_projector_105 : decode cX4_projector 105 = .ok (.invokespecial 112, 3) := by decide +kernel
theorem dX4_projector_108 : decode cX4_projector 108 = .ok (.athrow, 1) := by decide +kernel
theorem dX4_projector_109 : decode cX4_projector 109 = .ok (.aload_n 0, 1) := by decide +kernel
theorem dX4_projector_110 : decode cX4_projector 110 = .ok (.getfield 22, 3) := by decide +kernel
theorem dX4_projector_113 : decode cX4_projector 113 = .ok (.istore 6, 2) := by decide +kernel
theorem dX4_projector_115 : decode cX4_projector 115 = .ok (.iload 6, 2) := by decide +kernel
theorem dX4_projector_117 : decode cX4_projector 117 = .ok (.ifCond .lt 13, 3) := by decide +kernel
theorem dX4_projector_120 : decode cX4_projector 120 = .ok (.iload 6, 2) := by decide +kernel
theorem dX4_projector_122 : decode cX4_projector 122 = .ok (.aload_n 0, 1) := by decide +kernel
theorem dX4_projector_123 : decode cX4_projector 123 = .ok (.getfield 18, 3) := by decide +kernel
theorem dX4_projector_126 : decode cX4_projector 126 = .ok (.arraylength, 1) := by decide +kernel
theorem dX4_projector_127 : decode cX4_projector 127 = .ok (.if_icmp .lt 13, 3) := by decide +kernel
theorem dX4_projector_130 : decode cX4_projector 130 = .ok (.new 108, 3) := by decide +kernel
theorem dX4_projector_133 : decode cX4_projector 133 = .ok (.dup, 1) := by decide +kernel
theorem dX4_projector_134 : decode cX4_projector 134 = .ok (.ldc 132, 2) := by decide +kernel
theorem dX4_projector_136 : decode cX4_projector 136 = .ok (.invokespecial 112, 3) := by decide +kernel
theorem dX4_projector_139 : decode cX4_projector 139 = .ok (.athrow, 1) := by decide +kernel
theorem dX4_projector_140 : decode cX4_projector 140 = .ok (.aload_n 0, 1) := by decide +kernel
theorem dX4_projector_141 : decode cX4_projector 141 = .ok (.getfield 10, 3) := by decide +kernel
theorem dX4_projector_144 : decode cX4_projector 144 = .ok (.iload_n 1, 1) := by decide +kernel
theorem dX4_projector_145 : decode cX4_projector 145 = .ok (.iload_n 2, 1) := by decide +kernel
theorem dX4_projector_146 : decode cX4_projector 146 = .ok (.iconst 4, 1) := by decide +kernel
theorem dX4_projector_147 : decode cX4_projector 147 = .ok (.invokevirtual 113, 3) := by decide +kernel
theorem dX4_projector_150 : decode cX4_projector 150 = .ok (.aload_n 0, 1) := by decide +kernel
theorem dX4_projector_151 : decode cX4_projector 151 = .ok (.getfield 18, 3) := by decide +kernel
theorem dX4_projector_154 : decode cX4_projector 154 = .ok (.iload 6, 2) := by decide +kernel
theorem dX4_projector_156 : decode cX4_projector 156 = .ok (.new 16, 3) := by decide +kernel
theorem dX4_projector_159 : decode cX4_projector 159 = .ok (.dup, 1) := by decide +kernel
theorem dX4_projector_160 : decode cX4_projector 160 = .ok (.iload_n 1, 1) := by decide +kernel
theorem dX4_projector_161 : decode cX4_projector 161 = .ok (.iload_n 2, 1) := by decide +kernel
theorem dX4_projector_162 : decode cX4_projector 162 = .ok (.iload_n 3, 1) := by decide +kernel
theorem dX4_projector_163 : decode cX4_projector 163 = .ok (.iload 4, 2) := by decide +kernel
theorem dX4_projector_165 : decode cX4_projector 165 = .ok (.iload 5, 2) := by decide +kernel
theorem dX4_projector_167 : decode cX4_projector 167 = .ok (.invokespecial 134, 3) := by decide +kernel
theorem dX4_projector_170 : decode cX4_projector 170 = .ok (.aastore, 1) := by decide +kernel
theorem dX4_projector_171 : decode cX4_projector 171 = .ok (.aload_n 0, 1) := by decide +kernel
theorem dX4_projector_172 : decode cX4_projector 172 = .ok (.iload 6, 2) := by decide +kernel
theorem dX4_projector_174 : decode cX4_projector 174 = .ok (.iconst 1, 1) := by decide +kernel
theorem dX4_projector_175 : decode cX4_projector 175 = .ok (.iadd, 1) := by decide +kernel
theorem dX4_projector_176 : decode cX4_projector 176 = .ok (.putfield 22, 3) := by decide +kernel
theorem dX4_projector_179 : decode cX4_projector 179 = .ok (.iload 6, 2) := by decide +kernel
theorem dX4_projector_181 : decode cX4_projector 181 = .ok (.ireturn, 1) := by decide +kernel
set_option maxRecDepth 20000 in
theorem ggX4_aim_X4_find : GoodIn wsX4_aim wsX4_find := goodIn_r _ [9, 10, 11, 25, 26, 27, 28, 29, 30, 31, 32, 33, 34, 35, 36, 37, 38, 39, 40] (by decide +kernel) (by decide +kernel)
set_option maxRecDepth 20000 in
theorem gX4_aim_X4_find : GoodIn wsX4_aim (wsV RX4 137 RX4 yX4_find wsX4_find) := goodIn_app (goodIn_of _ (by decide +kernel)) ggX4_aim_X4_find
set_option maxRecDepth 20000 in
theorem ggX4_aim_X4_isColumn : GoodIn wsX4_aim wsX4_isColumn := goodIn_r _ [14] (by decide +kernel) (by decide +kernel)
set_option maxRecDepth 20000 in
theorem gX4_aim_X4_isColumn : GoodIn wsX4_aim (va_wsS RX4 75 yX4_isColumn wsX4_isColumn) := goodIn_app (goodIn_of _ (by decide +kernel)) ggX4_aim_X4_isColumn
theorem dX4_aim_0 : decode cX4_aim 0 = .ok (.aload_n 0, 1) := by decide +kernel
theorem dX4_aim_1 : decode cX4_aim 1 = .ok (.iload_n 1, 1) := by decide +kernel
theorem dX4_aim_2 : decode cX4_aim 2 = .ok (.invokevirtual 137, 3) := by decide +kernel
theorem dX4_aim_5 : decode cX4_aim 5 = .ok (.astore 4, 2) := by decide +kernel
theorem dX4_aim_7 : decode cX4_aim 7 = .ok (.aload 4, 2) := by decide +kernel
theorem dX4_aim_9 : decode cX4_aim 9 = .ok (.ifnonnull 13, 3) := by decide +kernel
theorem dX4_aim_12 : decode cX4_aim 12 = .ok (.new 79, 3) := by decide +kernel
theorem dX4_aim_15 : decode cX4_aim 15 = .ok (.dup, 1) := by decide +kernel
theorem dX4_aim_16 : decode cX4_aim 16 = .ok (.ldc 141, 2) := by decide +kernel
theorem dX4_aim_18 : decode cX4_aim 18 = .ok (.invokespecial 83, 3) := by decide +kernel
theorem dX4_aim_21 : decode cX4_aim 21 = .ok (.athrow, 1) := by decide +kernel
theorem dX4_aim_22 : decode cX4_aim 22 = .ok (.iload_n 2, 1) := by decide +kernel
theorem dX4_aim_23 : decode cX4_aim 23 = .ok (.invokestatic 75, 3) := by decide +kernel
theorem dX4_aim_26 : decode cX4_aim 26 = .ok (.ifCond .eq 10, 3) := by decide +kernel
theorem dX4_aim_29 : decode cX4_aim 29 = .ok (.iload_n 3, 1) := by decide +kernel
theorem dX4_aim_30 : decode cX4_aim 30 = .ok (.invokestatic 75, 3) := by decide +kernel
theorem dX4_aim_33 : decode cX4_aim 33 = .ok (.ifCond .ne 13, 3) := by decide +kernel
theorem dX4_aim_36 : decode cX4_aim 36 = .ok (.new 79, 3) := by decide +kernel
theorem dX4_aim_39 : decode cX4_aim 39 = .ok (.dup, 1) := by decide +kernel
theorem dX4_aim_40 : decode cX4_aim 40 = .ok (.ldc 81, 2) := by decide +kernel
theorem dX4_aim_42 : decode cX4_aim 42 = .ok (.invokespecial 83, 3) := by decide +kernel
theorem dX4_aim_45 : decode cX4_aim 45 = .ok (.athrow, 1) := by decide +kernel
theorem dX4_aim_46 : decode cX4_aim 46 = .ok (.iload_n 3, 1) := by decide +kernel
theorem dX4_aim_47 : decode cX4_aim 47 = .ok (.iload_n 2, 1) := by decide +kernel
theorem dX4_aim_48 : decode cX4_aim 48 = .ok (.if_icmp .lt 11, 3) := by decide +kernel
theorem dX4_aim_51 : decode cX4_aim 51 = .ok (.iload_n 3, 1) := by decide +kernel
theorem dX4_aim_52 : decode cX4_aim 52 = .ok (.iload_n 2, 1) := by decide +kernel
theorem dX4_aim_53 : decode cX4_aim 53 = .ok (.bipush 7, 2) := by decide +kernel
theorem dX4_aim_55 : decode cX4_aim 55 = .ok (.iadd, 1) := by decide +kernel
theorem dX4_aim_56 : decode cX4_aim 56 = .ok (.if_icmp .le 13, 3) := by decide +kernel
theorem dX4_aim_59 : decode cX4_aim 59 = .ok (.new 86, 3) := by decide +kernel
theorem dX4_aim_62 : decode cX4_aim 62 = .ok (.dup, 1) := by decide +kernel
theorem dX4_aim_63 : decode cX4_aim 63 = .ok (.ldc 143, 2) := by decide +kernel
theorem dX4_aim_65 : decode cX4_aim 65 = .ok (.invokespecial 90, 3) := by decide +kernel
theorem dX4_aim_68 : decode cX4_aim 68 = .ok (.athrow, 1) := by decide +kernel
theorem dX4_aim_69 : decode cX4_aim 69 = .ok (.aload 4, 2) := by decide +kernel
theorem dX4_aim_71 : decode cX4_aim 71 = .ok (.iload_n 2, 1) := by decide +kernel
theorem dX4_aim_72 : decode cX4_aim 72 = .ok (.putfield 145, 3) := by decide +kernel
theorem dX4_aim_75 : decode cX4_aim 75 = .ok (.aload 4, 2) := by decide +kernel
theorem dX4_aim_77 : decode cX4_aim 77 = .ok (.iload_n 3, 1) := by decide +kernel
theorem dX4_aim_78 : decode cX4_aim 78 = .ok (.putfield 148, 3) := by decide +kernel
theorem dX4_aim_81 : decode cX4_aim 81 = .ok (.return_, 1) := by decide +kernel
set_option maxRecDepth 20000 in
theorem ggX4_turn_X4_find : GoodIn wsX4_turn wsX4_find := goodIn_r _ [9, 10, 11, 34, 35, 36, 37, 38, 39, 40, 41, 42, 43, 44, 45, 46, 47, 48, 49] (by decide +kernel) (by decide +kernel)
set_option maxRecDepth 20000 in
theorem gX4_turn_X4_find : GoodIn wsX4_turn (wsV RX4 137 RX4 yX4_find wsX4_find) := goodIn_app (goodIn_of _ (by decide +kernel)) ggX4_turn_X4_find
set_option maxRecDepth 20000 in
theorem ggX4_turn_X4_loadOf : GoodIn wsX4_turn wsX4_loadOf := goodIn_r _ [15, 5, 6, 7, 8, 9, 10, 11, 24, 25, 26, 27, 28, 29, 30, 31, 32, 33, 34, 35, 36, 37, 38, 39, 40, 41, 42, 43, 44, 45, 46, 47, 48, 49] (by decide +kernel) (by decide +kernel)
set_option maxRecDepth 20000 in
theorem gX4_turn_X4_loadOf : GoodIn wsX4_turn (wsV RX4 158 RX4 yX4_loadOf wsX4_loadOf) := goodIn_app (goodIn_of _ (by decide +kernel)) ggX4_turn_X4_loadOf
set_option maxRecDepth 20000 in
theorem ggX4_turn_X4_borneBy : GoodIn wsX4_turn wsX4_borneBy := goodIn_r _ [19, 20, 21, 22, 8, 23, 34, 35, 36, 37, 38, 39, 40, 41, 42, 43, 44, 45, 46, 47, 48, 49] (by decide +kernel) (by decide +kernel)
set_option maxRecDepth 20000 in
theorem gX4_turn_X4_borneBy : GoodIn wsX4_turn (wsV RX4 165 RX4 yX4_borneBy wsX4_borneBy) := goodIn_app (goodIn_of _ (by decide +kernel)) ggX4_turn_X4_borneBy
theorem dX4_turn_0 : decode cX4_turn 0 = .ok (.aload_n 0, 1) := by decide +kernel
theorem dX4_turn_1 : decode cX4_turn 1 = .ok (.iload_n 1, 1) := by decide +kernel
theorem dX4_turn_2 : decode cX4_turn 2 = .ok (.invokevirtual 137, 3) := by decide +kernel
theorem dX4_turn_5 : decode cX4_turn 5 = .ok (.astore_n 3, 1) := by decide +kernel
theorem dX4_turn_6 : decode cX4_turn 6 = .ok (.aload_n 3, 1) := by decide +kernel
theorem dX4_turn_7 : decode cX4_turn 7 = .ok (.ifnonnull 13, 3) := by decide +kernel
theorem dX4_turn_10 : decode cX4_turn 10 = .ok (.new 79, 3) := by decide +kernel
theorem dX4_turn_13 : decode cX4_turn 13 = .ok (.dup, 1) := by decide +kernel
theorem dX4_turn_14 : decode cX4_turn 14 = .ok (.ldc 141, 2) := by decide +kernel
theorem dX4_turn_16 : decode cX4_turn 16 = .ok (.invokespecial 83, 3) := by decide +kernel
theorem dX4_turn_19 : decode cX4_turn 19 = .ok (.athrow, 1) := by decide +kernel
theorem dX4_turn_20 : decode cX4_turn 20 = .ok (.aload_n 3, 1) := by decide +kernel
theorem dX4_turn_21 : decode cX4_turn 21 = .ok (.getfield 151, 3) := by decide +kernel
theorem dX4_turn_24 : decode cX4_turn 24 = .ok (.istore 4, 2) := by decide +kernel
theorem dX4_turn_26 : decode cX4_turn 26 = .ok (.iload_n 2, 1) := by decide +kernel
theorem dX4_turn_27 : decode cX4_turn 27 = .ok (.ifCond .eq 42, 3) := by decide +kernel
theorem dX4_turn_30 : decode cX4_turn 30 = .ok (.iload 4, 2) := by decide +kernel
theorem dX4_turn_32 : decode cX4_turn 32 = .ok (.ifCond .ne 37, 3) := by decide +kernel
theorem dX4_turn_35 : decode cX4_turn 35 = .ok (.aload_n 0, 1) := by decide +kernel
theorem dX4_turn_36 : decode cX4_turn 36 = .ok (.aload_n 3, 1) := by decide +kernel
theorem dX4_turn_37 : decode cX4_turn 37 = .ok (.getfield 155, 3) := by decide +kernel
theorem dX4_turn_40 : decode cX4_turn 40 = .ok (.invokevirtual 158, 3) := by decide +kernel
theorem dX4_turn_43 : decode cX4_turn 43 = .ok (.aload_n 3, 1) := by decide +kernel
theorem dX4_turn_44 : decode cX4_turn 44 = .ok (.getfield 162, 3) := by decide +kernel
theorem dX4_turn_47 : decode cX4_turn 47 = .ok (.iadd, 1) := by decide +kernel
theorem dX4_turn_48 : decode cX4_turn 48 = .ok (.aload_n 0, 1) := by decide +kernel
theorem dX4_turn_49 : decode cX4_turn 49 = .ok (.aload_n 3, 1) := by decide +kernel
theorem dX4_turn_50 : decode cX4_turn 50 = .ok (.getfield 155, 3) := by decide +kernel
theorem dX4_turn_53 : decode cX4_turn 53 = .ok (.invokevirtual 165, 3) := by decide +kernel
theorem dX4_turn_56 : decode cX4_turn 56 = .ok (.if_icmp .le 13, 3) := by decide +kernel
theorem dX4_turn_59 : decode cX4_turn 59 = .ok (.new 108, 3) := by decide +kernel
theorem dX4_turn_62 : decode cX4_turn 62 = .ok (.dup, 1) := by decide +kernel
theorem dX4_turn_63 : decode cX4_turn 63 = .ok (.ldc 168, 2) := by decide +kernel
theorem dX4_turn_65 : decode cX4_turn 65 = .ok (.invokespecial 112, 3) := by decide +kernel
theorem dX4_turn_68 : decode cX4_turn 68 = .ok (.athrow, 1) := by decide +kernel
theorem dX4_turn_69 : decode cX4_turn 69 = .ok (.aload_n 3, 1) := by decide +kernel
theorem dX4_turn_70 : decode cX4_turn 70 = .ok (.iload_n 2, 1) := by decide +kernel
theorem dX4_turn_71 : decode cX4_turn 71 = .ok (.putfield 151, 3) := by decide +kernel
theorem dX4_turn_74 : decode cX4_turn 74 = .ok (.iload 4, 2) := by decide +kernel
theorem dX4_turn_76 : decode cX4_turn 76 = .ok (.ireturn, 1) := by decide +kernel
set_option maxRecDepth 20000 in
theorem ggX4_fail_X4_find : GoodIn wsX4_fail wsX4_find := goodIn_r _ [7, 8, 9, 20, 21, 22, 23, 24, 25, 26, 27, 28, 29, 30, 31, 32, 33, 34, 35] (by decide +kernel) (by decide +kernel)
set_option maxRecDepth 20000 in
theorem gX4_fail_X4_find : GoodIn wsX4_fail (wsV RX4 137 RX4 yX4_find wsX4_find) := goodIn_app (goodIn_of _ (by decide +kernel)) ggX4_fail_X4_find
theorem dX4_fail_0 : decode cX4_fail 0 = .ok (.aload_n 0, 1) := by decide +kernel
theorem dX4_fail_1 : decode cX4_fail 1 = .ok (.iload_n 1, 1) := by decide +kernel
theorem dX4_fail_2 : decode cX4_fail 2 = .ok (.invokevirtual 137, 3) := by decide +kernel
theorem dX4_fail_5 : decode cX4_fail 5 = .ok (.astore_n 3, 1) := by decide +kernel
theorem dX4_fail_6 : decode cX4_fail 6 = .ok (.aload_n 3, 1) := by decide +kernel
theorem dX4_fail_7 : decode cX4_fail 7 = .ok (.ifnonnull 13, 3) := by decide +kernel
theorem dX4_fail_10 : decode cX4_fail 10 = .ok (.new 79, 3) := by decide +kernel
theorem dX4_fail_13 : decode cX4_fail 13 = .ok (.dup, 1) := by decide +kernel
theorem dX4_fail_14 : decode cX4_fail 14 = .ok (.ldc 141, 2) := by decide +kernel
theorem dX4_fail_16 : decode cX4_fail 16 = .ok (.invokespecial 83, 3) := by decide +kernel
theorem dX4_fail_19 : decode cX4_fail 19 = .ok (.athrow, 1) := by decide +kernel
theorem dX4_fail_20 : decode cX4_fail 20 = .ok (.aload_n 3, 1) := by decide +kernel
theorem dX4_fail_21 : decode cX4_fail 21 = .ok (.getfield 170, 3) := by decide +kernel
theorem dX4_fail_24 : decode cX4_fail 24 = .ok (.istore 4, 2) := by decide +kernel
theorem dX4_fail_26 : decode cX4_fail 26 = .ok (.aload_n 3, 1) := by decide +kernel
theorem dX4_fail_27 : decode cX4_fail 27 = .ok (.iload_n 2, 1) := by decide +kernel
theorem dX4_fail_28 : decode cX4_fail 28 = .ok (.putfield 170, 3) := by decide +kernel
theorem dX4_fail_31 : decode cX4_fail 31 = .ok (.iload 4, 2) := by decide +kernel
theorem dX4_fail_33 : decode cX4_fail 33 = .ok (.ireturn, 1) := by decide +kernel
set_option maxRecDepth 20000 in
theorem ggX4_phase_X4_isPhase : GoodIn wsX4_phase wsX4_isPhase := goodIn_r _ [8] (by decide +kernel) (by decide +kernel)
set_option maxRecDepth 20000 in
theorem gX4_phase_X4_isPhase : GoodIn wsX4_phase (va_wsS RX4 123 yX4_isPhase wsX4_isPhase) := goodIn_app (goodIn_of _ (by decide +kernel)) ggX4_phase_X4_isPhase
theorem dX4_phase_0 : decode cX4_phase 0 = .ok (.iload_n 1, 1) := by decide +kernel
theorem dX4_phase_1 : decode cX4_phase 1 = .ok (.invokestatic 123, 3) := by decide +kernel
theorem dX4_phase_4 : decode cX4_phase 4 = .ok (.ifCond .ne 13, 3) := by decide +kernel
theorem dX4_phase_7 : decode cX4_phase 7 = .ok (.new 86, 3) := by decide +kernel
theorem dX4_phase_10 : decode cX4_phase 10 = .ok (.dup, 1) := by decide +kernel
theorem dX4_phase_11 : decode cX4_phase 11 = .ok (.ldc 126, 2) := by decide +kernel
theorem dX4_phase_13 : decode cX4_phase 13 = .ok (.invokespecial 90, 3) := by decide +kernel
theorem dX4_phase_16 : decode cX4_phase 16 = .ok (.athrow, 1) := by decide +kernel
theorem dX4_phase_17 : decode cX4_phase 17 = .ok (.iload_n 2, 1) := by decide +kernel
theorem dX4_phase_18 : decode cX4_phase 18 = .ok (.ifCond .lt 9, 3) := by decide +kernel
theorem dX4_phase_21 : decode cX4_phase 21 = .ok (.iload_n 2, 1) := by decide +kernel
theorem dX4_phase_22 : decode cX4_phase 22 = .ok (.ldc 173, 2) := by decide +kernel
theorem dX4_phase_24 : decode cX4_phase 24 = .ok (.if_icmp .le 13, 3) := by decide +kernel
theorem dX4_phase_27 : decode cX4_phase 27 = .ok (.new 86, 3) := by decide +kernel
theorem dX4_phase_30 : decode cX4_phase 30 = .ok (.dup, 1) := by decide +kernel
theorem dX4_phase_31 : decode cX4_phase 31 = .ok (.ldc 121, 2) := by decide +kernel
theorem dX4_phase_33 : decode cX4_phase 33 = .ok (.invokespecial 90, 3) := by decide +kernel
theorem dX4_phase_36 : decode cX4_phase 36 = .ok (.athrow, 1) := by decide +kernel
theorem dX4_phase_37 : decode cX4_phase 37 = .ok (.aload_n 0, 1) := by decide +kernel
theorem dX4_phase_38 : decode cX4_phase 38 = .ok (.getfield 26, 3) := by decide +kernel
theorem dX4_phase_41 : decode cX4_phase 41 = .ok (.iload_n 1, 1) := by decide +kernel
theorem dX4_phase_42 : decode cX4_phase 42 = .ok (.iaload, 1) := by decide +kernel
theorem dX4_phase_43 : decode cX4_phase 43 = .ok (.istore_n 3, 1) := by decide +kernel
theorem dX4_phase_44 : decode cX4_phase 44 = .ok (.aload_n 0, 1) := by decide +kernel
theorem dX4_phase_45 : decode cX4_phase 45 = .ok (.getfield 26, 3) := by decide +kernel
theorem dX4_phase_48 : decode cX4_phase 48 = .ok (.iload_n 1, 1) := by decide +kernel
theorem dX4_phase_49 : decode cX4_phase 49 = .ok (.iload_n 2, 1) := by decide +kernel
theorem dX4_phase_50 : decode cX4_phase 50 = .ok (.iastore, 1) := by decide +kernel
theorem dX4_phase_51 : decode cX4_phase 51 = .ok (.iload_n 3, 1) := by decide +kernel
theorem dX4_phase_52 : decode cX4_phase 52 = .ok (.ireturn, 1) := by decide +kernel
theorem dX4_wind_0 : decode cX4_wind 0 = .ok (.iload_n 1, 1) := by decide +kernel
theorem dX4_wind_1 : decode cX4_wind 1 = .ok (.ifCond .lt 9, 3) := by decide +kernel
theorem dX4_wind_4 : decode cX4_wind 4 = .ok (.iload_n 1, 1) := by decide +kernel
theorem dX4_wind_5 : decode cX4_wind 5 = .ok (.bipush 8, 2) := by decide +kernel
theorem dX4_wind_7 : decode cX4_wind 7 = .ok (.if_icmp .le 13, 3) := by decide +kernel
theorem dX4_wind_10 : decode cX4_wind 10 = .ok (.new 86, 3) := by decide +kernel
theorem dX4_wind_13 : decode cX4_wind 13 = .ok (.dup, 1) := by decide +kernel
theorem dX4_wind_14 : decode cX4_wind 14 = .ok (.ldc 174, 2) := by decide +kernel
theorem dX4_wind_16 : decode cX4_wind 16 = .ok (.invokespecial 90, 3) := by decide +kernel
theorem dX4_wind_19 : decode cX4_wind 19 = .ok (.athrow, 1) := by decide +kernel
theorem dX4_wind_20 : decode cX4_wind 20 = .ok (.aload_n 0, 1) := by decide +kernel
theorem dX4_wind_21 : decode cX4_wind 21 = .ok (.getfield 30, 3) := by decide +kernel
theorem dX4_wind_24 : decode cX4_wind 24 = .ok (.istore_n 2, 1) := by decide +kernel
theorem dX4_wind_25 : decode cX4_wind 25 = .ok (.aload_n 0, 1) := by decide +kernel
theorem dX4_wind_26 : decode cX4_wind 26 = .ok (.iload_n 1, 1) := by decide +kernel
theorem dX4_wind_27 : decode cX4_wind 27 = .ok (.putfield 30, 3) := by decide +kernel
theorem dX4_wind_30 : decode cX4_wind 30 = .ok (.iload_n 2, 1) := by decide +kernel
theorem dX4_wind_31 : decode cX4_wind 31 = .ok (.ireturn, 1) := by decide +kernel
set_option maxRecDepth 20000 in
theorem ggX4_through_X4_find : GoodIn wsX4_through wsX4_find := goodIn_r _ [7, 8, 9, 23, 24, 25, 26, 27, 28, 29, 30, 31, 32, 33, 34, 35, 36, 37, 38] (by decide +kernel) (by decide +kernel)
set_option maxRecDepth 20000 in
theorem gX4_through_X4_find : GoodIn wsX4_through (wsV RX4 137 RX4 yX4_find wsX4_find) := goodIn_app (goodIn_of _ (by decide +kernel)) ggX4_through_X4_find
set_option maxRecDepth 20000 in
theorem ggX4_through_X4_isColumn : GoodIn wsX4_through wsX4_isColumn := goodIn_r _ [12] (by decide +kernel) (by decide +kernel)
set_option maxRecDepth 20000 in
theorem gX4_through_X4_isColumn : GoodIn wsX4_through (va_wsS RX4 75 yX4_isColumn wsX4_isColumn) := goodIn_app (goodIn_of _ (by decide +kernel)) ggX4_through_X4_isColumn
set_option maxRecDepth 20000 in
theorem ggX4_through_X4_crossing : GoodIn wsX4_through wsX4_crossing := goodIn_r _ [16, 17, 18, 19, 20, 21, 22, 11, 6, 12, 23, 24, 25, 26, 27, 28, 29, 30, 31, 32, 33, 34, 35, 36, 37, 38, 39, 40, 41, 42, 43, 44, 45, 46, 47, 48, 49, 50, 51] (by decide +kernel) (by decide +kernel)
set_option maxRecDepth 20000 in
theorem gX4_through_X4_crossing : GoodIn wsX4_through (wsV RX4 178 RX4 yX4_crossing wsX4_crossing) := goodIn_app (goodIn_of _ (by decide +kernel)) ggX4_through_X4_crossing
theorem dX4_through_0 : decode cX4_through 0 = .ok (.aload_n 0, 1) := by decide +kernel
theorem dX4_through_1 : decode cX4_through 1 = .ok (.iload_n 1, 1) := by decide +kernel
theorem dX4_through_2 : decode cX4_through 2 = .ok (.invokevirtual 137, 3) := by decide +kernel
theorem dX4_through_5 : decode cX4_through 5 = .ok (.astore 4, 2) := by decide +kernel
theorem dX4_through_7 : decode cX4_through 7 = .ok (.aload 4, 2) := by decide +kernel
theorem dX4_through_9 : decode cX4_through 9 = .ok (.ifnonnull 13, 3) := by decide +kernel
theorem dX4_through_12 : decode cX4_through 12 = .ok (.new 79, 3) := by decide +kernel
theorem dX4_through_15 : decode cX4_through 15 = .ok (.dup, 1) := by decide +kernel
theorem dX4_through_16 : decode cX4_through 16 = .ok (.ldc 141, 2) := by decide +kernel
theorem dX4_through_18 : decode cX4_through 18 = .ok (.invokespecial 83, 3) := by decide +kernel
theorem dX4_through_21 : decode cX4_through 21 = .ok (.athrow, 1) := by decide +kernel
theorem dX4_through_22 : decode cX4_through 22 = .ok (.iload_n 2, 1) := by decide +kernel
theorem dX4_through_23 : decode cX4_through 23 = .ok (.invokestatic 75, 3) := by decide +kernel
theorem dX4_through_26 : decode cX4_through 26 = .ok (.ifCond .ne 13, 3) := by decide +kernel
theorem dX4_through_29 : decode cX4_through 29 = .ok (.new 79, 3) := by decide +kernel
theorem dX4_through_32 : decode cX4_through 32 = .ok (.dup, 1) := by decide +kernel
theorem dX4_through_33 : decode cX4_through 33 = .ok (.ldc 81, 2) := by decide +kernel
theorem dX4_through_35 : decode cX4_through 35 = .ok (.invokespecial 83, 3) := by decide +kernel
theorem dX4_through_38 : decode cX4_through 38 = .ok (.athrow, 1) := by decide +kernel
theorem dX4_through_39 : decode cX4_through 39 = .ok (.iload_n 3, 1) := by decide +kernel
theorem dX4_through_40 : decode cX4_through 40 = .ok (.ifCond .lt 9, 3) := by decide +kernel
theorem dX4_through_43 : decode cX4_through 43 = .ok (.iload_n 3, 1) := by decide +kernel
theorem dX4_through_44 : decode cX4_through 44 = .ok (.bipush 12, 2) := by decide +kernel
theorem dX4_through_46 : decode cX4_through 46 = .ok (.if_icmp .lt 13, 3) := by decide +kernel
theorem dX4_through_49 : decode cX4_through 49 = .ok (.new 79, 3) := by decide +kernel
theorem dX4_through_52 : decode cX4_through 52 = .ok (.dup, 1) := by decide +kernel
theorem dX4_through_53 : decode cX4_through 53 = .ok (.ldc 176, 2) := by decide +kernel
theorem dX4_through_55 : decode cX4_through 55 = .ok (.invokespecial 83, 3) := by decide +kernel
theorem dX4_through_58 : decode cX4_through 58 = .ok (.athrow, 1) := by decide +kernel
theorem dX4_through_59 : decode cX4_through 59 = .ok (.aload_n 0, 1) := by decide +kernel
theorem dX4_through_60 : decode cX4_through 60 = .ok (.aload 4, 2) := by decide +kernel
theorem dX4_through_62 : decode cX4_through 62 = .ok (.iload_n 2, 1) := by decide +kernel
theorem dX4_through_63 : decode cX4_through 63 = .ok (.iload_n 3, 1) := by decide +kernel
theorem dX4_through_64 : decode cX4_through 64 = .ok (.invokevirtual 178, 3) := by decide +kernel
theorem dX4_through_67 : decode cX4_through 67 = .ok (.ireturn, 1) := by decide +kernel
set_option maxRecDepth 20000 in
theorem ggX4_gives_X4_find : GoodIn wsX4_gives wsX4_find := goodIn_r _ [7, 8, 9, 52, 53, 54, 55, 56, 57, 58, 59, 60, 61, 62, 63, 64, 65, 66, 67] (by decide +kernel) (by decide +kernel)
set_option maxRecDepth 20000 in
theorem gX4_gives_X4_find : GoodIn wsX4_gives (wsV RX4 137 RX4 yX4_find wsX4_find) := goodIn_app (goodIn_of _ (by decide +kernel)) ggX4_gives_X4_find
set_option maxRecDepth 20000 in
theorem ggX4_gives_X4_isColumn : GoodIn wsX4_gives wsX4_isColumn := goodIn_r _ [12] (by decide +kernel) (by decide +kernel)
set_option maxRecDepth 20000 in
theorem gX4_gives_X4_isColumn : GoodIn wsX4_gives (va_wsS RX4 75 yX4_isColumn wsX4_isColumn) := goodIn_app (goodIn_of _ (by decide +kernel)) ggX4_gives_X4_isColumn
set_option maxRecDepth 20000 in
theorem ggX4_gives_X4_lightFrom : GoodIn wsX4_gives wsX4_lightFrom := goodIn_r _ [16, 17, 18, 19, 20, 6, 21, 22, 23, 24, 25, 26, 27, 28, 29, 30, 31, 11, 12, 32, 33, 34, 35, 36, 37, 38, 39, 40, 41, 42, 43, 44, 45, 46, 47, 48, 49, 50, 51, 68, 69, 70, 71, 72, 73, 74, 75, 76, 77, 52, 53, 54, 55, 56, 57, 58, 59, 60, 61, 62, 63, 64, 65, 66, 67, 78, 79, 80] (by decide +kernel) (by decide +kernel)
set_option maxRecDepth 20000 in
theorem gX4_gives_X4_lightFrom : GoodIn wsX4_gives (wsV RX4 182 RX4 yX4_lightFrom wsX4_lightFrom) := goodIn_app (goodIn_of _ (by decide +kernel)) ggX4_gives_X4_lightFrom
theorem dX4_gives_0 : decode cX4_gives 0 = .ok (.aload_n 0, 1) := by decide +kernel
theorem dX4_gives_1 : decode cX4_gives 1 = .ok (.iload_n 1, 1) := by decide +kernel
theorem dX4_gives_2 : decode cX4_gives 2 = .ok (.invokevirtual 137, 3) := by decide +kernel
theorem dX4_gives_5 : decode cX4_gives 5 = .ok (.astore_n 3, 1) := by decide +kernel
theorem dX4_gives_6 : decode cX4_gives 6 = .ok (.aload_n 3, 1) := by decide +kernel
theorem dX4_gives_7 : decode cX4_gives 7 = .ok (.ifnonnull 13, 3) := by decide +kernel
theorem dX4_gives_10 : decode cX4_gives 10 = .ok (.new 79, 3) := by decide +kernel
theorem dX4_gives_13 : decode cX4_gives 13 = .ok (.dup, 1) := by decide +kernel
theorem dX4_gives_14 : decode cX4_gives 14 = .ok (.ldc 141, 2) := by decide +kernel
theorem dX4_gives_16 : decode cX4_gives 16 = .ok (.invokespecial 83, 3) := by decide +kernel
theorem dX4_gives_19 : decode cX4_gives 19 = .ok (.athrow, 1) := by decide +kernel
theorem dX4_gives_20 : decode cX4_gives 20 = .ok (.iload_n 2, 1) := by decide +kernel
theorem dX4_gives_21 : decode cX4_gives 21 = .ok (.invokestatic 75, 3) := by decide +kernel
theorem dX4_gives_24 : decode cX4_gives 24 = .ok (.ifCond .ne 13, 3) := by decide +kernel
theorem dX4_gives_27 : decode cX4_gives 27 = .ok (.new 79, 3) := by decide +kernel
theorem dX4_gives_30 : decode cX4_gives 30 = .ok (.dup, 1) := by decide +kernel
theorem dX4_gives_31 : decode cX4_gives 31 = .ok (.ldc 81, 2) := by decide +kernel
theorem dX4_gives_33 : decode cX4_gives 33 = .ok (.invokespecial 83, 3) := by decide +kernel
theorem dX4_gives_36 : decode cX4_gives 36 = .ok (.athrow, 1) := by decide +kernel
theorem dX4_gives_37 : decode cX4_gives 37 = .ok (.aload_n 0, 1) := by decide +kernel
theorem dX4_gives_38 : decode cX4_gives 38 = .ok (.aload_n 3, 1) := by decide +kernel
theorem dX4_gives_39 : decode cX4_gives 39 = .ok (.iload_n 2, 1) := by decide +kernel
theorem dX4_gives_40 : decode cX4_gives 40 = .ok (.invokevirtual 182, 3) := by decide +kernel
theorem dX4_gives_43 : decode cX4_gives 43 = .ok (.ireturn, 1) := by decide +kernel
set_option maxRecDepth 20000 in
theorem ggX4_isSharp_X4_find : GoodIn wsX4_isSharp wsX4_find := goodIn_r _ [7, 8, 9, 23, 24, 25, 26, 27, 28, 29, 30, 31, 32, 33, 34, 35, 36, 37, 38] (by decide +kernel) (by decide +kernel)
set_option maxRecDepth 20000 in
theorem gX4_isSharp_X4_find : GoodIn wsX4_isSharp (wsV RX4 137 RX4 yX4_find wsX4_find) := goodIn_app (goodIn_of _ (by decide +kernel)) ggX4_isSharp_X4_find
set_option maxRecDepth 20000 in
theorem ggX4_isSharp_X4_isColumn : GoodIn wsX4_isSharp wsX4_isColumn := goodIn_r _ [12] (by decide +kernel) (by decide +kernel)
set_option maxRecDepth 20000 in
theorem gX4_isSharp_X4_isColumn : GoodIn wsX4_isSharp (va_wsS RX4 75 yX4_isColumn wsX4_isColumn) := goodIn_app (goodIn_of _ (by decide +kernel)) ggX4_isSharp_X4_isColumn
set_option maxRecDepth 20000 in
theorem ggX4_isSharp_X4_isInFocus : GoodIn wsX4_isSharp wsX4_isInFocus := goodIn_r _ [16, 17, 18, 19, 20, 21, 22, 11, 6, 12, 39, 40, 41, 42, 43, 44, 45, 46, 47, 48, 23, 24, 25, 26, 27, 28, 29, 30, 31, 32, 33, 34, 35, 36, 37, 38, 49, 50, 51] (by decide +kernel) (by decide +kernel)
set_option maxRecDepth 20000 in
theorem gX4_isSharp_X4_isInFocus : GoodIn wsX4_isSharp (wsV RX4 186 RX4 yX4_isInFocus wsX4_isInFocus) := goodIn_app (goodIn_of _ (by decide +kernel)) ggX4_isSharp_X4_isInFocus
theorem dX4_isSharp_0 : decode cX4_isSharp 0 = .ok (.aload_n 0, 1) := by decide +kernel
theorem dX4_isSharp_1 : decode cX4_isSharp 1 = .ok (.iload_n 1, 1) := by decide +kernel
theorem dX4_isSharp_2 : decode cX4_isSharp 2 = .ok (.invokevirtual 137, 3) := by decide +kernel
theorem dX4_isSharp_5 : decode cX4_isSharp 5 = .ok (.astore_n 3, 1) := by decide +kernel
theorem dX4_isSharp_6 : decode cX4_isSharp 6 = .ok (.aload_n 3, 1) := by decide +kernel
theorem dX4_isSharp_7 : decode cX4_isSharp 7 = .ok (.ifnonnull 13, 3) := by decide +kernel
theorem dX4_isSharp_10 : decode cX4_isSharp 10 = .ok (.new 79, 3) := by decide +kernel
theorem dX4_isSharp_13 : decode cX4_isSharp 13 = .ok (.dup, 1) := by decide +kernel
theorem dX4_isSharp_14 : decode cX4_isSharp 14 = .ok (.ldc 141, 2) := by decide +kernel
theorem dX4_isSharp_16 : decode cX4_isSharp 16 = .ok (.invokespecial 83, 3) := by decide +kernel
theorem dX4_isSharp_19 : decode cX4_isSharp 19 = .ok (.athrow, 1) := by decide +kernel
theorem dX4_isSharp_20 : decode cX4_isSharp 20 = .ok (.iload_n 2, 1) := by decide +kernel
theorem dX4_isSharp_21 : decode cX4_isSharp 21 = .ok (.invokestatic 75, 3) := by decide +kernel
theorem dX4_isSharp_24 : decode cX4_isSharp 24 = .ok (.ifCond .ne 13, 3) := by decide +kernel
theorem dX4_isSharp_27 : decode cX4_isSharp 27 = .ok (.new 79, 3) := by decide +kernel
theorem dX4_isSharp_30 : decode cX4_isSharp 30 = .ok (.dup, 1) := by decide +kernel
theorem dX4_isSharp_31 : decode cX4_isSharp 31 = .ok (.ldc 81, 2) := by decide +kernel
theorem dX4_isSharp_33 : decode cX4_isSharp 33 = .ok (.invokespecial 83, 3) := by decide +kernel
theorem dX4_isSharp_36 : decode cX4_isSharp 36 = .ok (.athrow, 1) := by decide +kernel
theorem dX4_isSharp_37 : decode cX4_isSharp 37 = .ok (.aload_n 0, 1) := by decide +kernel
theorem dX4_isSharp_38 : decode cX4_isSharp 38 = .ok (.aload_n 3, 1) := by decide +kernel
theorem dX4_isSharp_39 : decode cX4_isSharp 39 = .ok (.iload_n 2, 1) := by decide +kernel
theorem dX4_isSharp_40 : decode cX4_isSharp 40 = .ok (.invokevirtual 186, 3) := by decide +kernel
theorem dX4_isSharp_43 : decode cX4_isSharp 43 = .ok (.ireturn, 1) := by decide +kernel
set_option maxRecDepth 20000 in
theorem ggX4_light_X4_isColumn : GoodIn wsX4_light wsX4_isColumn := goodIn_r _ [6] (by decide +kernel) (by decide +kernel)
set_option maxRecDepth 20000 in
theorem gX4_light_X4_isColumn : GoodIn wsX4_light (va_wsS RX4 75 yX4_isColumn wsX4_isColumn) := goodIn_app (goodIn_of _ (by decide +kernel)) ggX4_light_X4_isColumn
set_option maxRecDepth 20000 in
theorem ggX4_light_X4_lightOf : GoodIn wsX4_light wsX4_lightOf := goodIn_r _ [10, 11, 12, 13, 5, 14, 15, 16, 17, 18, 19, 20, 21, 22, 23, 24, 25, 26, 27, 28, 29, 30, 31, 32, 33, 34, 35, 36, 37, 38, 39, 40, 41, 4, 6, 42, 43, 44, 45, 46, 47, 48, 49, 50, 51, 52, 53, 54, 55, 56, 57, 58, 59, 60, 61, 62, 63, 64, 65, 66, 67, 68, 69, 70, 71, 72, 73, 74, 75, 76, 77, 78, 79, 80, 81, 82, 83, 84, 85, 86, 87, 88, 89, 90] (by decide +kernel) (by decide +kernel)
set_option maxRecDepth 20000 in
theorem gX4_light_X4_lightOf : GoodIn wsX4_light (wsV RX4 190 RX4 yX4_lightOf wsX4_lightOf) := goodIn_app (goodIn_of _ (by decide +kernel)) ggX4_light_X4_lightOf
theorem dX4_light_0 : decode cX4_light 0 = .ok (.iload_n 1, 1) := by decide +kernel
theorem dX4_light_1 : decode cX4_light 1 = .ok (.invokestatic 75, 3) := by decide +kernel
theorem dX4_light_4 : decode cX4_light 4 = .ok (.ifCond .ne 13, 3) := by decide +kernel
theorem dX4_light_7 : decode cX4_light 7 = .ok (.new 79, 3) := by decide +kernel
theorem dX4_light_10 : decode cX4_light 10 = .ok (.dup, 1) := by decide +kernel
theorem dX4_light_11 : decode cX4_light 11 = .ok (.ldc 81, 2) := by decide +kernel
theorem dX4_light_13 : decode cX4_light 13 = .ok (.invokespecial 83, 3) := by decide +kernel
theorem dX4_light_16 : decode cX4_light 16 = .ok (.athrow, 1) := by decide +kernel
theorem dX4_light_17 : decode cX4_light 17 = .ok (.aload_n 0, 1) := by decide +kernel
theorem dX4_light_18 : decode cX4_light 18 = .ok (.iload_n 1, 1) := by decide +kernel
theorem dX4_light_19 : decode cX4_light 19 = .ok (.invokevirtual 190, 3) := by decide +kernel
theorem dX4_light_22 : decode cX4_light 22 = .ok (.ireturn, 1) := by decide +kernel
set_option maxRecDepth 20000 in
theorem ggX4_blended_X4_find : GoodIn wsX4_blended wsX4_find := goodIn_r _ [8, 9, 10, 63, 64, 65, 66, 67, 68, 69, 70, 71, 72, 73, 74, 75, 76, 77, 78] (by decide +kernel) (by decide +kernel)
set_option maxRecDepth 20000 in
theorem gX4_blended_X4_find : GoodIn wsX4_blended (wsV RX4 137 RX4 yX4_find wsX4_find) := goodIn_app (goodIn_of _ (by decide +kernel)) ggX4_blended_X4_find
set_option maxRecDepth 20000 in
theorem ggX4_blended_X4_isColumn : GoodIn wsX4_blended wsX4_isColumn := goodIn_r _ [13] (by decide +kernel) (by decide +kernel)
set_option maxRecDepth 20000 in
theorem gX4_blended_X4_isColumn : GoodIn wsX4_blended (va_wsS RX4 75 yX4_isColumn wsX4_isColumn) := goodIn_app (goodIn_of _ (by decide +kernel)) ggX4_blended_X4_isColumn
set_option maxRecDepth 20000 in
theorem ggX4_blended_X0_shines : GoodIn wsX4_blended wsX0_shines := goodIn_r _ [17, 18, 19, 79, 80, 81, 82, 83, 84, 85, 86, 87, 88] (by decide +kernel) (by decide +kernel)
set_option maxRecDepth 20000 in
theorem gX4_blended_X0_shines_n193 : GoodIn wsX4_blended (wsX0_shines) := ggX4_blended_X0_shines
set_option maxRecDepth 20000 in
theorem ggX4_blended_X4_lightFrom : GoodIn wsX4_blended wsX4_lightFrom := goodIn_r _ [23, 24, 25, 26, 27, 7, 28, 29, 30, 31, 32, 33, 34, 35, 36, 37, 38, 12, 13, 39, 40, 41, 42, 43, 44, 45, 46, 47, 48, 49, 50, 51, 52, 53, 54, 55, 56, 57, 58, 79, 80, 81, 82, 83, 84, 85, 86, 87, 88, 63, 64, 65, 66, 67, 68, 69, 70, 71, 72, 73, 74, 75, 76, 77, 78, 89, 90, 91] (by decide +kernel) (by decide +kernel)
set_option maxRecDepth 20000 in
theorem gX4_blended_X4_lightFrom : GoodIn wsX4_blended (wsV RX4 182 RX4 yX4_lightFrom wsX4_lightFrom) := goodIn_app (goodIn_of _ (by decide +kernel)) ggX4_blended_X4_lightFrom
set_option maxRecDepth 20000 in
theorem ggX4_blended_X4_lightOf : GoodIn wsX4_blended wsX4_lightOf := goodIn_r _ [62, 4, 5, 6, 7, 8, 9, 10, 14, 15, 16, 17, 18, 19, 20, 21, 22, 23, 24, 25, 26, 27, 28, 29, 30, 31, 32, 33, 34, 35, 36, 37, 38, 12, 13, 39, 40, 41, 42, 43, 44, 45, 46, 47, 48, 49, 50, 51, 52, 53, 54, 55, 56, 57, 58, 63, 64, 65, 66, 67, 68, 69, 70, 71, 72, 73, 74, 75, 76, 77, 78, 79, 80, 81, 82, 83, 84, 85, 86, 87, 88, 89, 90, 91] (by decide +kernel) (by decide +kernel)
set_option maxRecDepth 20000 in
theorem gX4_blended_X4_lightOf : GoodIn wsX4_blended (wsV RX4 190 RX4 yX4_lightOf wsX4_lightOf) := goodIn_app (goodIn_of _ (by decide +kernel)) ggX4_blended_X4_lightOf
theorem dX4_blended_0 : decode cX4_blended 0 = .ok (.aload_n 0, 1) := by decide +kernel
theorem dX4_blended_1 : decode cX4_blended 1 = .ok (.iload_n 1, 1) := by decide +kernel
theorem dX4_blended_2 : decode cX4_blended 2 = .ok (.invokevirtual 137, 3) := by decide +kernel
theorem dX4_blended_5 : decode cX4_blended 5 = .ok (.astore_n 3, 1) := by decide +kernel
theorem dX4_blended_6 : decode cX4_blended 6 = .ok (.aload_n 3, 1) := by decide +kernel
theorem dX4_blended_7 : decode cX4_blended 7 = .ok (.ifnonnull 13, 3) := by decide +kernel
theorem dX4_blended_10 : decode cX4_blended 10 = .ok (.new 79, 3) := by decide +kernel
theorem dX4_blended_13 : decode cX4_blended 13 = .ok (.dup, 1) := by decide +kernel
theorem dX4_blended_14 : decode cX4_blended 14 = .ok (.ldc 141, 2) := by decide +kernel
theorem dX4_blended_16 : decode cX4_blended 16 = .ok (.invokespecial 83, 3) := by decide +kernel
theorem dX4_blended_19 : decode cX4_blended 19 = .ok (.athrow, 1) := by decide +kernel
theorem dX4_blended_20 : decode cX4_blended 20 = .ok (.iload_n 2, 1) := by decide +kernel
theorem dX4_blended_21 : decode cX4_blended 21 = .ok (.invokestatic 75, 3) := by decide +kernel
theorem dX4_blended_24 : decode cX4_blended 24 = .ok (.ifCond .ne 13, 3) := by decide +kernel
theorem dX4_blended_27 : decode cX4_blended 27 = .ok (.new 79, 3) := by decide +kernel
theorem dX4_blended_30 : decode cX4_blended 30 = .ok (.dup, 1) := by decide +kernel
theorem dX4_blended_31 : decode cX4_blended 31 = .ok (.ldc 81, 2) := by decide +kernel
theorem dX4_blended_33 : decode cX4_blended 33 = .ok (.invokespecial 83, 3) := by decide +kernel
theorem dX4_blended_36 : decode cX4_blended 36 = .ok (.athrow, 1) := by decide +kernel
theorem dX4_blended_37 : decode cX4_blended 37 = .ok (.aload_n 3, 1) := by decide +kernel
theorem dX4_blended_38 : decode cX4_blended 38 = .ok (.invokevirtual 193, 3) := by decide +kernel
theorem dX4_blended_41 : decode cX4_blended 41 = .ok (.ifCond .ne 5, 3) := by decide +kernel
theorem dX4_blended_44 : decode cX4_blended 44 = .ok (.iconst 0, 1) := by decide +kernel
theorem dX4_blended_45 : decode cX4_blended 45 = .ok (.ireturn, 1) := by decide +kernel
theorem dX4_blended_46 : decode cX4_blended 46 = .ok (.aload_n 0, 1) := by decide +kernel
theorem dX4_blended_47 : decode cX4_blended 47 = .ok (.aload_n 3, 1) := by decide +kernel
theorem dX4_blended_48 : decode cX4_blended 48 = .ok (.iload_n 2, 1) := by decide +kernel
theorem dX4_blended_49 : decode cX4_blended 49 = .ok (.invokevirtual 182, 3) := by decide +kernel
theorem dX4_blended_52 : decode cX4_blended 52 = .ok (.istore 4, 2) := by decide +kernel
theorem dX4_blended_54 : decode cX4_blended 54 = .ok (.aload_n 0, 1) := by decide +kernel
theorem dX4_blended_55 : decode cX4_blended 55 = .ok (.iload_n 2, 1) := by decide +kernel
theorem dX4_blended_56 : decode cX4_blended 56 = .ok (.invokevirtual 190, 3) := by decide +kernel
theorem dX4_blended_59 : decode cX4_blended 59 = .ok (.istore 5, 2) := by decide +kernel
theorem dX4_blended_61 : decode cX4_blended 61 = .ok (.iload 5, 2) := by decide +kernel
theorem dX4_blended_63 : decode cX4_blended 63 = .ok (.ifCond .le 12, 3) := by decide +kernel
theorem dX4_blended_66 : decode cX4_blended 66 = .ok (.iload 5, 2) := by decide +kernel
theorem dX4_blended_68 : decode cX4_blended 68 = .ok (.aload_n 0, 1) := by decide +kernel
theorem dX4_blended_69 : decode cX4_blended 69 = .ok (.getfield 36, 3) := by decide +kernel
theorem dX4_blended_72 : decode cX4_blended 72 = .ok (.if_icmp .gt 6, 3) := by decide +kernel
theorem dX4_blended_75 : decode cX4_blended 75 = .ok (.iload 4, 2) := by decide +kernel
theorem dX4_blended_77 : decode cX4_blended 77 = .ok (.ireturn, 1) := by decide +kernel
theorem dX4_blended_78 : decode cX4_blended 78 = .ok (.iload 4, 2) := by decide +kernel
theorem dX4_blended_80 : decode cX4_blended 80 = .ok (.i2l, 1) := by decide +kernel
theorem dX4_blended_81 : decode cX4_blended 81 = .ok (.aload_n 0, 1) := by decide +kernel
theorem dX4_blended_82 : decode cX4_blended 82 = .ok (.getfield 36, 3) := by decide +kernel
theorem dX4_blended_85 : decode cX4_blended 85 = .ok (.i2l, 1) := by decide +kernel
theorem dX4_blended_86 : decode cX4_blended 86 = .ok (.lmul, 1) := by decide +kernel
theorem dX4_blended_87 : decode cX4_blended 87 = .ok (.iload 5, 2) := by decide +kernel
theorem dX4_blended_89 : decode cX4_blended 89 = .ok (.i2l, 1) := by decide +kernel
theorem dX4_blended_90 : decode cX4_blended 90 = .ok (.ldiv, 1) := by decide +kernel
theorem dX4_blended_91 : decode cX4_blended 91 = .ok (.l2i, 1) := by decide +kernel
theorem dX4_blended_92 : decode cX4_blended 92 = .ok (.ireturn, 1) := by decide +kernel
set_option maxRecDepth 20000 in
theorem ggX4_covered_X4_isSetOfProjectors : GoodIn wsX4_covered wsX4_isSetOfProjectors := goodIn_r _ [9, 10, 77, 78, 79, 80, 81, 82, 83, 84, 85, 86, 87, 88, 89, 90, 91, 92] (by decide +kernel) (by decide +kernel)
set_option maxRecDepth 20000 in
theorem gX4_covered_X4_isSetOfProjectors : GoodIn wsX4_covered (wsV RX4 197 RX4 yX4_isSetOfProjectors wsX4_isSetOfProjectors) := goodIn_app (goodIn_of _ (by decide +kernel)) ggX4_covered_X4_isSetOfProjectors
set_option maxRecDepth 20000 in
theorem ggX4_covered_X4_surveyLights : GoodIn wsX4_covered wsX4_surveyLights := goodIn_r _ [14, 3, 15, 16, 17, 8, 18, 10, 19, 20, 21, 22, 23, 24, 25, 26, 27, 28, 29, 30, 31, 32, 33, 34, 35, 36, 37, 38, 39, 40, 41, 42, 43, 44, 45, 46, 47, 48, 49, 50, 51, 52, 53, 54, 55, 56, 57, 58, 59, 60, 61, 62, 63, 64, 65, 66, 67, 68, 69, 70, 71, 72, 73, 93, 94, 95, 96, 97, 98, 99, 100, 101, 102, 77, 78, 79, 80, 81, 82, 83, 84, 85, 86, 87, 88, 89, 90, 91, 92, 103, 104, 105, 106, 107] (by decide +kernel) (by decide +kernel)
set_option maxRecDepth 20000 in
theorem gX4_covered_X4_surveyLights : GoodIn wsX4_covered (wsV RX4 202 RX4 yX4_surveyLights wsX4_surveyLights) := goodIn_app (goodIn_of _ (by decide +kernel)) ggX4_covered_X4_surveyLights
set_option maxRecDepth 20000 in
theorem ggX4_covered_X3_isWellCovered : GoodIn wsX4_covered wsX3_isWellCovered := goodIn_r _ [76, 25, 24, 29, 8, 30, 103, 104] (by decide +kernel) (by decide +kernel)
set_option maxRecDepth 20000 in
theorem gX4_covered_X3_isWellCovered_n205 : GoodIn wsX4_covered (wsX3_isWellCovered) := ggX4_covered_X3_isWellCovered
theorem dX4_covered_0 : decode cX4_covered 0 = .ok (.aload_n 0, 1) := by decide +kernel
theorem dX4_covered_1 : decode cX4_covered 1 = .ok (.iload_n 1, 1) := by decide +kernel
theorem dX4_covered_2 : decode cX4_covered 2 = .ok (.invokevirtual 197, 3) := by decide +kernel
theorem dX4_covered_5 : decode cX4_covered 5 = .ok (.ifCond .ne 13, 3) := by decide +kernel
theorem dX4_covered_8 : decode cX4_covered 8 = .ok (.new 86, 3) := by decide +kernel
theorem dX4_covered_11 : decode cX4_covered 11 = .ok (.dup, 1) := by decide +kernel
theorem dX4_covered_12 : decode cX4_covered 12 = .ok (.ldc 200, 2) := by decide +kernel
theorem dX4_covered_14 : decode cX4_covered 14 = .ok (.invokespecial 90, 3) := by decide +kernel
theorem dX4_covered_17 : decode cX4_covered 17 = .ok (.athrow, 1) := by decide +kernel
theorem dX4_covered_18 : decode cX4_covered 18 = .ok (.aload_n 0, 1) := by decide +kernel
theorem dX4_covered_19 : decode cX4_covered 19 = .ok (.invokevirtual 202, 3) := by decide +kernel
theorem dX4_covered_22 : decode cX4_covered 22 = .ok (.iconst 0, 1) := by decide +kernel
theorem dX4_covered_23 : decode cX4_covered 23 = .ok (.istore_n 2, 1) := by decide +kernel
theorem dX4_covered_24 : decode cX4_covered 24 = .ok (.iconst 0, 1) := by decide +kernel
theorem dX4_covered_25 : decode cX4_covered 25 = .ok (.istore_n 3, 1) := by decide +kernel
theorem dX4_covered_26 : decode cX4_covered 26 = .ok (.iload_n 3, 1) := by decide +kernel
theorem dX4_covered_27 : decode cX4_covered 27 = .ok (.bipush 16, 2) := by decide +kernel
theorem dX4_covered_29 : decode cX4_covered 29 = .ok (.if_icmp .ge 31, 3) := by decide +kernel
theorem dX4_covered_32 : decode cX4_covered 32 = .ok (.aload_n 0, 1) := by decide +kernel
theorem dX4_covered_33 : decode cX4_covered 33 = .ok (.getfield 42, 3) := by decide +kernel
theorem dX4_covered_36 : decode cX4_covered 36 = .ok (.iload_n 3, 1) := by decide +kernel
theorem dX4_covered_37 : decode cX4_covered 37 = .ok (.iload_n 1, 1) := by decide +kernel
theorem dX4_covered_38 : decode cX4_covered 38 = .ok (.aload_n 0, 1) := by decide +kernel
theorem dX4_covered_39 : decode cX4_covered 39 = .ok (.getfield 36, 3) := by decide +kernel
theorem dX4_covered_42 : decode cX4_covered 42 = .ok (.invokevirtual 205, 3) := by decide +kernel
theorem dX4_covered_45 : decode cX4_covered 45 = .ok (.ifCond .eq 9, 3) := by decide +kernel
theorem dX4_covered_48 : decode cX4_covered 48 = .ok (.iload_n 2, 1) := by decide +kernel
theorem dX4_covered_49 : decode cX4_covered 49 = .ok (.iconst 1, 1) := by decide +kernel
theorem dX4_covered_50 : decode cX4_covered 50 = .ok (.iload_n 3, 1) := by decide +kernel
theorem dX4_covered_51 : decode cX4_covered 51 = .ok (.ishl, 1) := by decide +kernel
theorem dX4_covered_52 : decode cX4_covered 52 = .ok (.ior, 1) := by decide +kernel
theorem dX4_covered_53 : decode cX4_covered 53 = .ok (.istore_n 2, 1) := by decide +kernel
theorem dX4_covered_54 : decode cX4_covered 54 = .ok (.iinc 3 1, 3) := by decide +kernel
theorem dX4_covered_57 : decode cX4_covered 57 = .ok (.goto (-31), 3) := by decide +kernel
theorem dX4_covered_60 : decode cX4_covered 60 = .ok (.iload_n 2, 1) := by decide +kernel
theorem dX4_covered_61 : decode cX4_covered 61 = .ok (.ireturn, 1) := by decide +kernel
set_option maxRecDepth 20000 in
theorem ggX4_least_X4_surveyLights : GoodIn wsX4_least wsX4_surveyLights := goodIn_r _ [9, 2, 10, 11, 12, 8, 13, 1, 14, 15, 16, 17, 18, 19, 20, 21, 22, 23, 24, 25, 26, 27, 28, 29, 30, 31, 32, 33, 34, 35, 36, 37, 38, 39, 40, 41, 42, 43, 44, 45, 46, 47, 48, 49, 50, 51, 52, 53, 54, 55, 56, 57, 58, 59, 60, 61, 62, 63, 64, 65, 66, 67, 68, 103, 104, 105, 106, 107, 108, 109, 110, 111, 112, 87, 88, 89, 90, 91, 92, 93, 94, 95, 96, 97, 98, 99, 100, 101, 102, 113, 114, 115, 116, 117] (by decide +kernel) (by decide +kernel)
set_option maxRecDepth 20000 in
theorem gX4_least_X4_surveyLights : GoodIn wsX4_least (wsV RX4 202 RX4 yX4_surveyLights wsX4_surveyLights) := goodIn_app (goodIn_of _ (by decide +kernel)) ggX4_least_X4_surveyLights
set_option maxRecDepth 20000 in
theorem ggX4_least_X4_unfailedProjectors : GoodIn wsX4_least wsX4_unfailedProjectors := goodIn_r _ [72, 10, 11, 12, 8, 13, 1, 14, 103, 104, 105, 106, 107, 108, 109, 110, 111, 112, 87, 88, 89, 90, 91, 92, 93, 94, 95, 96, 97, 98, 99, 100, 101, 102] (by decide +kernel) (by decide +kernel)
set_option maxRecDepth 20000 in
theorem gX4_least_X4_unfailedProjectors : GoodIn wsX4_least (wsV RX4 209 RX4 yX4_unfailedProjectors wsX4_unfailedProjectors) := goodIn_app (goodIn_of _ (by decide +kernel)) ggX4_least_X4_unfailedProjectors
set_option maxRecDepth 20000 in
theorem ggX4_least_J6_bitCount_0f7a4 : GoodIn wsX4_least wsJ6_bitCount_0f7a4 := goodIn_r _ [76, 77, 78, 79] (by decide +kernel) (by decide +kernel)
set_option maxRecDepth 20000 in
theorem gX4_least_J6_bitCount_0f7a4 : GoodIn wsX4_least (va_wsS RX4 213 yJ6_bitCount_0f7a4 wsJ6_bitCount_0f7a4) := goodIn_app (goodIn_of _ (by decide +kernel)) ggX4_least_J6_bitCount_0f7a4
set_option maxRecDepth 20000 in
theorem ggX4_least_X3_coversAll : GoodIn wsX4_least wsX3_coversAll := goodIn_r _ [82, 83, 84, 85, 16, 86, 20, 19, 24, 8, 25, 113, 114] (by decide +kernel) (by decide +kernel)
set_option maxRecDepth 20000 in
theorem gX4_least_X3_coversAll_n218 : GoodIn wsX4_least (wsX3_coversAll) := ggX4_least_X3_coversAll
theorem dX4_least_0 : decode cX4_least 0 = .ok (.aload_n 0, 1) := by decide +kernel
theorem dX4_least_1 : decode cX4_least 1 = .ok (.invokevirtual 202, 3) := by decide +kernel
theorem dX4_least_4 : decode cX4_least 4 = .ok (.aload_n 0, 1) := by decide +kernel
theorem dX4_least_5 : decode cX4_least 5 = .ok (.invokevirtual 209, 3) := by decide +kernel
theorem dX4_least_8 : decode cX4_least 8 = .ok (.istore_n 1, 1) := by decide +kernel
theorem dX4_least_9 : decode cX4_least 9 = .ok (.iconst (-1), 1) := by decide +kernel
theorem dX4_least_10 : decode cX4_least 10 = .ok (.istore_n 2, 1) := by decide +kernel
theorem dX4_least_11 : decode cX4_least 11 = .ok (.aload_n 0, 1) := by decide +kernel
theorem dX4_least_12 : decode cX4_least 12 = .ok (.getfield 22, 3) := by decide +kernel
theorem dX4_least_15 : decode cX4_least 15 = .ok (.iconst 1, 1) := by decide +kernel
theorem dX4_least_16 : decode cX4_least 16 = .ok (.iadd, 1) := by decide +kernel
theorem dX4_least_17 : decode cX4_least 17 = .ok (.istore_n 3, 1) := by decide +kernel
theorem dX4_least_18 : decode cX4_least 18 = .ok (.iconst 0, 1) := by decide +kernel
theorem dX4_least_19 : decode cX4_least 19 = .ok (.istore 4, 2) := by decide +kernel
theorem dX4_least_21 : decode cX4_least 21 = .ok (.iload 4, 2) := by decide +kernel
theorem dX4_least_23 : decode cX4_least 23 = .ok (.iload_n 1, 1) := by decide +kernel
theorem dX4_least_24 : decode cX4_least 24 = .ok (.if_icmp .gt 57, 3) := by decide +kernel
theorem dX4_least_27 : decode cX4_least 27 = .ok (.iload 4, 2) := by decide +kernel
theorem dX4_least_29 : decode cX4_least 29 = .ok (.invokestatic 213, 3) := by decide +kernel
theorem dX4_least_32 : decode cX4_least 32 = .ok (.istore 5, 2) := by decide +kernel
theorem dX4_least_34 : decode cX4_least 34 = .ok (.iload 4, 2) := by decide +kernel
theorem dX4_least_36 : decode cX4_least 36 = .ok (.iload_n 1, 1) := by decide +kernel
theorem dX4_least_37 : decode cX4_least 37 = .ok (.iconst (-1), 1) := by decide +kernel
theorem dX4_least_38 : decode cX4_least 38 = .ok (.ixor, 1) := by decide +kernel
theorem dX4_least_39 : decode cX4_least 39 = .ok (.iand, 1) := by decide +kernel
theorem dX4_least_40 : decode cX4_least 40 = .ok (.ifCond .ne 35, 3) := by decide +kernel
theorem dX4_least_43 : decode cX4_least 43 = .ok (.iload 5, 2) := by decide +kernel
theorem dX4_least_45 : decode cX4_least 45 = .ok (.iload_n 3, 1) := by decide +kernel
theorem dX4_least_46 : decode cX4_least 46 = .ok (.if_icmp .ge 29, 3) := by decide +kernel
theorem dX4_least_49 : decode cX4_least 49 = .ok (.aload_n 0, 1) := by decide +kernel
theorem dX4_least_50 : decode cX4_least 50 = .ok (.getfield 42, 3) := by decide +kernel
theorem dX4_least_53 : decode cX4_least 53 = .ok (.aload_n 0, 1) := by decide +kernel
theorem dX4_least_54 : decode cX4_least 54 = .ok (.getfield 33, 3) := by decide +kernel
theorem dX4_least_57 : decode cX4_least 57 = .ok (.iload 4, 2) := by decide +kernel
theorem dX4_least_59 : decode cX4_least 59 = .ok (.aload_n 0, 1) := by decide +kernel
theorem dX4_least_60 : decode cX4_least 60 = .ok (.getfield 36, 3) := by decide +kernel
theorem dX4_least_63 : decode cX4_least 63 = .ok (.invokevirtual 218, 3) := by decide +kernel
theorem dX4_least_66 : decode cX4_least 66 = .ok (.ifCond .eq 9, 3) := by decide +kernel
theorem dX4_least_69 : decode cX4_least 69 = .ok (.iload 4, 2) := by decide +kernel
theorem dX4_least_71 : decode cX4_least 71 = .ok (.istore_n 2, 1) := by decide +kernel
theorem dX4_least_72 : decode cX4_least 72 = .ok (.iload 5, 2) := by decide +kernel
theorem dX4_least_74 : decode cX4_least 74 = .ok (.istore_n 3, 1) := by decide +kernel
theorem dX4_least_75 : decode cX4_least 75 = .ok (.iinc 4 1, 3) := by decide +kernel
theorem dX4_least_78 : decode cX4_least 78 = .ok (.goto (-57), 3) := by decide +kernel
theorem dX4_least_81 : decode cX4_least 81 = .ok (.iload_n 2, 1) := by decide +kernel
theorem dX4_least_82 : decode cX4_least 82 = .ok (.ireturn, 1) := by decide +kernel
set_option maxRecDepth 20000 in
theorem ggX4_leastAnew_X4_surveyLights : GoodIn wsX4_leastAnew wsX4_surveyLights := goodIn_r _ [9, 2, 10, 11, 12, 8, 13, 1, 14, 15, 16, 17, 18, 19, 20, 21, 22, 23, 24, 25, 26, 27, 28, 29, 30, 31, 32, 33, 34, 35, 36, 37, 38, 39, 40, 41, 42, 43, 44, 45, 46, 47, 48, 49, 50, 51, 52, 53, 54, 55, 56, 57, 58, 59, 60, 61, 62, 63, 64, 65, 66, 67, 68, 103, 104, 105, 106, 107, 108, 109, 110, 111, 112, 87, 88, 89, 90, 91, 92, 93, 94, 95, 96, 97, 98, 99, 100, 101, 102, 113, 114, 115, 116, 117] (by decide +kernel) (by decide +kernel)
set_option maxRecDepth 20000 in
theorem gX4_leastAnew_X4_surveyLights : GoodIn wsX4_leastAnew (wsV RX4 202 RX4 yX4_surveyLights wsX4_surveyLights) := goodIn_app (goodIn_of _ (by decide +kernel)) ggX4_leastAnew_X4_surveyLights
set_option maxRecDepth 20000 in
theorem ggX4_leastAnew_X4_unfailedProjectors : GoodIn wsX4_leastAnew wsX4_unfailedProjectors := goodIn_r _ [72, 10, 11, 12, 8, 13, 1, 14, 103, 104, 105, 106, 107, 108, 109, 110, 111, 112, 87, 88, 89, 90, 91, 92, 93, 94, 95, 96, 97, 98, 99, 100, 101, 102] (by decide +kernel) (by decide +kernel)
set_option maxRecDepth 20000 in
theorem gX4_leastAnew_X4_unfailedProjectors : GoodIn wsX4_leastAnew (wsV RX4 209 RX4 yX4_unfailedProjectors wsX4_unfailedProjectors) := goodIn_app (goodIn_of _ (by decide +kernel)) ggX4_leastAnew_X4_unfailedProjectors
set_option maxRecDepth 20000 in
theorem ggX4_leastAnew_J6_bitCount_0f7a4 : GoodIn wsX4_leastAnew wsJ6_bitCount_0f7a4 := goodIn_r _ [76, 77, 78, 79] (by decide +kernel) (by decide +kernel)
set_option maxRecDepth 20000 in
theorem gX4_leastAnew_J6_bitCount_0f7a4 : GoodIn wsX4_leastAnew (va_wsS RX4 213 yJ6_bitCount_0f7a4 wsJ6_bitCount_0f7a4) := goodIn_app (goodIn_of _ (by decide +kernel)) ggX4_leastAnew_J6_bitCount_0f7a4
set_option maxRecDepth 20000 in
theorem ggX4_leastAnew_X3_coversAll : GoodIn wsX4_leastAnew wsX3_coversAll := goodIn_r _ [82, 83, 84, 85, 16, 86, 20, 19, 24, 8, 25, 113, 114] (by decide +kernel) (by decide +kernel)
set_option maxRecDepth 20000 in
theorem gX4_leastAnew_X3_coversAll_n218 : GoodIn wsX4_leastAnew (wsX3_coversAll) := ggX4_leastAnew_X3_coversAll
theorem dX4_leastAnew_0 : decode cX4_leastAnew 0 = .ok (.aload_n 0, 1) := by decide +kernel
theorem dX4_leastAnew_1 : decode cX4_leastAnew 1 = .ok (.invokevirtual 202, 3) := by decide +kernel
theorem dX4_leastAnew_4 : decode cX4_leastAnew 4 = .ok (.aload_n 0, 1) := by decide +kernel
theorem dX4_leastAnew_5 : decode cX4_leastAnew 5 = .ok (.invokevirtual 209, 3) := by decide +kernel
theorem dX4_leastAnew_8 : decode cX4_leastAnew 8 = .ok (.istore_n 1, 1) := by decide +kernel
theorem dX4_leastAnew_9 : decode cX4_leastAnew 9 = .ok (.iconst 0, 1) := by decide +kernel
theorem dX4_leastAnew_10 : decode cX4_leastAnew 10 = .ok (.istore_n 2, 1) := by decide +kernel
theorem dX4_leastAnew_11 : decode cX4_leastAnew 11 = .ok (.iload_n 2, 1) := by decide +kernel
theorem dX4_leastAnew_12 : decode cX4_leastAnew 12 = .ok (.aload_n 0, 1) := by decide +kernel
theorem dX4_leastAnew_13 : decode cX4_leastAnew 13 = .ok (.getfield 22, 3) := by decide +kernel
theorem dX4_leastAnew_16 : decode cX4_leastAnew 16 = .ok (.if_icmp .gt 59, 3) := by decide +kernel
theorem dX4_leastAnew_19 : decode cX4_leastAnew 19 = .ok (.iconst 0, 1) := by decide +kernel
theorem dX4_leastAnew_20 : decode cX4_leastAnew 20 = .ok (.istore_n 3, 1) := by decide +kernel
theorem dX4_leastAnew_21 : decode cX4_leastAnew 21 = .ok (.iload_n 3, 1) := by decide +kernel
theorem dX4_leastAnew_22 : decode cX4_leastAnew 22 = .ok (.iload_n 1, 1) := by decide +kernel
theorem dX4_leastAnew_23 : decode cX4_leastAnew 23 = .ok (.if_icmp .gt 46, 3) := by decide +kernel
theorem dX4_leastAnew_26 : decode cX4_leastAnew 26 = .ok (.iload_n 3, 1) := by decide +kernel
theorem dX4_leastAnew_27 : decode cX4_leastAnew 27 = .ok (.iload_n 1, 1) := by decide +kernel
theorem dX4_leastAnew_28 : decode cX4_leastAnew 28 = .ok (.iconst (-1), 1) := by decide +kernel
theorem dX4_leastAnew_29 : decode cX4_leastAnew 29 = .ok (.ixor, 1) := by decide +kernel
theorem dX4_leastAnew_30 : decode cX4_leastAnew 30 = .ok (.iand, 1) := by decide +kernel
theorem dX4_leastAnew_31 : decode cX4_leastAnew 31 = .ok (.ifCond .ne 32, 3) := by decide +kernel
theorem dX4_leastAnew_34 : decode cX4_leastAnew 34 = .ok (.iload_n 3, 1) := by decide +kernel
theorem dX4_leastAnew_35 : decode cX4_leastAnew 35 = .ok (.invokestatic 213, 3) := by decide +kernel
theorem dX4_leastAnew_38 : decode cX4_leastAnew 38 = .ok (.iload_n 2, 1) := by decide +kernel
theorem dX4_leastAnew_39 : decode cX4_leastAnew 39 = .ok (.if_icmp .ne 24, 3) := by decide +kernel
theorem dX4_leastAnew_42 : decode cX4_leastAnew 42 = .ok (.aload_n 0, 1) := by decide +kernel
theorem dX4_leastAnew_43 : decode cX4_leastAnew 43 = .ok (.getfield 42, 3) := by decide +kernel
theorem dX4_leastAnew_46 : decode cX4_leastAnew 46 = .ok (.aload_n 0, 1) := by decide +kernel
theorem dX4_leastAnew_47 : decode cX4_leastAnew 47 = .ok (.getfield 33, 3) := by decide +kernel
theorem dX4_leastAnew_50 : decode cX4_leastAnew 50 = .ok (.iload_n 3, 1) := by decide +kernel
theorem dX4_leastAnew_51 : decode cX4_leastAnew 51 = .ok (.aload_n 0, 1) := by decide +kernel
theorem dX4_leastAnew_52 : decode cX4_leastAnew 52 = .ok (.getfield 36, 3) := by decide +kernel
theorem dX4_leastAnew_55 : decode cX4_leastAnew 55 = .ok (.invokevirtual 218, 3) := by decide +kernel
theorem dX4_leastAnew_58 : decode cX4_leastAnew 58 = .ok (.ifCond .eq 5, 3) := by decide +kernel
theorem dX4_leastAnew_61 : decode cX4_leastAnew 61 = .ok (.iload_n 2, 1) := by decide +kernel
theorem dX4_leastAnew_62 : decode cX4_leastAnew 62 = .ok (.ireturn, 1) := by decide +kernel
theorem dX4_leastAnew_63 : decode cX4_leastAnew 63 = .ok (.iinc 3 1, 3) := by decide +kernel
theorem dX4_leastAnew_66 : decode cX4_leastAnew 66 = .ok (.goto (-45), 3) := by decide +kernel
theorem dX4_leastAnew_69 : decode cX4_leastAnew 69 = .ok (.iinc 2 1, 3) := by decide +kernel
theorem dX4_leastAnew_72 : decode cX4_leastAnew 72 = .ok (.goto (-61), 3) := by decide +kernel
theorem dX4_leastAnew_75 : decode cX4_leastAnew 75 = .ok (.iconst (-1), 1) := by decide +kernel
theorem dX4_leastAnew_76 : decode cX4_leastAnew 76 = .ok (.ireturn, 1) := by decide +kernel
set_option maxRecDepth 20000 in
theorem ggX4_bears_X4_isSetOfProjectors : GoodIn wsX4_bears wsX4_isSetOfProjectors := goodIn_r _ [10, 11, 82, 83, 84, 85, 86, 87, 88, 89, 90, 91, 92, 93, 94, 95, 96, 97] (by decide +kernel) (by decide +kernel)
set_option maxRecDepth 20000 in
theorem gX4_bears_X4_isSetOfProjectors : GoodIn wsX4_bears (wsV RX4 197 RX4 yX4_isSetOfProjectors wsX4_isSetOfProjectors) := goodIn_app (goodIn_of _ (by decide +kernel)) ggX4_bears_X4_isSetOfProjectors
set_option maxRecDepth 20000 in
theorem ggX4_bears_X4_surveyLights : GoodIn wsX4_bears wsX4_surveyLights := goodIn_r _ [15, 3, 16, 17, 18, 9, 19, 11, 20, 21, 22, 23, 24, 25, 26, 27, 28, 29, 30, 31, 32, 33, 34, 35, 36, 37, 38, 39, 40, 41, 42, 43, 44, 45, 46, 47, 48, 49, 50, 51, 52, 53, 54, 55, 56, 57, 58, 59, 60, 61, 62, 63, 64, 65, 66, 67, 68, 69, 70, 71, 72, 73, 74, 98, 99, 100, 101, 102, 103, 104, 105, 106, 107, 82, 83, 84, 85, 86, 87, 88, 89, 90, 91, 92, 93, 94, 95, 96, 97, 108, 109, 110, 111, 112] (by decide +kernel) (by decide +kernel)
set_option maxRecDepth 20000 in
theorem gX4_bears_X4_surveyLights : GoodIn wsX4_bears (wsV RX4 202 RX4 yX4_surveyLights wsX4_surveyLights) := goodIn_app (goodIn_of _ (by decide +kernel)) ggX4_bears_X4_surveyLights
set_option maxRecDepth 20000 in
theorem ggX4_bears_X3_coversAll : GoodIn wsX4_bears wsX3_coversAll := goodIn_r _ [77, 78, 79, 80, 22, 81, 26, 25, 30, 9, 31, 108, 109] (by decide +kernel) (by decide +kernel)
set_option maxRecDepth 20000 in
theorem gX4_bears_X3_coversAll_n218 : GoodIn wsX4_bears (wsX3_coversAll) := ggX4_bears_X3_coversAll
theorem dX4_bears_0 : decode cX4_bears 0 = .ok (.aload_n 0, 1) := by decide +kernel
theorem dX4_bears_1 : decode cX4_bears 1 = .ok (.iload_n 1, 1) := by decide +kernel
theorem dX4_bears_2 : decode cX4_bears 2 = .ok (.invokevirtual 197, 3) := by decide +kernel
theorem dX4_bears_5 : decode cX4_bears 5 = .ok (.ifCond .ne 13, 3) := by decide +kernel
theorem dX4_bears_8 : decode cX4_bears 8 = .ok (.new 86, 3) := by decide +kernel
theorem dX4_bears_11 : decode cX4_bears 11 = .ok (.dup, 1) := by decide +kernel
theorem dX4_bears_12 : decode cX4_bears 12 = .ok (.ldc 200, 2) := by decide +kernel
theorem dX4_bears_14 : decode cX4_bears 14 = .ok (.invokespecial 90, 3) := by decide +kernel
theorem dX4_bears_17 : decode cX4_bears 17 = .ok (.athrow, 1) := by decide +kernel
theorem dX4_bears_18 : decode cX4_bears 18 = .ok (.aload_n 0, 1) := by decide +kernel
theorem dX4_bears_19 : decode cX4_bears 19 = .ok (.invokevirtual 202, 3) := by decide +kernel
theorem dX4_bears_22 : decode cX4_bears 22 = .ok (.aload_n 0, 1) := by decide +kernel
theorem dX4_bears_23 : decode cX4_bears 23 = .ok (.getfield 42, 3) := by decide +kernel
theorem dX4_bears_26 : decode cX4_bears 26 = .ok (.aload_n 0, 1) := by decide +kernel
theorem dX4_bears_27 : decode cX4_bears 27 = .ok (.getfield 33, 3) := by decide +kernel
theorem dX4_bears_30 : decode cX4_bears 30 = .ok (.iload_n 1, 1) := by decide +kernel
theorem dX4_bears_31 : decode cX4_bears 31 = .ok (.aload_n 0, 1) := by decide +kernel
theorem dX4_bears_32 : decode cX4_bears 32 = .ok (.getfield 36, 3) := by decide +kernel
theorem dX4_bears_35 : decode cX4_bears 35 = .ok (.invokevirtual 218, 3) := by decide +kernel
theorem dX4_bears_38 : decode cX4_bears 38 = .ok (.istore_n 2, 1) := by decide +kernel
theorem dX4_bears_39 : decode cX4_bears 39 = .ok (.iconst 0, 1) := by decide +kernel
theorem dX4_bears_40 : decode cX4_bears 40 = .ok (.istore_n 3, 1) := by decide +kernel
theorem dX4_bears_41 : decode cX4_bears 41 = .ok (.iload_n 2, 1) := by decide +kernel
theorem dX4_bears_42 : decode cX4_bears 42 = .ok (.ifCond .eq 49, 3) := by decide +kernel
theorem dX4_bears_45 : decode cX4_bears 45 = .ok (.iload_n 3, 1) := by decide +kernel
theorem dX4_bears_46 : decode cX4_bears 46 = .ok (.bipush 10, 2) := by decide +kernel
theorem dX4_bears_48 : decode cX4_bears 48 = .ok (.if_icmp .ge 43, 3) := by decide +kernel
theorem dX4_bears_51 : decode cX4_bears 51 = .ok (.iconst 1, 1) := by decide +kernel
theorem dX4_bears_52 : decode cX4_bears 52 = .ok (.iload_n 3, 1) := by decide +kernel
theorem dX4_bears_53 : decode cX4_bears 53 = .ok (.ishl, 1) := by decide +kernel
theorem dX4_bears_54 : decode cX4_bears 54 = .ok (.istore 4, 2) := by decide +kernel
theorem dX4_bears_56 : decode cX4_bears 56 = .ok (.iload_n 1, 1) := by decide +kernel
theorem dX4_bears_57 : decode cX4_bears 57 = .ok (.iload 4, 2) := by decide +kernel
theorem dX4_bears_59 : decode cX4_bears 59 = .ok (.iand, 1) := by decide +kernel
theorem dX4_bears_60 : decode cX4_bears 60 = .ok (.ifCond .eq 25, 3) := by decide +kernel
theorem dX4_bears_63 : decode cX4_bears 63 = .ok (.aload_n 0, 1) := by decide +kernel
theorem dX4_bears_64 : decode cX4_bears 64 = .ok (.getfield 42, 3) := by decide +kernel
theorem dX4_bears_67 : decode cX4_bears 67 = .ok (.aload_n 0, 1) := by decide +kernel
theorem dX4_bears_68 : decode cX4_bears 68 = .ok (.getfield 33, 3) := by decide +kernel
theorem dX4_bears_71 : decode cX4_bears 71 = .ok (.iload_n 1, 1) := by decide +kernel
theorem dX4_bears_72 : decode cX4_bears 72 = .ok (.iload 4, 2) := by decide +kernel
theorem dX4_bears_74 : decode cX4_bears 74 = .ok (.iconst (-1), 1) := by decide +kernel
theorem dX4_bears_75 : decode cX4_bears 75 = .ok (.ixor, 1) := by decide +kernel
theorem dX4_bears_76 : decode cX4_bears 76 = .ok (.iand, 1) := by decide +kernel
theorem dX4_bears_77 : decode cX4_bears 77 = .ok (.aload_n 0, 1) := by decide +kernel
theorem dX4_bears_78 : decode cX4_bears 78 = .ok (.getfield 36, 3) := by decide +kernel
theorem dX4_bears_81 : decode cX4_bears 81 = .ok (.invokevirtual 218, 3) := by decide +kernel
theorem dX4_bears_84 : decode cX4_bears 84 = .ok (.istore_n 2, 1) := by decide +kernel
theorem dX4_bears_85 : decode cX4_bears 85 = .ok (.iinc 3 1, 3) := by decide +kernel
theorem dX4_bears_88 : decode cX4_bears 88 = .ok (.goto (-47), 3) := by decide +kernel
theorem dX4_bears_91 : decode cX4_bears 91 = .ok (.iload_n 2, 1) := by decide +kernel
theorem dX4_bears_92 : decode cX4_bears 92 = .ok (.ireturn, 1) := by decide +kernel
set_option maxRecDepth 20000 in
theorem ggX4_breaches_X4_find : GoodIn wsX4_breaches wsX4_find := goodIn_r _ [5, 6, 7, 58, 59, 60, 61, 62, 63, 64, 65, 66, 67, 68, 69, 70, 71, 72, 73] (by decide +kernel) (by decide +kernel)
set_option maxRecDepth 20000 in
theorem gX4_breaches_X4_find : GoodIn wsX4_breaches (wsV RX4 137 RX4 yX4_find wsX4_find) := goodIn_app (goodIn_of _ (by decide +kernel)) ggX4_breaches_X4_find
set_option maxRecDepth 20000 in
theorem ggX4_breaches_X0_shines : GoodIn wsX4_breaches wsX0_shines := goodIn_r _ [11, 12, 13, 74, 75, 76, 77, 78, 79, 80, 81, 82, 83] (by decide +kernel) (by decide +kernel)
set_option maxRecDepth 20000 in
theorem gX4_breaches_X0_shines_n193 : GoodIn wsX4_breaches (wsX0_shines) := ggX4_breaches_X0_shines
set_option maxRecDepth 20000 in
theorem ggX4_breaches_X4_breachesBy : GoodIn wsX4_breaches wsX4_breachesBy := goodIn_r _ [17, 18, 19, 20, 4, 21, 22, 23, 24, 25, 26, 27, 28, 29, 30, 31, 32, 33, 34, 35, 36, 37, 38, 39, 40, 41, 42, 43, 44, 45, 46, 47, 48, 49, 50, 51, 52, 53, 54, 55, 56, 57, 74, 75, 76, 77, 78, 79, 80, 81, 82, 83, 58, 59, 60, 61, 62, 63, 64, 65, 66, 67, 68, 69, 70, 71, 72, 73, 84, 85, 86] (by decide +kernel) (by decide +kernel)
set_option maxRecDepth 20000 in
theorem gX4_breaches_X4_breachesBy : GoodIn wsX4_breaches (wsV RX4 221 RX4 yX4_breachesBy wsX4_breachesBy) := goodIn_app (goodIn_of _ (by decide +kernel)) ggX4_breaches_X4_breachesBy
theorem dX4_breaches_0 : decode cX4_breaches 0 = .ok (.iconst 0, 1) := by decide +kernel
theorem dX4_breaches_1 : decode cX4_breaches 1 = .ok (.istore_n 1, 1) := by decide +kernel
theorem dX4_breaches_2 : decode cX4_breaches 2 = .ok (.iconst 0, 1) := by decide +kernel
theorem dX4_breaches_3 : decode cX4_breaches 3 = .ok (.istore_n 2, 1) := by decide +kernel
theorem dX4_breaches_4 : decode cX4_breaches 4 = .ok (.iload_n 2, 1) := by decide +kernel
theorem dX4_breaches_5 : decode cX4_breaches 5 = .ok (.bipush 10, 2) := by decide +kernel
theorem dX4_breaches_7 : decode cX4_breaches 7 = .ok (.if_icmp .ge 34, 3) := by decide +kernel
theorem dX4_breaches_10 : decode cX4_breaches 10 = .ok (.aload_n 0, 1) := by decide +kernel
theorem dX4_breaches_11 : decode cX4_breaches 11 = .ok (.iload_n 2, 1) := by decide +kernel
theorem dX4_breaches_12 : decode cX4_breaches 12 = .ok (.invokevirtual 137, 3) := by decide +kernel
theorem dX4_breaches_15 : decode cX4_breaches 15 = .ok (.astore_n 3, 1) := by decide +kernel
theorem dX4_breaches_16 : decode cX4_breaches 16 = .ok (.aload_n 3, 1) := by decide +kernel
theorem dX4_breaches_17 : decode cX4_breaches 17 = .ok (.ifnull 18, 3) := by decide +kernel
theorem dX4_breaches_20 : decode cX4_breaches 20 = .ok (.aload_n 3, 1) := by decide +kernel
theorem dX4_breaches_21 : decode cX4_breaches 21 = .ok (.invokevirtual 193, 3) := by decide +kernel
theorem dX4_breaches_24 : decode cX4_breaches 24 = .ok (.ifCond .eq 11, 3) := by decide +kernel
theorem dX4_breaches_27 : decode cX4_breaches 27 = .ok (.iload_n 1, 1) := by decide +kernel
theorem dX4_breaches_28 : decode cX4_breaches 28 = .ok (.aload_n 0, 1) := by decide +kernel
theorem dX4_breaches_29 : decode cX4_breaches 29 = .ok (.aload_n 3, 1) := by decide +kernel
theorem dX4_breaches_30 : decode cX4_breaches 30 = .ok (.invokevirtual 221, 3) := by decide +kernel
theorem dX4_breaches_33 : decode cX4_breaches 33 = .ok (.iadd, 1) := by decide +kernel
theorem dX4_breaches_34 : decode cX4_breaches 34 = .ok (.istore_n 1, 1) := by decide +kernel
theorem dX4_breaches_35 : decode cX4_breaches 35 = .ok (.iinc 2 1, 3) := by decide +kernel
theorem dX4_breaches_38 : decode cX4_breaches 38 = .ok (.goto (-34), 3) := by decide +kernel
theorem dX4_breaches_41 : decode cX4_breaches 41 = .ok (.iload_n 1, 1) := by decide +kernel
theorem dX4_breaches_42 : decode cX4_breaches 42 = .ok (.ireturn, 1) := by decide +kernel
theorem dX4_curfew_0 : decode cX4_curfew 0 = .ok (.iload_n 1, 1) := by decide +kernel
theorem dX4_curfew_1 : decode cX4_curfew 1 = .ok (.ifCond .lt 10, 3) := by decide +kernel
theorem dX4_curfew_4 : decode cX4_curfew 4 = .ok (.iload_n 1, 1) := by decide +kernel
theorem dX4_curfew_5 : decode cX4_curfew 5 = .ok (.sipush 1440, 3) := by decide +kernel
theorem dX4_curfew_8 : decode cX4_curfew 8 = .ok (.if_icmp .lt 13, 3) := by decide +kernel
theorem dX4_curfew_11 : decode cX4_curfew 11 = .ok (.new 86, 3) := by decide +kernel
theorem dX4_curfew_14 : decode cX4_curfew 14 = .ok (.dup, 1) := by decide +kernel
theorem dX4_curfew_15 : decode cX4_curfew 15 = .ok (.ldc 225, 2) := by decide +kernel
theorem dX4_curfew_17 : decode cX4_curfew 17 = .ok (.invokespecial 90, 3) := by decide +kernel
theorem dX4_curfew_20 : decode cX4_curfew 20 = .ok (.athrow, 1) := by decide +kernel
theorem dX4_curfew_21 : decode cX4_curfew 21 = .ok (.iload_n 2, 1) := by decide +kernel
theorem dX4_curfew_22 : decode cX4_curfew 22 = .ok (.iload_n 1, 1) := by decide +kernel
theorem dX4_curfew_23 : decode cX4_curfew 23 = .ok (.if_icmp .lt 10, 3) := by decide +kernel
theorem dX4_curfew_26 : decode cX4_curfew 26 = .ok (.iload_n 2, 1) := by decide +kernel
theorem dX4_curfew_27 : decode cX4_curfew 27 = .ok (.sipush 1440, 3) := by decide +kernel
theorem dX4_curfew_30 : decode cX4_curfew 30 = .ok (.if_icmp .le 13, 3) := by decide +kernel
theorem dX4_curfew_33 : decode cX4_curfew 33 = .ok (.new 86, 3) := by decide +kernel
theorem dX4_curfew_36 : decode cX4_curfew 36 = .ok (.dup, 1) := by decide +kernel
theorem dX4_curfew_37 : decode cX4_curfew 37 = .ok (.ldc 227, 2) := by decide +kernel
theorem dX4_curfew_39 : decode cX4_curfew 39 = .ok (.invokespecial 90, 3) := by decide +kernel
theorem dX4_curfew_42 : decode cX4_curfew 42 = .ok (.athrow, 1) := by decide +kernel
theorem dX4_curfew_43 : decode cX4_curfew 43 = .ok (.aload_n 0, 1) := by decide +kernel
theorem dX4_curfew_44 : decode cX4_curfew 44 = .ok (.iload_n 1, 1) := by decide +kernel
theorem dX4_curfew_45 : decode cX4_curfew 45 = .ok (.putfield 46, 3) := by decide +kernel
theorem dX4_curfew_48 : decode cX4_curfew 48 = .ok (.aload_n 0, 1) := by decide +kernel
theorem dX4_curfew_49 : decode cX4_curfew 49 = .ok (.iload_n 2, 1) := by decide +kernel
theorem dX4_curfew_50 : decode cX4_curfew 50 = .ok (.putfield 49, 3) := by decide +kernel
theorem dX4_curfew_53 : decode cX4_curfew 53 = .ok (.return_, 1) := by decide +kernel
set_option maxRecDepth 20000 in
theorem ggX4_ready_X4_find : GoodIn wsX4_ready wsX4_find := goodIn_r _ [10, 11, 12, 23, 24, 25, 26, 27, 28, 29, 30, 31, 32, 33, 34, 35, 36, 37, 38] (by decide +kernel) (by decide +kernel)
set_option maxRecDepth 20000 in
theorem gX4_ready_X4_find : GoodIn wsX4_ready (wsV RX4 137 RX4 yX4_find wsX4_find) := goodIn_app (goodIn_of _ (by decide +kernel)) ggX4_ready_X4_find
theorem dX4_ready_0 : decode cX4_ready 0 = .ok (.aload_n 0, 1) := by decide +kernel
theorem dX4_ready_1 : decode cX4_ready 1 = .ok (.iload_n 1, 1) := by decide +kernel
theorem dX4_ready_2 : decode cX4_ready 2 = .ok (.invokevirtual 137, 3) := by decide +kernel
theorem dX4_ready_5 : decode cX4_ready 5 = .ok (.astore_n 3, 1) := by decide +kernel
theorem dX4_ready_6 : decode cX4_ready 6 = .ok (.aload_n 3, 1) := by decide +kernel
theorem dX4_ready_7 : decode cX4_ready 7 = .ok (.ifnonnull 13, 3) := by decide +kernel
theorem dX4_ready_10 : decode cX4_ready 10 = .ok (.new 79, 3) := by decide +kernel
theorem dX4_ready_13 : decode cX4_ready 13 = .ok (.dup, 1) := by decide +kernel
theorem dX4_ready_14 : decode cX4_ready 14 = .ok (.ldc 141, 2) := by decide +kernel
theorem dX4_ready_16 : decode cX4_ready 16 = .ok (.invokespecial 83, 3) := by decide +kernel
theorem dX4_ready_19 : decode cX4_ready 19 = .ok (.athrow, 1) := by decide +kernel
theorem dX4_ready_20 : decode cX4_ready 20 = .ok (.iload_n 2, 1) := by decide +kernel
theorem dX4_ready_21 : decode cX4_ready 21 = .ok (.ifCond .lt 9, 3) := by decide +kernel
theorem dX4_ready_24 : decode cX4_ready 24 = .ok (.iload_n 2, 1) := by decide +kernel
theorem dX4_ready_25 : decode cX4_ready 25 = .ok (.ldc 173, 2) := by decide +kernel
theorem dX4_ready_27 : decode cX4_ready 27 = .ok (.if_icmp .le 13, 3) := by decide +kernel
theorem dX4_ready_30 : decode cX4_ready 30 = .ok (.new 86, 3) := by decide +kernel
theorem dX4_ready_33 : decode cX4_ready 33 = .ok (.dup, 1) := by decide +kernel
theorem dX4_ready_34 : decode cX4_ready 34 = .ok (.ldc 229, 2) := by decide +kernel
theorem dX4_ready_36 : decode cX4_ready 36 = .ok (.invokespecial 90, 3) := by decide +kernel
theorem dX4_ready_39 : decode cX4_ready 39 = .ok (.athrow, 1) := by decide +kernel
theorem dX4_ready_40 : decode cX4_ready 40 = .ok (.aload_n 3, 1) := by decide +kernel
theorem dX4_ready_41 : decode cX4_ready 41 = .ok (.getfield 231, 3) := by decide +kernel
theorem dX4_ready_44 : decode cX4_ready 44 = .ok (.istore 4, 2) := by decide +kernel
theorem dX4_ready_46 : decode cX4_ready 46 = .ok (.aload_n 3, 1) := by decide +kernel
theorem dX4_ready_47 : decode cX4_ready 47 = .ok (.iload_n 2, 1) := by decide +kernel
theorem dX4_ready_48 : decode cX4_ready 48 = .ok (.putfield 231, 3) := by decide +kernel
theorem dX4_ready_51 : decode cX4_ready 51 = .ok (.iload 4, 2) := by decide +kernel
theorem dX4_ready_53 : decode cX4_ready 53 = .ok (.ireturn, 1) := by decide +kernel
set_option maxRecDepth 20000 in
theorem ggX4_propose_X4_findScene : GoodIn wsX4_propose wsX4_findScene := goodIn_r _ [9, 10, 13, 14, 15, 16, 17, 18, 19, 20, 21, 22, 23, 24, 25, 26, 27, 28] (by decide +kernel) (by decide +kernel)
set_option maxRecDepth 20000 in
theorem gX4_propose_X4_findScene : GoodIn wsX4_propose (wsV RX4 234 RX4 yX4_findScene wsX4_findScene) := goodIn_app (goodIn_of _ (by decide +kernel)) ggX4_propose_X4_findScene
theorem dX4_propose_0 : decode cX4_propose 0 = .ok (.aload_n 0, 1) := by decide +kernel
theorem dX4_propose_1 : decode cX4_propose 1 = .ok (.iload_n 1, 1) := by decide +kernel
theorem dX4_propose_2 : decode cX4_propose 2 = .ok (.invokevirtual 234, 3) := by decide +kernel
theorem dX4_propose_5 : decode cX4_propose 5 = .ok (.astore_n 3, 1) := by decide +kernel
theorem dX4_propose_6 : decode cX4_propose 6 = .ok (.aload_n 3, 1) := by decide +kernel
theorem dX4_propose_7 : decode cX4_propose 7 = .ok (.ifnonnull 13, 3) := by decide +kernel
theorem dX4_propose_10 : decode cX4_propose 10 = .ok (.new 79, 3) := by decide +kernel
theorem dX4_propose_13 : decode cX4_propose 13 = .ok (.dup, 1) := by decide +kernel
theorem dX4_propose_14 : decode cX4_propose 14 = .ok (.ldc 238, 2) := by decide +kernel
theorem dX4_propose_16 : decode cX4_propose 16 = .ok (.invokespecial 83, 3) := by decide +kernel
theorem dX4_propose_19 : decode cX4_propose 19 = .ok (.athrow, 1) := by decide +kernel
theorem dX4_propose_20 : decode cX4_propose 20 = .ok (.iload_n 2, 1) := by decide +kernel
theorem dX4_propose_21 : decode cX4_propose 21 = .ok (.ifCond .lt 10, 3) := by decide +kernel
theorem dX4_propose_24 : decode cX4_propose 24 = .ok (.iload_n 2, 1) := by decide +kernel
theorem dX4_propose_25 : decode cX4_propose 25 = .ok (.sipush 999, 3) := by decide +kernel
theorem dX4_propose_28 : decode cX4_propose 28 = .ok (.if_icmp .le 13, 3) := by decide +kernel
theorem dX4_propose_31 : decode cX4_propose 31 = .ok (.new 86, 3) := by decide +kernel
theorem dX4_propose_34 : decode cX4_propose 34 = .ok (.dup, 1) := by decide +kernel
theorem dX4_propose_35 : decode cX4_propose 35 = .ok (.ldc 240, 2) := by decide +kernel
theorem dX4_propose_37 : decode cX4_propose 37 = .ok (.invokespecial 90, 3) := by decide +kernel
theorem dX4_propose_40 : decode cX4_propose 40 = .ok (.athrow, 1) := by decide +kernel
theorem dX4_propose_41 : decode cX4_propose 41 = .ok (.aload_n 3, 1) := by decide +kernel
theorem dX4_propose_42 : decode cX4_propose 42 = .ok (.getfield 242, 3) := by decide +kernel
theorem dX4_propose_45 : decode cX4_propose 45 = .ok (.istore 4, 2) := by decide +kernel
theorem dX4_propose_47 : decode cX4_propose 47 = .ok (.aload_n 3, 1) := by decide +kernel
theorem dX4_propose_48 : decode cX4_propose 48 = .ok (.iload_n 2, 1) := by decide +kernel
theorem dX4_propose_49 : decode cX4_propose 49 = .ok (.putfield 242, 3) := by decide +kernel
theorem dX4_propose_52 : decode cX4_propose 52 = .ok (.iload 4, 2) := by decide +kernel
theorem dX4_propose_54 : decode cX4_propose 54 = .ok (.ireturn, 1) := by decide +kernel
set_option maxRecDepth 20000 in
theorem ggX4_answer_X4_findScene : GoodIn wsX4_answer wsX4_findScene := goodIn_r _ [9, 10, 13, 14, 15, 16, 17, 18, 19, 20, 21, 22, 23, 24, 25, 26, 27, 28] (by decide +kernel) (by decide +kernel)
set_option maxRecDepth 20000 in
theorem gX4_answer_X4_findScene : GoodIn wsX4_answer (wsV RX4 234 RX4 yX4_findScene wsX4_findScene) := goodIn_app (goodIn_of _ (by decide +kernel)) ggX4_answer_X4_findScene
theorem dX4_answer_0 : decode cX4_answer 0 = .ok (.aload_n 0, 1) := by decide +kernel
theorem dX4_answer_1 : decode cX4_answer 1 = .ok (.iload_n 1, 1) := by decide +kernel
theorem dX4_answer_2 : decode cX4_answer 2 = .ok (.invokevirtual 234, 3) := by decide +kernel
theorem dX4_answer_5 : decode cX4_answer 5 = .ok (.astore_n 3, 1) := by decide +kernel
theorem dX4_answer_6 : decode cX4_answer 6 = .ok (.aload_n 3, 1) := by decide +kernel
theorem dX4_answer_7 : decode cX4_answer 7 = .ok (.ifnonnull 13, 3) := by decide +kernel
theorem dX4_answer_10 : decode cX4_answer 10 = .ok (.new 79, 3) := by decide +kernel
theorem dX4_answer_13 : decode cX4_answer 13 = .ok (.dup, 1) := by decide +kernel
theorem dX4_answer_14 : decode cX4_answer 14 = .ok (.ldc 238, 2) := by decide +kernel
theorem dX4_answer_16 : decode cX4_answer 16 = .ok (.invokespecial 83, 3) := by decide +kernel
theorem dX4_answer_19 : decode cX4_answer 19 = .ok (.athrow, 1) := by decide +kernel
theorem dX4_answer_20 : decode cX4_answer 20 = .ok (.aload_n 3, 1) := by decide +kernel
theorem dX4_answer_21 : decode cX4_answer 21 = .ok (.getfield 242, 3) := by decide +kernel
theorem dX4_answer_24 : decode cX4_answer 24 = .ok (.iconst (-1), 1) := by decide +kernel
theorem dX4_answer_25 : decode cX4_answer 25 = .ok (.if_icmp .ne 13, 3) := by decide +kernel
theorem dX4_answer_28 : decode cX4_answer 28 = .ok (.new 108, 3) := by decide +kernel
theorem dX4_answer_31 : decode cX4_answer 31 = .ok (.dup, 1) := by decide +kernel
theorem dX4_answer_32 : decode cX4_answer 32 = .ok (.ldc 245, 2) := by decide +kernel
theorem dX4_answer_34 : decode cX4_answer 34 = .ok (.invokespecial 112, 3) := by decide +kernel
theorem dX4_answer_37 : decode cX4_answer 37 = .ok (.athrow, 1) := by decide +kernel
theorem dX4_answer_38 : decode cX4_answer 38 = .ok (.iload_n 2, 1) := by decide +kernel
theorem dX4_answer_39 : decode cX4_answer 39 = .ok (.ifCond .eq 11, 3) := by decide +kernel
theorem dX4_answer_42 : decode cX4_answer 42 = .ok (.aload_n 3, 1) := by decide +kernel
theorem dX4_answer_43 : decode cX4_answer 43 = .ok (.aload_n 3, 1) := by decide +kernel
theorem dX4_answer_44 : decode cX4_answer 44 = .ok (.getfield 242, 3) := by decide +kernel
theorem dX4_answer_47 : decode cX4_answer 47 = .ok (.putfield 247, 3) := by decide +kernel
theorem dX4_answer_50 : decode cX4_answer 50 = .ok (.aload_n 3, 1) := by decide +kernel
theorem dX4_answer_51 : decode cX4_answer 51 = .ok (.iconst (-1), 1) := by decide +kernel
theorem dX4_answer_52 : decode cX4_answer 52 = .ok (.putfield 242, 3) := by decide +kernel
theorem dX4_answer_55 : decode cX4_answer 55 = .ok (.aload_n 3, 1) := by decide +kernel
theorem dX4_answer_56 : decode cX4_answer 56 = .ok (.getfield 247, 3) := by decide +kernel
theorem dX4_answer_59 : decode cX4_answer 59 = .ok (.ireturn, 1) := by decide +kernel
set_option maxRecDepth 20000 in
theorem ggX4_scene_X4_findScene : GoodIn wsX4_scene wsX4_findScene := goodIn_r _ [7, 8, 11, 12, 13, 14, 15, 16, 17, 18, 19, 20, 21, 22, 23, 24, 25, 26] (by decide +kernel) (by decide +kernel)
set_option maxRecDepth 20000 in
theorem gX4_scene_X4_findScene : GoodIn wsX4_scene (wsV RX4 234 RX4 yX4_findScene wsX4_findScene) := goodIn_app (goodIn_of _ (by decide +kernel)) ggX4_scene_X4_findScene
theorem dX4_scene_0 : decode cX4_scene 0 = .ok (.aload_n 0, 1) := by decide +kernel
theorem dX4_scene_1 : decode cX4_scene 1 = .ok (.iload_n 1, 1) := by decide +kernel
theorem dX4_scene_2 : decode cX4_scene 2 = .ok (.invokevirtual 234, 3) := by decide +kernel
theorem dX4_scene_5 : decode cX4_scene 5 = .ok (.astore_n 3, 1) := by decide +kernel
theorem dX4_scene_6 : decode cX4_scene 6 = .ok (.aload_n 3, 1) := by decide +kernel
theorem dX4_scene_7 : decode cX4_scene 7 = .ok (.ifnonnull 13, 3) := by decide +kernel
theorem dX4_scene_10 : decode cX4_scene 10 = .ok (.new 79, 3) := by decide +kernel
theorem dX4_scene_13 : decode cX4_scene 13 = .ok (.dup, 1) := by decide +kernel
theorem dX4_scene_14 : decode cX4_scene 14 = .ok (.ldc 238, 2) := by decide +kernel
theorem dX4_scene_16 : decode cX4_scene 16 = .ok (.invokespecial 83, 3) := by decide +kernel
theorem dX4_scene_19 : decode cX4_scene 19 = .ok (.athrow, 1) := by decide +kernel
theorem dX4_scene_20 : decode cX4_scene 20 = .ok (.iload_n 2, 1) := by decide +kernel
theorem dX4_scene_21 : decode cX4_scene 21 = .ok (.ifCond .eq 10, 3) := by decide +kernel
theorem dX4_scene_24 : decode cX4_scene 24 = .ok (.aload_n 3, 1) := by decide +kernel
theorem dX4_scene_25 : decode cX4_scene 25 = .ok (.getfield 242, 3) := by decide +kernel
theorem dX4_scene_28 : decode cX4_scene 28 = .ok (.goto 7, 3) := by decide +kernel
theorem dX4_scene_31 : decode cX4_scene 31 = .ok (.aload_n 3, 1) := by decide +kernel
theorem dX4_scene_32 : decode cX4_scene 32 = .ok (.getfield 247, 3) := by decide +kernel
theorem dX4_scene_35 : decode cX4_scene 35 = .ok (.ireturn, 1) := by decide +kernel
set_option maxRecDepth 20000 in
theorem ggX4_show_X4_countOfOn : GoodIn wsX4_show wsX4_countOfOn := goodIn_r _ [12, 13, 14, 15, 11, 16, 17, 18, 35, 36, 37, 38, 39, 40, 41, 42, 43, 44, 19, 20, 21, 22, 23, 24, 25, 26, 27, 28, 29, 30, 31, 32, 33, 34] (by decide +kernel) (by decide +kernel)
set_option maxRecDepth 20000 in
theorem gX4_show_X4_countOfOn : GoodIn wsX4_show (wsV RX4 250 RX4 yX4_countOfOn wsX4_countOfOn) := goodIn_app (goodIn_of _ (by decide +kernel)) ggX4_show_X4_countOfOn
theorem dX4_show_0 : decode cX4_show 0 = .ok (.iload_n 1, 1) := by decide +kernel
theorem dX4_show_1 : decode cX4_show 1 = .ok (.tableswitch 73 0 5 #[39, 45, 51, 56, 61, 67], 39) := by decide +kernel
theorem dX4_show_40 : decode cX4_show 40 = .ok (.aload_n 0, 1) := by decide +kernel
theorem dX4_show_41 : decode cX4_show 41 = .ok (.getfield 59, 3) := by decide +kernel
theorem dX4_show_44 : decode cX4_show 44 = .ok (.i2l, 1) := by decide +kernel
theorem dX4_show_45 : decode cX4_show 45 = .ok (.lreturn, 1) := by decide +kernel
theorem dX4_show_46 : decode cX4_show 46 = .ok (.aload_n 0, 1) := by decide +kernel
theorem dX4_show_47 : decode cX4_show 47 = .ok (.getfield 62, 3) := by decide +kernel
theorem dX4_show_50 : decode cX4_show 50 = .ok (.i2l, 1) := by decide +kernel
theorem dX4_show_51 : decode cX4_show 51 = .ok (.lreturn, 1) := by decide +kernel
theorem dX4_show_52 : decode cX4_show 52 = .ok (.aload_n 0, 1) := by decide +kernel
theorem dX4_show_53 : decode cX4_show 53 = .ok (.getfield 65, 3) := by decide +kernel
theorem dX4_show_56 : decode cX4_show 56 = .ok (.lreturn, 1) := by decide +kernel
theorem dX4_show_57 : decode cX4_show 57 = .ok (.aload_n 0, 1) := by decide +kernel
theorem dX4_show_58 : decode cX4_show 58 = .ok (.getfield 69, 3) := by decide +kernel
theorem dX4_show_61 : decode cX4_show 61 = .ok (.lreturn, 1) := by decide +kernel
theorem dX4_show_62 : decode cX4_show 62 = .ok (.aload_n 0, 1) := by decide +kernel
theorem dX4_show_63 : decode cX4_show 63 = .ok (.getfield 72, 3) := by decide +kernel
theorem dX4_show_66 : decode cX4_show 66 = .ok (.i2l, 1) := by decide +kernel
theorem dX4_show_67 : decode cX4_show 67 = .ok (.lreturn, 1) := by decide +kernel
theorem dX4_show_68 : decode cX4_show 68 = .ok (.aload_n 0, 1) := by decide +kernel
theorem dX4_show_69 : decode cX4_show 69 = .ok (.invokevirtual 250, 3) := by decide +kernel
theorem dX4_show_72 : decode cX4_show 72 = .ok (.i2l, 1) := by decide +kernel
theorem dX4_show_73 : decode cX4_show 73 = .ok (.lreturn, 1) := by decide +kernel
theorem dX4_show_74 : decode cX4_show 74 = .ok (.new 86, 3) := by decide +kernel
theorem dX4_show_77 : decode cX4_show 77 = .ok (.dup, 1) := by decide +kernel
theorem dX4_show_78 : decode cX4_show 78 = .ok (.ldc 102, 2) := by decide +kernel
theorem dX4_show_80 : decode cX4_show 80 = .ok (.invokespecial 90, 3) := by decide +kernel
theorem dX4_show_83 : decode cX4_show 83 = .ok (.athrow, 1) := by decide +kernel
set_option maxRecDepth 20000 in
theorem ggX4_pass_X4_breaches : GoodIn wsX4_pass wsX4_breaches := goodIn_r _ [15, 16, 17, 18, 14, 19, 20, 21, 22, 23, 24, 25, 26, 27, 28, 29, 30, 31, 32, 33, 34, 35, 36, 37, 38, 39, 40, 41, 42, 43, 44, 45, 46, 47, 48, 49, 50, 51, 52, 53, 54, 55, 56, 57, 58, 59, 60, 61, 62, 63, 64, 65, 66, 67, 68, 69, 70, 71, 94, 95, 96, 97, 98, 99, 100, 101, 102, 103, 104, 105, 106, 107, 108, 109, 110, 111, 112, 113, 114, 115, 116, 117, 118, 119, 120, 121, 122] (by decide +kernel) (by decide +kernel)
set_option maxRecDepth 20000 in
theorem gX4_pass_X4_breaches : GoodIn wsX4_pass (wsV RX4 257 RX4 yX4_breaches wsX4_breaches) := goodIn_app (goodIn_of _ (by decide +kernel)) ggX4_pass_X4_breaches
set_option maxRecDepth 20000 in
theorem ggX4_pass_X4_countOfOn : GoodIn wsX4_pass wsX4_countOfOn := goodIn_r _ [75, 16, 17, 18, 14, 19, 20, 21, 110, 111, 112, 113, 114, 115, 116, 117, 118, 119, 94, 95, 96, 97, 98, 99, 100, 101, 102, 103, 104, 105, 106, 107, 108, 109] (by decide +kernel) (by decide +kernel)
set_option maxRecDepth 20000 in
theorem gX4_pass_X4_countOfOn : GoodIn wsX4_pass (wsV RX4 250 RX4 yX4_countOfOn wsX4_countOfOn) := goodIn_app (goodIn_of _ (by decide +kernel)) ggX4_pass_X4_countOfOn
set_option maxRecDepth 20000 in
theorem ggX4_pass_X4_powerOfOn : GoodIn wsX4_pass wsX4_powerOfOn := goodIn_r _ [79, 80, 81, 82, 14, 83, 16, 17, 18, 19, 20, 21, 110, 111, 112, 113, 114, 115, 116, 117, 118, 119, 94, 95, 96, 97, 98, 99, 100, 101, 102, 103, 104, 105, 106, 107, 108, 109] (by decide +kernel) (by decide +kernel)
set_option maxRecDepth 20000 in
theorem gX4_pass_X4_powerOfOn : GoodIn wsX4_pass (wsV RX4 260 RX4 yX4_powerOfOn wsX4_powerOfOn) := goodIn_app (goodIn_of _ (by decide +kernel)) ggX4_pass_X4_powerOfOn
set_option maxRecDepth 20000 in
theorem ggX4_pass_X4_lastFrameOfAll : GoodIn wsX4_pass wsX4_lastFrameOfAll := goodIn_r _ [87, 16, 17, 18, 14, 19, 20, 21, 22, 23, 24, 25, 26, 27, 110, 111, 112, 113, 114, 115, 116, 117, 118, 119, 94, 95, 96, 97, 98, 99, 100, 101, 102, 103, 104, 105, 106, 107, 108, 109] (by decide +kernel) (by decide +kernel)
set_option maxRecDepth 20000 in
theorem gX4_pass_X4_lastFrameOfAll : GoodIn wsX4_pass (wsV RX4 263 RX4 yX4_lastFrameOfAll wsX4_lastFrameOfAll) := goodIn_app (goodIn_of _ (by decide +kernel)) ggX4_pass_X4_lastFrameOfAll
set_option maxRecDepth 20000 in
theorem ggX4_pass_X4_isCurfewNow : GoodIn wsX4_pass wsX4_isCurfewNow := goodIn_r _ [91, 6, 92, 93, 94, 95, 96, 97, 98, 99, 100, 101, 102, 103, 104, 105, 106, 107, 108, 109] (by decide +kernel) (by decide +kernel)
set_option maxRecDepth 20000 in
theorem gX4_pass_X4_isCurfewNow : GoodIn wsX4_pass (wsV RX4 266 RX4 yX4_isCurfewNow wsX4_isCurfewNow) := goodIn_app (goodIn_of _ (by decide +kernel)) ggX4_pass_X4_isCurfewNow
theorem dX4_pass_0 : decode cX4_pass 0 = .ok (.iload_n 1, 1) := by decide +kernel
theorem dX4_pass_1 : decode cX4_pass 1 = .ok (.iconst 1, 1) := by decide +kernel
theorem dX4_pass_2 : decode cX4_pass 2 = .ok (.if_icmp .lt 10, 3) := by decide +kernel
theorem dX4_pass_5 : decode cX4_pass 5 = .ok (.iload_n 1, 1) := by decide +kernel
theorem dX4_pass_6 : decode cX4_pass 6 = .ok (.sipush 1440, 3) := by decide +kernel
theorem dX4_pass_9 : decode cX4_pass 9 = .ok (.if_icmp .le 13, 3) := by decide +kernel
theorem dX4_pass_12 : decode cX4_pass 12 = .ok (.new 86, 3) := by decide +kernel
theorem dX4_pass_15 : decode cX4_pass 15 = .ok (.dup, 1) := by decide +kernel
theorem dX4_pass_16 : decode cX4_pass 16 = .ok (.ldc 253, 2) := by decide +kernel
theorem dX4_pass_18 : decode cX4_pass 18 = .ok (.invokespecial 90, 3) := by decide +kernel
theorem dX4_pass_21 : decode cX4_pass 21 = .ok (.athrow, 1) := by decide +kernel
theorem dX4_pass_22 : decode cX4_pass 22 = .ok (.iload_n 1, 1) := by decide +kernel
theorem dX4_pass_23 : decode cX4_pass 23 = .ok (.ldc 173, 2) := by decide +kernel
theorem dX4_pass_25 : decode cX4_pass 25 = .ok (.aload_n 0, 1) := by decide +kernel
theorem dX4_pass_26 : decode cX4_pass 26 = .ok (.getfield 72, 3) := by decide +kernel
theorem dX4_pass_29 : decode cX4_pass 29 = .ok (.isub, 1) := by decide +kernel
theorem dX4_pass_30 : decode cX4_pass 30 = .ok (.if_icmp .le 13, 3) := by decide +kernel
theorem dX4_pass_33 : decode cX4_pass 33 = .ok (.new 108, 3) := by decide +kernel
theorem dX4_pass_36 : decode cX4_pass 36 = .ok (.dup, 1) := by decide +kernel
theorem dX4_pass_37 : decode cX4_pass 37 = .ok (.ldc 255, 2) := by decide +kernel
theorem dX4_pass_39 : decode cX4_pass 39 = .ok (.invokespecial 112, 3) := by decide +kernel
theorem dX4_pass_42 : decode cX4_pass 42 = .ok (.athrow, 1) := by decide +kernel
theorem dX4_pass_43 : decode cX4_pass 43 = .ok (.aload_n 0, 1) := by decide +kernel
theorem dX4_pass_44 : decode cX4_pass 44 = .ok (.invokevirtual 257, 3) := by decide +kernel
theorem dX4_pass_47 : decode cX4_pass 47 = .ok (.istore_n 2, 1) := by decide +kernel
theorem dX4_pass_48 : decode cX4_pass 48 = .ok (.aload_n 0, 1) := by decide +kernel
theorem dX4_pass_49 : decode cX4_pass 49 = .ok (.invokevirtual 250, 3) := by decide +kernel
theorem dX4_pass_52 : decode cX4_pass 52 = .ok (.istore_n 3, 1) := by decide +kernel
theorem dX4_pass_53 : decode cX4_pass 53 = .ok (.aload_n 0, 1) := by decide +kernel
theorem dX4_pass_54 : decode cX4_pass 54 = .ok (.invokevirtual 260, 3) := by decide +kernel
theorem dX4_pass_57 : decode cX4_pass 57 = .ok (.istore 4, 2) := by decide +kernel
theorem dX4_pass_59 : decode cX4_pass 59 = .ok (.aload_n 0, 1) := by decide +kernel
theorem dX4_pass_60 : decode cX4_pass 60 = .ok (.invokevirtual 263, 3) := by decide +kernel
theorem dX4_pass_63 : decode cX4_pass 63 = .ok (.istore 5, 2) := by decide +kernel
theorem dX4_pass_65 : decode cX4_pass 65 = .ok (.iconst 0, 1) := by decide +kernel
theorem dX4_pass_66 : decode cX4_pass 66 = .ok (.istore 6, 2) := by decide +kernel
theorem dX4_pass_68 : decode cX4_pass 68 = .ok (.iload 6, 2) := by decide +kernel
theorem dX4_pass_70 : decode cX4_pass 70 = .ok (.iload_n 1, 1) := by decide +kernel
theorem dX4_pass_71 : decode cX4_pass 71 = .ok (.if_icmp .ge 87, 3) := by decide +kernel
theorem dX4_pass_74 : decode cX4_pass 74 = .ok (.aload_n 0, 1) := by decide +kernel
theorem dX4_pass_75 : decode cX4_pass 75 = .ok (.dup, 1) := by decide +kernel
theorem dX4_pass_76 : decode cX4_pass 76 = .ok (.getfield 65, 3) := by decide +kernel
theorem dX4_pass_79 : decode cX4_pass 79 = .ok (.iload_n 2, 1) := by decide +kernel
theorem dX4_pass_80 : decode cX4_pass 80 = .ok (.aload_n 0, 1) := by decide +kernel
theorem dX4_pass_81 : decode cX4_pass 81 = .ok (.invokevirtual 266, 3) := by decide +kernel
theorem dX4_pass_84 : decode cX4_pass 84 = .ok (.ifCond .eq 7, 3) := by decide +kernel
theorem dX4_pass_87 : decode cX4_pass 87 = .ok (.iload_n 3, 1) := by decide +kernel
theorem dX4_pass_88 : decode cX4_pass 88 = .ok (.goto 4, 3) := by decide +kernel
theorem dX4_pass_91 : decode cX4_pass 91 = .ok (.iconst 0, 1) := by decide +kernel
theorem dX4_pass_92 : decode cX4_pass 92 = .ok (.iadd, 1) := by decide +kernel
theorem dX4_pass_93 : decode cX4_pass 93 = .ok (.i2l, 1) := by decide +kernel
theorem dX4_pass_94 : decode cX4_pass 94 = .ok (.ladd, 1) := by decide +kernel
theorem dX4_pass_95 : decode cX4_pass 95 = .ok (.putfield 65, 3) := by decide +kernel
theorem dX4_pass_98 : decode cX4_pass 98 = .ok (.aload_n 0, 1) := by decide +kernel
theorem dX4_pass_99 : decode cX4_pass 99 = .ok (.dup, 1) := by decide +kernel
theorem dX4_pass_100 : decode cX4_pass 100 = .ok (.getfield 69, 3) := by decide +kernel
theorem dX4_pass_103 : decode cX4_pass 103 = .ok (.iload 4, 2) := by decide +kernel
theorem dX4_pass_105 : decode cX4_pass 105 = .ok (.i2l, 1) := by decide +kernel
theorem dX4_pass_106 : decode cX4_pass 106 = .ok (.ladd, 1) := by decide +kernel
theorem dX4_pass_107 : decode cX4_pass 107 = .ok (.putfield 69, 3) := by decide +kernel
theorem dX4_pass_110 : decode cX4_pass 110 = .ok (.aload_n 0, 1) := by decide +kernel
theorem dX4_pass_111 : decode cX4_pass 111 = .ok (.getfield 59, 3) := by decide +kernel
theorem dX4_pass_114 : decode cX4_pass 114 = .ok (.iload 5, 2) := by decide +kernel
theorem dX4_pass_116 : decode cX4_pass 116 = .ok (.if_icmp .ge 16, 3) := by decide +kernel
theorem dX4_pass_119 : decode cX4_pass 119 = .ok (.aload_n 0, 1) := by decide +kernel
theorem dX4_pass_120 : decode cX4_pass 120 = .ok (.dup, 1) := by decide +kernel
theorem dX4_pass_121 : decode cX4_pass 121 = .ok (.getfield 59, 3) := by decide +kernel
theorem dX4_pass_124 : decode cX4_pass 124 = .ok (.iconst 1, 1) := by decide +kernel
theorem dX4_pass_125 : decode cX4_pass 125 = .ok (.iadd, 1) := by decide +kernel
theorem dX4_pass_126 : decode cX4_pass 126 = .ok (.putfield 59, 3) := by decide +kernel
theorem dX4_pass_129 : decode cX4_pass 129 = .ok (.goto 13, 3) := by decide +kernel
theorem dX4_pass_132 : decode cX4_pass 132 = .ok (.aload_n 0, 1) := by decide +kernel
theorem dX4_pass_133 : decode cX4_pass 133 = .ok (.dup, 1) := by decide +kernel
theorem dX4_pass_134 : decode cX4_pass 134 = .ok (.getfield 62, 3) := by decide +kernel
theorem dX4_pass_137 : decode cX4_pass 137 = .ok (.iconst 1, 1) := by decide +kernel
theorem dX4_pass_138 : decode cX4_pass 138 = .ok (.iadd, 1) := by decide +kernel
theorem dX4_pass_139 : decode cX4_pass 139 = .ok (.putfield 62, 3) := by decide +kernel
theorem dX4_pass_142 : decode cX4_pass 142 = .ok (.aload_n 0, 1) := by decide +kernel
theorem dX4_pass_143 : decode cX4_pass 143 = .ok (.dup, 1) := by decide +kernel
theorem dX4_pass_144 : decode cX4_pass 144 = .ok (.getfield 72, 3) := by decide +kernel
theorem dX4_pass_147 : decode cX4_pass 147 = .ok (.iconst 1, 1) := by decide +kernel
theorem dX4_pass_148 : decode cX4_pass 148 = .ok (.iadd, 1) := by decide +kernel
theorem dX4_pass_149 : decode cX4_pass 149 = .ok (.putfield 72, 3) := by decide +kernel
theorem dX4_pass_152 : decode cX4_pass 152 = .ok (.iinc 6 1, 3) := by decide +kernel
theorem dX4_pass_155 : decode cX4_pass 155 = .ok (.goto (-87), 3) := by decide +kernel
theorem dX4_pass_158 : decode cX4_pass 158 = .ok (.aload_n 0, 1) := by decide +kernel
theorem dX4_pass_159 : decode cX4_pass 159 = .ok (.getfield 72, 3) := by decide +kernel
theorem dX4_pass_162 : decode cX4_pass 162 = .ok (.ireturn, 1) := by decide +kernel
