theorem dX5_init_0 : decode cX5_init 0 = .ok (.aload_n 0, 1) := by decide +kernel
theorem dX5_init_1 : decode cX5_init 1 = .ok (.invokespecial 1, 3) := by decide +kernel
theorem dX5_init_4 : decode cX5_init 4 = .ok (.aload_n 0, 1) := by decide +kernel
theorem dX5_init_5 : decode cX5_init 5 = .ok (.bipush 16, 2) := by decide +kernel
theorem dX5_init_7 : decode cX5_init 7 = .ok (.newarray .int, 2) := by decide +kernel
theorem dX5_init_9 : decode cX5_init 9 = .ok (.putfield 7, 3) := by decide +kernel
theorem dX5_init_12 : decode cX5_init 12 = .ok (.aload_n 0, 1) := by decide +kernel
theorem dX5_init_13 : decode cX5_init 13 = .ok (.bipush 16, 2) := by decide +kernel
theorem dX5_init_15 : decode cX5_init 15 = .ok (.newarray .int, 2) := by decide +kernel
theorem dX5_init_17 : decode cX5_init 17 = .ok (.putfield 13, 3) := by decide +kernel
theorem dX5_init_20 : decode cX5_init 20 = .ok (.aload_n 0, 1) := by decide +kernel
theorem dX5_init_21 : decode cX5_init 21 = .ok (.iconst 3, 1) := by decide +kernel
theorem dX5_init_22 : decode cX5_init 22 = .ok (.newarray .int, 2) := by decide +kernel
theorem dX5_init_24 : decode cX5_init 24 = .ok (.dup, 1) := by decide +kernel
theorem dX5_init_25 : decode cX5_init 25 = .ok (.iconst 0, 1) := by decide +kernel
theorem dX5_init_26 : decode cX5_init 26 = .ok (.bipush 60, 2) := by decide +kernel
theorem dX5_init_28 : decode cX5_init 28 = .ok (.iastore, 1) := by decide +kernel
theorem dX5_init_29 : decode cX5_init 29 = .ok (.dup, 1) := by decide +kernel
theorem dX5_init_30 : decode cX5_init 30 = .ok (.iconst 1, 1) := by decide +kernel
theorem dX5_init_31 : decode cX5_init 31 = .ok (.bipush 40, 2) := by decide +kernel
theorem dX5_init_33 : decode cX5_init 33 = .ok (.iastore, 1) := by decide +kernel
theorem dX5_init_34 : decode cX5_init 34 = .ok (.dup, 1) := by decide +kernel
theorem dX5_init_35 : decode cX5_init 35 = .ok (.iconst 2, 1) := by decide +kernel
theorem dX5_init_36 : decode cX5_init 36 = .ok (.iconst 0, 1) := by decide +kernel
theorem dX5_init_37 : decode cX5_init 37 = .ok (.iastore, 1) := by decide +kernel
theorem dX5_init_38 : decode cX5_init 38 = .ok (.putfield 16, 3) := by decide +kernel
theorem dX5_init_41 : decode cX5_init 41 = .ok (.aload_n 0, 1) := by decide +kernel
theorem dX5_init_42 : decode cX5_init 42 = .ok (.sipush 192, 3) := by decide +kernel
theorem dX5_init_45 : decode cX5_init 45 = .ok (.newarray .int, 2) := by decide +kernel
theorem dX5_init_47 : decode cX5_init 47 = .ok (.putfield 19, 3) := by decide +kernel
theorem dX5_init_50 : decode cX5_init 50 = .ok (.aload_n 0, 1) := by decide +kernel
theorem dX5_init_51 : decode cX5_init 51 = .ok (.sipush 192, 3) := by decide +kernel
theorem dX5_init_54 : decode cX5_init 54 = .ok (.newarray .boolean, 2) := by decide +kernel
theorem dX5_init_56 : decode cX5_init 56 = .ok (.putfield 22, 3) := by decide +kernel
theorem dX5_init_59 : decode cX5_init 59 = .ok (.aload_n 0, 1) := by decide +kernel
theorem dX5_init_60 : decode cX5_init 60 = .ok (.bipush 100, 2) := by decide +kernel
theorem dX5_init_62 : decode cX5_init 62 = .ok (.putfield 26, 3) := by decide +kernel
theorem dX5_init_65 : decode cX5_init 65 = .ok (.aload_n 0, 1) := by decide +kernel
theorem dX5_init_66 : decode cX5_init 66 = .ok (.bipush 10, 2) := by decide +kernel
theorem dX5_init_68 : decode cX5_init 68 = .ok (.newarray .int, 2) := by decide +kernel
theorem dX5_init_70 : decode cX5_init 70 = .ok (.putfield 30, 3) := by decide +kernel
theorem dX5_init_73 : decode cX5_init 73 = .ok (.aload_n 0, 1) := by decide +kernel
theorem dX5_init_74 : decode cX5_init 74 = .ok (.bipush 10, 2) := by decide +kernel
theorem dX5_init_76 : decode cX5_init 76 = .ok (.newarray .int, 2) := by decide +kernel
theorem dX5_init_78 : decode cX5_init 78 = .ok (.putfield 33, 3) := by decide +kernel
theorem dX5_init_81 : decode cX5_init 81 = .ok (.aload_n 0, 1) := by decide +kernel
theorem dX5_init_82 : decode cX5_init 82 = .ok (.bipush 10, 2) := by decide +kernel
theorem dX5_init_84 : decode cX5_init 84 = .ok (.newarray .int, 2) := by decide +kernel
theorem dX5_init_86 : decode cX5_init 86 = .ok (.putfield 36, 3) := by decide +kernel
theorem dX5_init_89 : decode cX5_init 89 = .ok (.aload_n 0, 1) := by decide +kernel
theorem dX5_init_90 : decode cX5_init 90 = .ok (.bipush 10, 2) := by decide +kernel
theorem dX5_init_92 : decode cX5_init 92 = .ok (.newarray .int, 2) := by decide +kernel
theorem dX5_init_94 : decode cX5_init 94 = .ok (.putfield 39, 3) := by decide +kernel
theorem dX5_init_97 : decode cX5_init 97 = .ok (.aload_n 0, 1) := by decide +kernel
theorem dX5_init_98 : decode cX5_init 98 = .ok (.bipush 10, 2) := by decide +kernel
theorem dX5_init_100 : decode cX5_init 100 = .ok (.newarray .int, 2) := by decide +kernel
theorem dX5_init_102 : decode cX5_init 102 = .ok (.putfield 42, 3) := by decide +kernel
theorem dX5_init_105 : decode cX5_init 105 = .ok (.aload_n 0, 1) := by decide +kernel
theorem dX5_init_106 : decode cX5_init 106 = .ok (.bipush 10, 2) := by decide +kernel
theorem dX5_init_108 : decode cX5_init 108 = .ok (.newarray .int, 2) := by decide +kernel
theorem dX5_init_110 : decode cX5_init 110 = .ok (.putfield 45, 3) := by decide +kernel
theorem dX5_init_113 : decode cX5_init 113 = .ok (.aload_n 0, 1) := by decide +kernel
theorem dX5_init_114 : decode cX5_init 114 = .ok (.bipush 10, 2) := by decide +kernel
theorem dX5_init_116 : decode cX5_init 116 = .ok (.newarray .int, 2) := by decide +kernel
theorem dX5_init_118 : decode cX5_init 118 = .ok (.dup, 1) := by decide +kernel
theorem dX5_init_119 : decode cX5_init 119 = .ok (.iconst 0, 1) := by decide +kernel
theorem dX5_init_120 : decode cX5_init 120 = .ok (.iconst (-1), 1) := by decide +kernel
theorem dX5_init_121 : decode cX5_init 121 = .ok (.iastore, 1) := by decide +kernel
theorem dX5_init_122 : decode cX5_init 122 = .ok (.dup, 1) := by decide +kernel
theorem dX5_init_123 : decode cX5_init 123 = .ok (.iconst 1, 1) := by decide +kernel
theorem dX5_init_124 : decode cX5_init 124 = .ok (.iconst (-1), 1) := by decide +kernel
theorem dX5_init_125 : decode cX5_init 125 = .ok (.iastore, 1) := by decide +kernel
theorem dX5_init_126 : decode cX5_init 126 = .ok (.dup, 1) := by decide +kernel
theorem dX5_init_127 : decode cX5_init 127 = .ok (.iconst 2, 1) := by decide +kernel
theorem dX5_init_128 : decode cX5_init 128 = .ok (.iconst (-1), 1) := by decide +kernel
theorem dX5_init_129 : decode cX5_init 129 = .ok (.iastore, 1) := by decide +kernel
theorem dX5_init_130 : decode cX5_init 130 = .ok (.dup, 1) := by decide +kernel
theorem dX5_init_131 : decode cX5_init 131 = .ok (.iconst 3, 1) := by decide +kernel
theorem dX5_init_132 : decode cX5_init 132 = .ok (.iconst (-1), 1) := by decide +kernel
theorem dX5_init_133 : decode cX5_init 133 = .ok (.iastore, 1) := by decide +kernel
theorem dX5_init_134 : decode cX5_init 134 = .ok (.dup, 1) := by decide +kernel
theorem dX5_init_135 : decode cX5_init 135 = .ok (.iconst 4, 1) := by decide +kernel
theorem dX5_init_136 : decode cX5_init 136 = .ok (.iconst (-1), 1) := by decide +kernel
theorem dX5_init_137 : decode cX5_init 137 = .ok (.iastore, 1) := by decide +kernel
theorem dX5_init_138 : decode cX5_init 138 = .ok (.dup, 1) := by decide +kernel
theorem dX5_init_139 : decode cX5_init 139 = .ok (.iconst 5, 1) := by decide +kernel
theorem dX5_init_140 : decode cX5_init 140 = .ok (.iconst (-1), 1) := by decide +kernel
theorem dX5_init_141 : decode cX5_init 141 = .ok (.iastore, 1) := by decide +kernel
theorem dX5_init_142 : decode cX5_init 142 = .ok (.dup, 1) := by decide +kernel
theorem dX5_init_143 : decode cX5_init 143 = .ok (.bipush 6, 2) := by decide +kernel
theorem dX5_init_145 : decode cX5_init 145 = .ok (.iconst (-1), 1) := by decide +kernel
theorem dX5_init_146 : decode cX5_init 146 = .ok (.iastore, 1) := by decide +kernel
theorem dX5_init_147 : decode cX5_init 147 = .ok (.dup, 1) := by decide +kernel
theorem dX5_init_148 : decode cX5_init 148 = .ok (.bipush 7, 2) := by decide +kernel
theorem dX5_init_150 : decode cX5_init 150 = .ok (.iconst (-1), 1) := by decide +kernel
theorem dX5_init_151 : decode cX5_init 151 = .ok (.iastore, 1) := by decide +kernel
theorem dX5_init_152 : decode cX5_init 152 = .ok (.dup, 1) := by decide +kernel
theorem dX5_init_153 : decode cX5_init 153 = .ok (.bipush 8, 2) := by decide +kernel
theorem dX5_init_155 : decode cX5_init 155 = .ok (.iconst (-1), 1) := by decide +kernel
theorem dX5_init_156 : decode cX5_init 156 = .ok (.iastore, 1) := by decide +kernel
theorem dX5_init_157 : decode cX5_init 157 = .ok (.dup, 1) := by decide +kernel
theorem dX5_init_158 : decode cX5_init 158 = .ok (.bipush 9, 2) := by decide +kernel
theorem dX5_init_160 : decode cX5_init 160 = .ok (.iconst (-1), 1) := by decide +kernel
theorem dX5_init_161 : decode cX5_init 161 = .ok (.iastore, 1) := by decide +kernel
theorem dX5_init_162 : decode cX5_init 162 = .ok (.putfield 48, 3) := by decide +kernel
theorem dX5_init_165 : decode cX5_init 165 = .ok (.aload_n 0, 1) := by decide +kernel
theorem dX5_init_166 : decode cX5_init 166 = .ok (.bipush 10, 2) := by decide +kernel
theorem dX5_init_168 : decode cX5_init 168 = .ok (.newarray .boolean, 2) := by decide +kernel
theorem dX5_init_170 : decode cX5_init 170 = .ok (.putfield 51, 3) := by decide +kernel
theorem dX5_init_173 : decode cX5_init 173 = .ok (.aload_n 0, 1) := by decide +kernel
theorem dX5_init_174 : decode cX5_init 174 = .ok (.bipush 10, 2) := by decide +kernel
theorem dX5_init_176 : decode cX5_init 176 = .ok (.newarray .boolean, 2) := by decide +kernel
theorem dX5_init_178 : decode cX5_init 178 = .ok (.putfield 54, 3) := by decide +kernel
theorem dX5_init_181 : decode cX5_init 181 = .ok (.aload_n 0, 1) := by decide +kernel
theorem dX5_init_182 : decode cX5_init 182 = .ok (.bipush 10, 2) := by decide +kernel
theorem dX5_init_184 : decode cX5_init 184 = .ok (.newarray .int, 2) := by decide +kernel
theorem dX5_init_186 : decode cX5_init 186 = .ok (.putfield 57, 3) := by decide +kernel
theorem dX5_init_189 : decode cX5_init 189 = .ok (.aload_n 0, 1) := by decide +kernel
theorem dX5_init_190 : decode cX5_init 190 = .ok (.iconst 3, 1) := by decide +kernel
theorem dX5_init_191 : decode cX5_init 191 = .ok (.newarray .int, 2) := by decide +kernel
theorem dX5_init_193 : decode cX5_init 193 = .ok (.dup, 1) := by decide +kernel
theorem dX5_init_194 : decode cX5_init 194 = .ok (.iconst 0, 1) := by decide +kernel
theorem dX5_init_195 : decode cX5_init 195 = .ok (.sipush 9999, 3) := by decide +kernel
theorem dX5_init_198 : decode cX5_init 198 = .ok (.iastore, 1) := by decide +kernel
theorem dX5_init_199 : decode cX5_init 199 = .ok (.dup, 1) := by decide +kernel
theorem dX5_init_200 : decode cX5_init 200 = .ok (.iconst 1, 1) := by decide +kernel
theorem dX5_init_201 : decode cX5_init 201 = .ok (.sipush 9999, 3) := by decide +kernel
theorem dX5_init_204 : decode cX5_init 204 = .ok (.iastore, 1) := by decide +kernel
theorem dX5_init_205 : decode cX5_init 205 = .ok (.dup, 1) := by decide +kernel
theorem dX5_init_206 : decode cX5_init 206 = .ok (.iconst 2, 1) := by decide +kernel
theorem dX5_init_207 : decode cX5_init 207 = .ok (.sipush 9999, 3) := by decide +kernel
theorem dX5_init_210 : decode cX5_init 210 = .ok (.iastore, 1) := by decide +kernel
theorem dX5_init_211 : decode cX5_init 211 = .ok (.putfield 60, 3) := by decide +kernel
theorem dX5_init_214 : decode cX5_init 214 = .ok (.aload_n 0, 1) := by decide +kernel
theorem dX5_init_215 : decode cX5_init 215 = .ok (.iconst 4, 1) := by decide +kernel
theorem dX5_init_216 : decode cX5_init 216 = .ok (.newarray .int, 2) := by decide +kernel
theorem dX5_init_218 : decode cX5_init 218 = .ok (.putfield 63, 3) := by decide +kernel
theorem dX5_init_221 : decode cX5_init 221 = .ok (.aload_n 0, 1) := by decide +kernel
theorem dX5_init_222 : decode cX5_init 222 = .ok (.iconst 4, 1) := by decide +kernel
theorem dX5_init_223 : decode cX5_init 223 = .ok (.newarray .int, 2) := by decide +kernel
theorem dX5_init_225 : decode cX5_init 225 = .ok (.dup, 1) := by decide +kernel
theorem dX5_init_226 : decode cX5_init 226 = .ok (.iconst 0, 1) := by decide +kernel
theorem dX5_init_227 : decode cX5_init 227 = .ok (.iconst (-1), 1) := by decide +kernel
theorem dX5_init_228 : decode cX5_init 228 = .ok (.iastore, 1) := by decide +kernel
theorem dX5_init_229 : decode cX5_init 229 = .ok (.dup, 1) := by decide +kernel
theorem dX5_init_230 : decode cX5_init 230 = .ok (.iconst 1, 1) := by decide +kernel
theorem dX5_init_231 : decode cX5_init 231 = .ok (.iconst (-1), 1) := by decide +kernel
theorem dX5_init_232 : decode cX5_init 232 = .ok (.iastore, 1) := by decide +kernel
theorem dX5_init_233 : decode cX5_init 233 = .ok (.dup, 1) := by decide +kernel
theorem dX5_init_234 : decode cX5_init 234 = .ok (.iconst 2, 1) := by decide +kernel
theorem dX5_init_235 : decode cX5_init 235 = .ok (.iconst (-1), 1) := by decide +kernel
theorem dX5_init_236 : decode cX5_init 236 = .ok (.iastore, 1) := by decide +kernel
theorem dX5_init_237 : decode cX5_init 237 = .ok (.dup, 1) := by decide +kernel
theorem dX5_init_238 : decode cX5_init 238 = .ok (.iconst 3, 1) := by decide +kernel
theorem dX5_init_239 : decode cX5_init 239 = .ok (.iconst (-1), 1) := by decide +kernel
theorem dX5_init_240 : decode cX5_init 240 = .ok (.iastore, 1) := by decide +kernel
theorem dX5_init_241 : decode cX5_init 241 = .ok (.putfield 66, 3) := by decide +kernel
theorem dX5_init_244 : decode cX5_init 244 = .ok (.return_, 1) := by decide +kernel
theorem dX5_thrown_0 : decode cX5_thrown 0 = .ok (.aload_n 0, 1) := by decide +kernel
theorem dX5_thrown_1 : decode cX5_thrown 1 = .ok (.getfield 69, 3) := by decide +kernel
theorem dX5_thrown_4 : decode cX5_thrown 4 = .ok (.ireturn, 1) := by decide +kernel
theorem dX5_goesWell_0 : decode cX5_goesWell 0 = .ok (.aload_n 0, 1) := by decide +kernel
theorem dX5_goesWell_1 : decode cX5_goesWell 1 = .ok (.iload_n 1, 1) := by decide +kernel
theorem dX5_goesWell_2 : decode cX5_goesWell 2 = .ok (.putfield 69, 3) := by decide +kernel
theorem dX5_goesWell_5 : decode cX5_goesWell 5 = .ok (.iload_n 1, 1) := by decide +kernel
theorem dX5_goesWell_6 : decode cX5_goesWell 6 = .ok (.ifCond .ne 7, 3) := by decide +kernel
theorem dX5_goesWell_9 : decode cX5_goesWell 9 = .ok (.iconst 1, 1) := by decide +kernel
theorem dX5_goesWell_10 : decode cX5_goesWell 10 = .ok (.goto 4, 3) := by decide +kernel
theorem dX5_goesWell_13 : decode cX5_goesWell 13 = .ok (.iconst 0, 1) := by decide +kernel
theorem dX5_goesWell_14 : decode cX5_goesWell 14 = .ok (.ireturn, 1) := by decide +kernel
theorem dX5_in_0 : decode cX5_in 0 = .ok (.iload_n 0, 1) := by decide +kernel
theorem dX5_in_1 : decode cX5_in 1 = .ok (.iload_n 1, 1) := by decide +kernel
theorem dX5_in_2 : decode cX5_in 2 = .ok (.if_icmp .lt 12, 3) := by decide +kernel
theorem dX5_in_5 : decode cX5_in 5 = .ok (.iload_n 0, 1) := by decide +kernel
theorem dX5_in_6 : decode cX5_in 6 = .ok (.iload_n 2, 1) := by decide +kernel
theorem dX5_in_7 : decode cX5_in 7 = .ok (.if_icmp .gt 7, 3) := by decide +kernel
theorem dX5_in_10 : decode cX5_in 10 = .ok (.iconst 1, 1) := by decide +kernel
theorem dX5_in_11 : decode cX5_in 11 = .ok (.goto 4, 3) := by decide +kernel
theorem dX5_in_14 : decode cX5_in 14 = .ok (.iconst 0, 1) := by decide +kernel
theorem dX5_in_15 : decode cX5_in 15 = .ok (.ireturn, 1) := by decide +kernel
set_option maxRecDepth 20000 in
theorem ggX5_isColumn_X5_in : GoodIn wsX5_isColumn wsX5_in := goodIn_r _ [4] (by decide +kernel) (by decide +kernel)
set_option maxRecDepth 20000 in
theorem gX5_isColumn_X5_in : GoodIn wsX5_isColumn (va_wsS RX5 72 yX5_in wsX5_in) := goodIn_app (goodIn_of _ (by decide +kernel)) ggX5_isColumn_X5_in
theorem dX5_isColumn_0 : decode cX5_isColumn 0 = .ok (.iload_n 0, 1) := by decide +kernel
theorem dX5_isColumn_1 : decode cX5_isColumn 1 = .ok (.iconst 0, 1) := by decide +kernel
theorem dX5_isColumn_2 : decode cX5_isColumn 2 = .ok (.bipush 15, 2) := by decide +kernel
theorem dX5_isColumn_4 : decode cX5_isColumn 4 = .ok (.invokestatic 72, 3) := by decide +kernel
theorem dX5_isColumn_7 : decode cX5_isColumn 7 = .ok (.ireturn, 1) := by decide +kernel
set_option maxRecDepth 20000 in
theorem ggX5_isCell_X5_isColumn : GoodIn wsX5_isCell wsX5_isColumn := goodIn_r _ [4, 5, 6, 3, 7] (by decide +kernel) (by decide +kernel)
set_option maxRecDepth 20000 in
theorem gX5_isCell_X5_isColumn : GoodIn wsX5_isCell (va_wsS RX5 76 yX5_isColumn wsX5_isColumn) := goodIn_app (goodIn_of _ (by decide +kernel)) ggX5_isCell_X5_isColumn
set_option maxRecDepth 20000 in
theorem ggX5_isCell_X5_in : GoodIn wsX5_isCell wsX5_in := goodIn_r _ [7] (by decide +kernel) (by decide +kernel)
set_option maxRecDepth 20000 in
theorem gX5_isCell_X5_in : GoodIn wsX5_isCell (va_wsS RX5 72 yX5_in wsX5_in) := goodIn_app (goodIn_of _ (by decide +kernel)) ggX5_isCell_X5_in
theorem dX5_isCell_0 : decode cX5_isCell 0 = .ok (.iload_n 0, 1) := by decide +kernel
theorem dX5_isCell_1 : decode cX5_isCell 1 = .ok (.invokestatic 76, 3) := by decide +kernel
theorem dX5_isCell_4 : decode cX5_isCell 4 = .ok (.ifCond .eq 17, 3) := by decide +kernel
theorem dX5_isCell_7 : decode cX5_isCell 7 = .ok (.iload_n 1, 1) := by decide +kernel
theorem dX5_isCell_8 : decode cX5_isCell 8 = .ok (.iconst 3, 1) := by decide +kernel
theorem dX5_isCell_9 : decode cX5_isCell 9 = .ok (.bipush 11, 2) := by decide +kernel
theorem dX5_isCell_11 : decode cX5_isCell 11 = .ok (.invokestatic 72, 3) := by decide +kernel
theorem dX5_isCell_14 : decode cX5_isCell 14 = .ok (.ifCond .eq 7, 3) := by decide +kernel
theorem dX5_isCell_17 : decode cX5_isCell 17 = .ok (.iconst 1, 1) := by decide +kernel
theorem dX5_isCell_18 : decode cX5_isCell 18 = .ok (.goto 4, 3) := by decide +kernel
theorem dX5_isCell_21 : decode cX5_isCell 21 = .ok (.iconst 0, 1) := by decide +kernel
theorem dX5_isCell_22 : decode cX5_isCell 22 = .ok (.ireturn, 1) := by decide +kernel
set_option maxRecDepth 20000 in
theorem ggX5_isProjector_X5_in : GoodIn wsX5_isProjector wsX5_in := goodIn_r _ [5] (by decide +kernel) (by decide +kernel)
set_option maxRecDepth 20000 in
theorem gX5_isProjector_X5_in : GoodIn wsX5_isProjector (va_wsS RX5 72 yX5_in wsX5_in) := goodIn_app (goodIn_of _ (by decide +kernel)) ggX5_isProjector_X5_in
theorem dX5_isProjector_0 : decode cX5_isProjector 0 = .ok (.iload_n 1, 1) := by decide +kernel
theorem dX5_isProjector_1 : decode cX5_isProjector 1 = .ok (.iconst 0, 1) := by decide +kernel
theorem dX5_isProjector_2 : decode cX5_isProjector 2 = .ok (.aload_n 0, 1) := by decide +kernel
theorem dX5_isProjector_3 : decode cX5_isProjector 3 = .ok (.getfield 80, 3) := by decide +kernel
theorem dX5_isProjector_6 : decode cX5_isProjector 6 = .ok (.iconst 1, 1) := by decide +kernel
theorem dX5_isProjector_7 : decode cX5_isProjector 7 = .ok (.isub, 1) := by decide +kernel
theorem dX5_isProjector_8 : decode cX5_isProjector 8 = .ok (.invokestatic 72, 3) := by decide +kernel
theorem dX5_isProjector_11 : decode cX5_isProjector 11 = .ok (.ireturn, 1) := by decide +kernel
theorem dX5_at_0 : decode cX5_at 0 = .ok (.bipush 16, 2) := by decide +kernel
theorem dX5_at_2 : decode cX5_at 2 = .ok (.iload_n 1, 1) := by decide +kernel
theorem dX5_at_3 : decode cX5_at 3 = .ok (.imul, 1) := by decide +kernel
theorem dX5_at_4 : decode cX5_at 4 = .ok (.iload_n 0, 1) := by decide +kernel
theorem dX5_at_5 : decode cX5_at 5 = .ok (.iadd, 1) := by decide +kernel
theorem dX5_at_6 : decode cX5_at 6 = .ok (.ireturn, 1) := by decide +kernel
set_option maxRecDepth 20000 in
theorem ggX5_column_X5_isColumn : GoodIn wsX5_column wsX5_isColumn := goodIn_r _ [6, 7, 8, 5, 9] (by decide +kernel) (by decide +kernel)
set_option maxRecDepth 20000 in
theorem gX5_column_X5_isColumn : GoodIn wsX5_column (va_wsS RX5 76 yX5_isColumn wsX5_isColumn) := goodIn_app (goodIn_of _ (by decide +kernel)) ggX5_column_X5_isColumn
set_option maxRecDepth 20000 in
theorem ggX5_column_X5_in : GoodIn wsX5_column wsX5_in := goodIn_r _ [9] (by decide +kernel) (by decide +kernel)
set_option maxRecDepth 20000 in
theorem gX5_column_X5_in : GoodIn wsX5_column (va_wsS RX5 72 yX5_in wsX5_in) := goodIn_app (goodIn_of _ (by decide +kernel)) ggX5_column_X5_in
set_option maxRecDepth 20000 in
theorem ggX5_column_X5_goesWell : GoodIn wsX5_column wsX5_goesWell := goodIn_r _ [13, 14, 15, 16, 17, 18, 19, 20, 21, 22, 23, 24, 25, 26, 27, 28, 29, 30, 31, 32, 33, 34, 35, 36, 37, 38, 39, 40, 41, 42, 43, 44] (by decide +kernel) (by decide +kernel)
set_option maxRecDepth 20000 in
theorem gX5_column_X5_goesWell : GoodIn wsX5_column (wsV RX5 83 RX5 yX5_goesWell wsX5_goesWell) := goodIn_app (goodIn_of _ (by decide +kernel)) ggX5_column_X5_goesWell
theorem dX5_column_0 : decode cX5_column 0 = .ok (.iload_n 1, 1) := by decide +kernel
theorem dX5_column_1 : decode cX5_column 1 = .ok (.invokestatic 76, 3) := by decide +kernel
theorem dX5_column_4 : decode cX5_column 4 = .ok (.istore 4, 2) := by decide +kernel
theorem dX5_column_6 : decode cX5_column 6 = .ok (.aload_n 0, 1) := by decide +kernel
theorem dX5_column_7 : decode cX5_column 7 = .ok (.iload 4, 2) := by decide +kernel
theorem dX5_column_9 : decode cX5_column 9 = .ok (.ifCond .ne 7, 3) := by decide +kernel
theorem dX5_column_12 : decode cX5_column 12 = .ok (.iconst 1, 1) := by decide +kernel
theorem dX5_column_13 : decode cX5_column 13 = .ok (.goto 26, 3) := by decide +kernel
theorem dX5_column_16 : decode cX5_column 16 = .ok (.iload_n 2, 1) := by decide +kernel
theorem dX5_column_17 : decode cX5_column 17 = .ok (.iconst 0, 1) := by decide +kernel
theorem dX5_column_18 : decode cX5_column 18 = .ok (.iconst 2, 1) := by decide +kernel
theorem dX5_column_19 : decode cX5_column 19 = .ok (.invokestatic 72, 3) := by decide +kernel
theorem dX5_column_22 : decode cX5_column 22 = .ok (.ifCond .eq 16, 3) := by decide +kernel
theorem dX5_column_25 : decode cX5_column 25 = .ok (.iload_n 3, 1) := by decide +kernel
theorem dX5_column_26 : decode cX5_column 26 = .ok (.iconst 0, 1) := by decide +kernel
theorem dX5_column_27 : decode cX5_column 27 = .ok (.iconst 2, 1) := by decide +kernel
theorem dX5_column_28 : decode cX5_column 28 = .ok (.invokestatic 72, 3) := by decide +kernel
theorem dX5_column_31 : decode cX5_column 31 = .ok (.ifCond .eq 7, 3) := by decide +kernel
theorem dX5_column_34 : decode cX5_column 34 = .ok (.iconst 0, 1) := by decide +kernel
theorem dX5_column_35 : decode cX5_column 35 = .ok (.goto 4, 3) := by decide +kernel
theorem dX5_column_38 : decode cX5_column 38 = .ok (.iconst 2, 1) := by decide +kernel
theorem dX5_column_39 : decode cX5_column 39 = .ok (.invokevirtual 83, 3) := by decide +kernel
theorem dX5_column_42 : decode cX5_column 42 = .ok (.ifCond .eq 17, 3) := by decide +kernel
theorem dX5_column_45 : decode cX5_column 45 = .ok (.aload_n 0, 1) := by decide +kernel
theorem dX5_column_46 : decode cX5_column 46 = .ok (.getfield 7, 3) := by decide +kernel
theorem dX5_column_49 : decode cX5_column 49 = .ok (.iload_n 1, 1) := by decide +kernel
theorem dX5_column_50 : decode cX5_column 50 = .ok (.iload_n 2, 1) := by decide +kernel
theorem dX5_column_51 : decode cX5_column 51 = .ok (.iastore, 1) := by decide +kernel
theorem dX5_column_52 : decode cX5_column 52 = .ok (.aload_n 0, 1) := by decide +kernel
theorem dX5_column_53 : decode cX5_column 53 = .ok (.getfield 13, 3) := by decide +kernel
theorem dX5_column_56 : decode cX5_column 56 = .ok (.iload_n 1, 1) := by decide +kernel
theorem dX5_column_57 : decode cX5_column 57 = .ok (.iload_n 3, 1) := by decide +kernel
theorem dX5_column_58 : decode cX5_column 58 = .ok (.iastore, 1) := by decide +kernel
theorem dX5_column_59 : decode cX5_column 59 = .ok (.return_, 1) := by decide +kernel
set_option maxRecDepth 20000 in
theorem ggX5_cell_X5_isCell : GoodIn wsX5_cell wsX5_isCell := goodIn_r _ [6, 7, 8, 5, 9, 10, 11, 12] (by decide +kernel) (by decide +kernel)
set_option maxRecDepth 20000 in
theorem gX5_cell_X5_isCell : GoodIn wsX5_cell (va_wsS RX5 86 yX5_isCell wsX5_isCell) := goodIn_app (goodIn_of _ (by decide +kernel)) ggX5_cell_X5_isCell
set_option maxRecDepth 20000 in
theorem ggX5_cell_X5_in : GoodIn wsX5_cell wsX5_in := goodIn_r _ [12] (by decide +kernel) (by decide +kernel)
set_option maxRecDepth 20000 in
theorem gX5_cell_X5_in : GoodIn wsX5_cell (va_wsS RX5 72 yX5_in wsX5_in) := goodIn_app (goodIn_of _ (by decide +kernel)) ggX5_cell_X5_in
set_option maxRecDepth 20000 in
theorem ggX5_cell_X5_at : GoodIn wsX5_cell wsX5_at := goodIn_r _ [15] (by decide +kernel) (by decide +kernel)
set_option maxRecDepth 20000 in
theorem gX5_cell_X5_at : GoodIn wsX5_cell (va_wsS RX5 90 yX5_at wsX5_at) := goodIn_app (goodIn_of _ (by decide +kernel)) ggX5_cell_X5_at
set_option maxRecDepth 20000 in
theorem ggX5_cell_X5_goesWell : GoodIn wsX5_cell wsX5_goesWell := goodIn_r _ [19, 20, 21, 22, 23, 24, 25, 26, 27, 28, 29, 30, 31, 32, 33, 34, 35, 36, 37, 38, 39, 40, 41, 42, 43, 44, 45, 46, 47, 48, 49, 50] (by decide +kernel) (by decide +kernel)
set_option maxRecDepth 20000 in
theorem gX5_cell_X5_goesWell : GoodIn wsX5_cell (wsV RX5 83 RX5 yX5_goesWell wsX5_goesWell) := goodIn_app (goodIn_of _ (by decide +kernel)) ggX5_cell_X5_goesWell
theorem dX5_cell_0 : decode cX5_cell 0 = .ok (.iload_n 1, 1) := by decide +kernel
theorem dX5_cell_1 : decode cX5_cell 1 = .ok (.iload_n 2, 1) := by decide +kernel
theorem dX5_cell_2 : decode cX5_cell 2 = .ok (.invokestatic 86, 3) := by decide +kernel
theorem dX5_cell_5 : decode cX5_cell 5 = .ok (.istore 4, 2) := by decide +kernel
theorem dX5_cell_7 : decode cX5_cell 7 = .ok (.aload_n 0, 1) := by decide +kernel
theorem dX5_cell_8 : decode cX5_cell 8 = .ok (.iload 4, 2) := by decide +kernel
theorem dX5_cell_10 : decode cX5_cell 10 = .ok (.ifCond .ne 7, 3) := by decide +kernel
theorem dX5_cell_13 : decode cX5_cell 13 = .ok (.iconst 1, 1) := by decide +kernel
theorem dX5_cell_14 : decode cX5_cell 14 = .ok (.goto 34, 3) := by decide +kernel
theorem dX5_cell_17 : decode cX5_cell 17 = .ok (.iload_n 3, 1) := by decide +kernel
theorem dX5_cell_18 : decode cX5_cell 18 = .ok (.iconst 0, 1) := by decide +kernel
theorem dX5_cell_19 : decode cX5_cell 19 = .ok (.iconst 3, 1) := by decide +kernel
theorem dX5_cell_20 : decode cX5_cell 20 = .ok (.invokestatic 72, 3) := by decide +kernel
theorem dX5_cell_23 : decode cX5_cell 23 = .ok (.ifCond .ne 7, 3) := by decide +kernel
theorem dX5_cell_26 : decode cX5_cell 26 = .ok (.iconst 2, 1) := by decide +kernel
theorem dX5_cell_27 : decode cX5_cell 27 = .ok (.goto 21, 3) := by decide +kernel
theorem dX5_cell_30 : decode cX5_cell 30 = .ok (.aload_n 0, 1) := by decide +kernel
theorem dX5_cell_31 : decode cX5_cell 31 = .ok (.getfield 22, 3) := by decide +kernel
theorem dX5_cell_34 : decode cX5_cell 34 = .ok (.iload_n 1, 1) := by decide +kernel
theorem dX5_cell_35 : decode cX5_cell 35 = .ok (.iload_n 2, 1) := by decide +kernel
theorem dX5_cell_36 : decode cX5_cell 36 = .ok (.invokestatic 90, 3) := by decide +kernel
theorem dX5_cell_39 : decode cX5_cell 39 = .ok (.baload, 1) := by decide +kernel
theorem dX5_cell_40 : decode cX5_cell 40 = .ok (.ifCond .eq 7, 3) := by decide +kernel
theorem dX5_cell_43 : decode cX5_cell 43 = .ok (.iconst 3, 1) := by decide +kernel
theorem dX5_cell_44 : decode cX5_cell 44 = .ok (.goto 4, 3) := by decide +kernel
theorem dX5_cell_47 : decode cX5_cell 47 = .ok (.iconst 0, 1) := by decide +kernel
theorem dX5_cell_48 : decode cX5_cell 48 = .ok (.invokevirtual 83, 3) := by decide +kernel
theorem dX5_cell_51 : decode cX5_cell 51 = .ok (.ifCond .ne 5, 3) := by decide +kernel
theorem dX5_cell_54 : decode cX5_cell 54 = .ok (.iconst 0, 1) := by decide +kernel
theorem dX5_cell_55 : decode cX5_cell 55 = .ok (.ireturn, 1) := by decide +kernel
theorem dX5_cell_56 : decode cX5_cell 56 = .ok (.aload_n 0, 1) := by decide +kernel
theorem dX5_cell_57 : decode cX5_cell 57 = .ok (.getfield 19, 3) := by decide +kernel
theorem dX5_cell_60 : decode cX5_cell 60 = .ok (.iload_n 1, 1) := by decide +kernel
theorem dX5_cell_61 : decode cX5_cell 61 = .ok (.iload_n 2, 1) := by decide +kernel
theorem dX5_cell_62 : decode cX5_cell 62 = .ok (.invokestatic 90, 3) := by decide +kernel
theorem dX5_cell_65 : decode cX5_cell 65 = .ok (.iaload, 1) := by decide +kernel
theorem dX5_cell_66 : decode cX5_cell 66 = .ok (.istore 5, 2) := by decide +kernel
theorem dX5_cell_68 : decode cX5_cell 68 = .ok (.aload_n 0, 1) := by decide +kernel
theorem dX5_cell_69 : decode cX5_cell 69 = .ok (.getfield 19, 3) := by decide +kernel
theorem dX5_cell_72 : decode cX5_cell 72 = .ok (.iload_n 1, 1) := by decide +kernel
theorem dX5_cell_73 : decode cX5_cell 73 = .ok (.iload_n 2, 1) := by decide +kernel
theorem dX5_cell_74 : decode cX5_cell 74 = .ok (.invokestatic 90, 3) := by decide +kernel
theorem dX5_cell_77 : decode cX5_cell 77 = .ok (.iload_n 3, 1) := by decide +kernel
theorem dX5_cell_78 : decode cX5_cell 78 = .ok (.iastore, 1) := by decide +kernel
theorem dX5_cell_79 : decode cX5_cell 79 = .ok (.iload 5, 2) := by decide +kernel
theorem dX5_cell_81 : decode cX5_cell 81 = .ok (.ireturn, 1) := by decide +kernel
set_option maxRecDepth 20000 in
theorem ggX5_need_X5_in : GoodIn wsX5_need wsX5_in := goodIn_r _ [7] (by decide +kernel) (by decide +kernel)
set_option maxRecDepth 20000 in
theorem gX5_need_X5_in : GoodIn wsX5_need (va_wsS RX5 72 yX5_in wsX5_in) := goodIn_app (goodIn_of _ (by decide +kernel)) ggX5_need_X5_in
set_option maxRecDepth 20000 in
theorem ggX5_need_X5_goesWell : GoodIn wsX5_need wsX5_goesWell := goodIn_r _ [11, 12, 13, 14, 15, 16, 17, 18, 19, 20, 21, 22, 23, 24, 25, 26, 27, 28, 29, 30, 31, 32, 33, 34, 35, 36, 37, 38, 39, 40, 41, 42] (by decide +kernel) (by decide +kernel)
set_option maxRecDepth 20000 in
theorem gX5_need_X5_goesWell : GoodIn wsX5_need (wsV RX5 83 RX5 yX5_goesWell wsX5_goesWell) := goodIn_app (goodIn_of _ (by decide +kernel)) ggX5_need_X5_goesWell
theorem dX5_need_0 : decode cX5_need 0 = .ok (.aload_n 0, 1) := by decide +kernel
theorem dX5_need_1 : decode cX5_need 1 = .ok (.iload_n 1, 1) := by decide +kernel
theorem dX5_need_2 : decode cX5_need 2 = .ok (.iconst 0, 1) := by decide +kernel
theorem dX5_need_3 : decode cX5_need 3 = .ok (.ldc 94, 2) := by decide +kernel
theorem dX5_need_5 : decode cX5_need 5 = .ok (.invokestatic 72, 3) := by decide +kernel
theorem dX5_need_8 : decode cX5_need 8 = .ok (.ifCond .eq 18, 3) := by decide +kernel
theorem dX5_need_11 : decode cX5_need 11 = .ok (.iload_n 2, 1) := by decide +kernel
theorem dX5_need_12 : decode cX5_need 12 = .ok (.iconst 1, 1) := by decide +kernel
theorem dX5_need_13 : decode cX5_need 13 = .ok (.sipush 9999, 3) := by decide +kernel
theorem dX5_need_16 : decode cX5_need 16 = .ok (.invokestatic 72, 3) := by decide +kernel
theorem dX5_need_19 : decode cX5_need 19 = .ok (.ifCond .eq 7, 3) := by decide +kernel
theorem dX5_need_22 : decode cX5_need 22 = .ok (.iconst 0, 1) := by decide +kernel
theorem dX5_need_23 : decode cX5_need 23 = .ok (.goto 4, 3) := by decide +kernel
theorem dX5_need_26 : decode cX5_need 26 = .ok (.iconst 1, 1) := by decide +kernel
theorem dX5_need_27 : decode cX5_need 27 = .ok (.invokevirtual 83, 3) := by decide +kernel
theorem dX5_need_30 : decode cX5_need 30 = .ok (.ifCond .eq 13, 3) := by decide +kernel
theorem dX5_need_33 : decode cX5_need 33 = .ok (.aload_n 0, 1) := by decide +kernel
theorem dX5_need_34 : decode cX5_need 34 = .ok (.iload_n 1, 1) := by decide +kernel
theorem dX5_need_35 : decode cX5_need 35 = .ok (.putfield 95, 3) := by decide +kernel
theorem dX5_need_38 : decode cX5_need 38 = .ok (.aload_n 0, 1) := by decide +kernel
theorem dX5_need_39 : decode cX5_need 39 = .ok (.iload_n 2, 1) := by decide +kernel
theorem dX5_need_40 : decode cX5_need 40 = .ok (.putfield 26, 3) := by decide +kernel
theorem dX5_need_43 : decode cX5_need 43 = .ok (.return_, 1) := by decide +kernel
set_option maxRecDepth 20000 in
theorem ggX5_projector_X5_isCell : GoodIn wsX5_projector wsX5_isCell := goodIn_r _ [12, 13, 14, 11, 15, 16, 17, 18] (by decide +kernel) (by decide +kernel)
set_option maxRecDepth 20000 in
theorem gX5_projector_X5_isCell : GoodIn wsX5_projector (va_wsS RX5 86 yX5_isCell wsX5_isCell) := goodIn_app (goodIn_of _ (by decide +kernel)) ggX5_projector_X5_isCell
set_option maxRecDepth 20000 in
theorem ggX5_projector_X5_in : GoodIn wsX5_projector wsX5_in := goodIn_r _ [18] (by decide +kernel) (by decide +kernel)
set_option maxRecDepth 20000 in
theorem gX5_projector_X5_in : GoodIn wsX5_projector (va_wsS RX5 72 yX5_in wsX5_in) := goodIn_app (goodIn_of _ (by decide +kernel)) ggX5_projector_X5_in
set_option maxRecDepth 20000 in
theorem ggX5_projector_X5_at : GoodIn wsX5_projector wsX5_at := goodIn_r _ [21] (by decide +kernel) (by decide +kernel)
set_option maxRecDepth 20000 in
theorem gX5_projector_X5_at : GoodIn wsX5_projector (va_wsS RX5 90 yX5_at wsX5_at) := goodIn_app (goodIn_of _ (by decide +kernel)) ggX5_projector_X5_at
set_option maxRecDepth 20000 in
theorem ggX5_projector_X5_goesWell : GoodIn wsX5_projector wsX5_goesWell := goodIn_r _ [25, 26, 27, 28, 29, 30, 31, 32, 33, 34, 35, 36, 37, 38, 39, 40, 41, 42, 43, 44, 45, 46, 47, 48, 49, 50, 51, 52, 53, 54, 55, 56] (by decide +kernel) (by decide +kernel)
set_option maxRecDepth 20000 in
theorem gX5_projector_X5_goesWell : GoodIn wsX5_projector (wsV RX5 83 RX5 yX5_goesWell wsX5_goesWell) := goodIn_app (goodIn_of _ (by decide +kernel)) ggX5_projector_X5_goesWell
theorem dX5_projector_0 : decode cX5_projector 0 = .ok (.iload_n 1, 1) := by decide +kernel
theorem dX5_projector_1 : decode cX5_projector 1 = .ok (.iload_n 2, 1) := by decide +kernel
theorem dX5_projector_2 : decode cX5_projector 2 = .ok (.invokestatic 86, 3) := by decide +kernel
theorem dX5_projector_5 : decode cX5_projector 5 = .ok (.istore 6, 2) := by decide +kernel
theorem dX5_projector_7 : decode cX5_projector 7 = .ok (.iload_n 3, 1) := by decide +kernel
theorem dX5_projector_8 : decode cX5_projector 8 = .ok (.iconst 1, 1) := by decide +kernel
theorem dX5_projector_9 : decode cX5_projector 9 = .ok (.sipush 9999, 3) := by decide +kernel
theorem dX5_projector_12 : decode cX5_projector 12 = .ok (.invokestatic 72, 3) := by decide +kernel
theorem dX5_projector_15 : decode cX5_projector 15 = .ok (.ifCond .eq 28, 3) := by decide +kernel
theorem dX5_projector_18 : decode cX5_projector 18 = .ok (.iload 4, 2) := by decide +kernel
theorem dX5_projector_20 : decode cX5_projector 20 = .ok (.iconst 0, 1) := by decide +kernel
theorem dX5_projector_21 : decode cX5_projector 21 = .ok (.iconst 2, 1) := by decide +kernel
theorem dX5_projector_22 : decode cX5_projector 22 = .ok (.invokestatic 72, 3) := by decide +kernel
theorem dX5_projector_25 : decode cX5_projector 25 = .ok (.ifCond .eq 18, 3) := by decide +kernel
theorem dX5_projector_28 : decode cX5_projector 28 = .ok (.iload 5, 2) := by decide +kernel
theorem dX5_projector_30 : decode cX5_projector 30 = .ok (.iconst 1, 1) := by decide +kernel
theorem dX5_projector_31 : decode cX5_projector 31 = .ok (.bipush 11, 2) := by decide +kernel
theorem dX5_projector_33 : decode cX5_projector 33 = .ok (.invokestatic 72, 3) := by decide +kernel
theorem dX5_projector_36 : decode cX5_projector 36 = .ok (.ifCond .eq 7, 3) := by decide +kernel
theorem dX5_projector_39 : decode cX5_projector 39 = .ok (.iconst 1, 1) := by decide +kernel
theorem dX5_projector_40 : decode cX5_projector 40 = .ok (.goto 4, 3) := by decide +kernel
theorem dX5_projector_43 : decode cX5_projector 43 = .ok (.iconst 0, 1) := by decide +kernel
theorem dX5_projector_44 : decode cX5_projector 44 = .ok (.istore 7, 2) := by decide +kernel
theorem dX5_projector_46 : decode cX5_projector 46 = .ok (.iload 6, 2) := by decide +kernel
theorem dX5_projector_48 : decode cX5_projector 48 = .ok (.ifCond .eq 42, 3) := by decide +kernel
theorem dX5_projector_51 : decode cX5_projector 51 = .ok (.aload_n 0, 1) := by decide +kernel
theorem dX5_projector_52 : decode cX5_projector 52 = .ok (.getfield 19, 3) := by decide +kernel
theorem dX5_projector_55 : decode cX5_projector 55 = .ok (.iload_n 1, 1) := by decide +kernel
theorem dX5_projector_56 : decode cX5_projector 56 = .ok (.iload_n 2, 1) := by decide +kernel
theorem dX5_projector_57 : decode cX5_projector 57 = .ok (.invokestatic 90, 3) := by decide +kernel
theorem dX5_projector_60 : decode cX5_projector 60 = .ok (.iaload, 1) := by decide +kernel
theorem dX5_projector_61 : decode cX5_projector 61 = .ok (.ifCond .ne 29, 3) := by decide +kernel
theorem dX5_projector_64 : decode cX5_projector 64 = .ok (.aload_n 0, 1) := by decide +kernel
theorem dX5_projector_65 : decode cX5_projector 65 = .ok (.getfield 22, 3) := by decide +kernel
theorem dX5_projector_68 : decode cX5_projector 68 = .ok (.iload_n 1, 1) := by decide +kernel
theorem dX5_projector_69 : decode cX5_projector 69 = .ok (.iload_n 2, 1) := by decide +kernel
theorem dX5_projector_70 : decode cX5_projector 70 = .ok (.invokestatic 90, 3) := by decide +kernel
theorem dX5_projector_73 : decode cX5_projector 73 = .ok (.baload, 1) := by decide +kernel
theorem dX5_projector_74 : decode cX5_projector 74 = .ok (.ifCond .ne 16, 3) := by decide +kernel
theorem dX5_projector_77 : decode cX5_projector 77 = .ok (.aload_n 0, 1) := by decide +kernel
theorem dX5_projector_78 : decode cX5_projector 78 = .ok (.getfield 80, 3) := by decide +kernel
theorem dX5_projector_81 : decode cX5_projector 81 = .ok (.bipush 10, 2) := by decide +kernel
theorem dX5_projector_83 : decode cX5_projector 83 = .ok (.if_icmp .ge 7, 3) := by decide +kernel
theorem dX5_projector_86 : decode cX5_projector 86 = .ok (.iconst 1, 1) := by decide +kernel
theorem dX5_projector_87 : decode cX5_projector 87 = .ok (.goto 4, 3) := by decide +kernel
theorem dX5_projector_90 : decode cX5_projector 90 = .ok (.iconst 0, 1) := by decide +kernel
theorem dX5_projector_91 : decode cX5_projector 91 = .ok (.istore 8, 2) := by decide +kernel
theorem dX5_projector_93 : decode cX5_projector 93 = .ok (.aload_n 0, 1) := by decide +kernel
theorem dX5_projector_94 : decode cX5_projector 94 = .ok (.iload 6, 2) := by decide +kernel
theorem dX5_projector_96 : decode cX5_projector 96 = .ok (.ifCond .ne 7, 3) := by decide +kernel
theorem dX5_projector_99 : decode cX5_projector 99 = .ok (.iconst 1, 1) := by decide +kernel
theorem dX5_projector_100 : decode cX5_projector 100 = .ok (.goto 22, 3) := by decide +kernel
theorem dX5_projector_103 : decode cX5_projector 103 = .ok (.iload 7, 2) := by decide +kernel
theorem dX5_projector_105 : decode cX5_projector 105 = .ok (.ifCond .ne 7, 3) := by decide +kernel
theorem dX5_projector_108 : decode cX5_projector 108 = .ok (.iconst 2, 1) := by decide +kernel
theorem dX5_projector_109 : decode cX5_projector 109 = .ok (.goto 13, 3) := by decide +kernel
theorem dX5_projector_112 : decode cX5_projector 112 = .ok (.iload 8, 2) := by decide +kernel
theorem dX5_projector_114 : decode cX5_projector 114 = .ok (.ifCond .eq 7, 3) := by decide +kernel
theorem dX5_projector_117 : decode cX5_projector 117 = .ok (.iconst 0, 1) := by decide +kernel
theorem dX5_projector_118 : decode cX5_projector 118 = .ok (.goto 4, 3) := by decide +kernel
theorem dX5_projector_121 : decode cX5_projector 121 = .ok (.iconst 3, 1) := by decide +kernel
theorem dX5_projector_122 : decode cX5_projector 122 = .ok (.invokevirtual 83, 3) := by decide +kernel
theorem dX5_projector_125 : decode cX5_projector 125 = .ok (.ifCond .ne 5, 3) := by decide +kernel
theorem dX5_projector_128 : decode cX5_projector 128 = .ok (.iconst 0, 1) := by decide +kernel
theorem dX5_projector_129 : decode cX5_projector 129 = .ok (.ireturn, 1) := by decide +kernel
theorem dX5_projector_130 : decode cX5_projector 130 = .ok (.aload_n 0, 1) := by decide +kernel
theorem dX5_projector_131 : decode cX5_projector 131 = .ok (.getfield 22, 3) := by decide +kernel
theorem dX5_projector_134 : decode cX5_projector 134 = .ok (.iload_n 1, 1) := by decide +kernel
theorem dX5_projector_135 : decode cX5_projector 135 = .ok (.iload_n 2, 1) := by decide +kernel
theorem dX5_projector_136 : decode cX5_projector 136 = .ok (.invokestatic 90, 3) := by decide +kernel
theorem dX5_projector_139 : decode cX5_projector 139 = .ok (.iconst 1, 1) := by decide +kernel
theorem dX5_projector_140 : decode cX5_projector 140 = .ok (.bastore, 1) := by decide +kernel
theorem dX5_projector_141 : decode cX5_projector 141 = .ok (.aload_n 0, 1) := by decide +kernel
theorem dX5_projector_142 : decode cX5_projector 142 = .ok (.getfield 30, 3) := by decide +kernel
theorem dX5_projector_145 : decode cX5_projector 145 = .ok (.aload_n 0, 1) := by decide +kernel
theorem dX5_projector_146 : decode cX5_projector 146 = .ok (.getfield 80, 3) := by decide +kernel
theorem dX5_projector_149 : decode cX5_projector 149 = .ok (.iload_n 1, 1) := by decide +kernel
theorem dX5_projector_150 : decode cX5_projector 150 = .ok (.iastore, 1) := by decide +kernel
theorem dX5_projector_151 : decode cX5_projector 151 = .ok (.aload_n 0, 1) := by decide +kernel
theorem dX5_projector_152 : decode cX5_projector 152 = .ok (.getfield 33, 3) := by decide +kernel
theorem dX5_projector_155 : decode cX5_projector 155 = .ok (.aload_n 0, 1) := by decide +kernel
theorem dX5_projector_156 : decode cX5_projector 156 = .ok (.getfield 80, 3) := by decide +kernel
theorem dX5_projector_159 : decode cX5_projector 159 = .ok (.iload_n 2, 1) := by decide +kernel
theorem dX5_projector_160 : decode cX5_projector 160 = .ok (.iastore, 1) := by decide +kernel
theorem dX5_projector_161 : decode cX5_projector 161 = .ok (.aload_n 0, 1) := by decide +kernel
theorem dX5_projector_162 : decode cX5_projector 162 = .ok (.getfield 36, 3) := by decide +kernel
theorem dX5_projector_165 : decode cX5_projector 165 = .ok (.aload_n 0, 1) := by decide +kernel
theorem dX5_projector_166 : decode cX5_projector 166 = .ok (.getfield 80, 3) := by decide +kernel
theorem dX5_projector_169 : decode cX5_projector 169 = .ok (.iload_n 3, 1) := by decide +kernel
theorem dX5_projector_170 : decode cX5_projector 170 = .ok (.iastore, 1) := by decide +kernel
theorem dX5_projector_171 : decode cX5_projector 171 = .ok (.aload_n 0, 1) := by decide +kernel
theorem dX5_projector_172 : decode cX5_projector 172 = .ok (.getfield 39, 3) := by decide +kernel
theorem dX5_projector_175 : decode cX5_projector 175 = .ok (.aload_n 0, 1) := by decide +kernel
theorem dX5_projector_176 : decode cX5_projector 176 = .ok (.getfield 80, 3) := by decide +kernel
theorem dX5_projector_179 : decode cX5_projector 179 = .ok (.iload 4, 2) := by decide +kernel
theorem dX5_projector_181 : decode cX5_projector 181 = .ok (.iastore, 1) := by decide +kernel
theorem dX5_projector_182 : decode cX5_projector 182 = .ok (.aload_n 0, 1) := by decide +kernel
theorem dX5_projector_183 : decode cX5_projector 183 = .ok (.getfield 42, 3) := by decide +kernel
theorem dX5_projector_186 : decode cX5_projector 186 = .ok (.aload_n 0, 1) := by decide +kernel
theorem dX5_projector_187 : decode cX5_projector 187 = .ok (.getfield 80, 3) := by decide +kernel
theorem dX5_projector_190 : decode cX5_projector 190 = .ok (.iload 5, 2) := by decide +kernel
theorem dX5_projector_192 : decode cX5_projector 192 = .ok (.iastore, 1) := by decide +kernel
theorem dX5_projector_193 : decode cX5_projector 193 = .ok (.aload_n 0, 1) := by decide +kernel
theorem dX5_projector_194 : decode cX5_projector 194 = .ok (.dup, 1) := by decide +kernel
theorem dX5_projector_195 : decode cX5_projector 195 = .ok (.getfield 80, 3) := by decide +kernel
theorem dX5_projector_198 : decode cX5_projector 198 = .ok (.iconst 1, 1) := by decide +kernel
theorem dX5_projector_199 : decode cX5_projector 199 = .ok (.iadd, 1) := by decide +kernel
theorem dX5_projector_200 : decode cX5_projector 200 = .ok (.putfield 80, 3) := by decide +kernel
theorem dX5_projector_203 : decode cX5_projector 203 = .ok (.aload_n 0, 1) := by decide +kernel
theorem dX5_projector_204 : decode cX5_projector 204 = .ok (.getfield 80, 3) := by decide +kernel
theorem dX5_projector_207 : decode cX5_projector 207 = .ok (.iconst 1, 1) := by decide +kernel
theorem dX5_projector_208 : decode cX5_projector 208 = .ok (.isub, 1) := by decide +kernel
theorem dX5_projector_209 : decode cX5_projector 209 = .ok (.ireturn, 1) := by decide +kernel
set_option maxRecDepth 20000 in
theorem ggX5_aim_X5_isProjector : GoodIn wsX5_aim wsX5_isProjector := goodIn_r _ [7, 8, 9, 10, 6, 11, 20, 21, 22, 23, 24, 25, 26, 27, 28, 29, 30, 31, 32, 33, 34, 35, 36, 37, 38, 39, 40, 41, 42, 43, 44, 45, 46, 47, 48, 49] (by decide +kernel) (by decide +kernel)
set_option maxRecDepth 20000 in
theorem gX5_aim_X5_isProjector : GoodIn wsX5_aim (wsV RX5 98 RX5 yX5_isProjector wsX5_isProjector) := goodIn_app (goodIn_of _ (by decide +kernel)) ggX5_aim_X5_isProjector
set_option maxRecDepth 20000 in
theorem ggX5_aim_X5_isColumn : GoodIn wsX5_aim wsX5_isColumn := goodIn_r _ [14, 9, 10, 6, 11] (by decide +kernel) (by decide +kernel)
set_option maxRecDepth 20000 in
theorem gX5_aim_X5_isColumn : GoodIn wsX5_aim (va_wsS RX5 76 yX5_isColumn wsX5_isColumn) := goodIn_app (goodIn_of _ (by decide +kernel)) ggX5_aim_X5_isColumn
set_option maxRecDepth 20000 in
theorem ggX5_aim_X5_in : GoodIn wsX5_aim wsX5_in := goodIn_r _ [11] (by decide +kernel) (by decide +kernel)
set_option maxRecDepth 20000 in
theorem gX5_aim_X5_in : GoodIn wsX5_aim (va_wsS RX5 72 yX5_in wsX5_in) := goodIn_app (goodIn_of _ (by decide +kernel)) ggX5_aim_X5_in
set_option maxRecDepth 20000 in
theorem ggX5_aim_X5_goesWell : GoodIn wsX5_aim wsX5_goesWell := goodIn_r _ [18, 19, 20, 21, 22, 23, 24, 25, 26, 27, 28, 29, 30, 31, 32, 33, 34, 35, 36, 37, 38, 39, 40, 41, 42, 43, 44, 45, 46, 47, 48, 49] (by decide +kernel) (by decide +kernel)
set_option maxRecDepth 20000 in
theorem gX5_aim_X5_goesWell : GoodIn wsX5_aim (wsV RX5 83 RX5 yX5_goesWell wsX5_goesWell) := goodIn_app (goodIn_of _ (by decide +kernel)) ggX5_aim_X5_goesWell
theorem dX5_aim_0 : decode cX5_aim 0 = .ok (.aload_n 0, 1) := by decide +kernel
theorem dX5_aim_1 : decode cX5_aim 1 = .ok (.iload_n 1, 1) := by decide +kernel
theorem dX5_aim_2 : decode cX5_aim 2 = .ok (.invokevirtual 98, 3) := by decide +kernel
theorem dX5_aim_5 : decode cX5_aim 5 = .ok (.ifCond .eq 21, 3) := by decide +kernel
theorem dX5_aim_8 : decode cX5_aim 8 = .ok (.iload_n 2, 1) := by decide +kernel
theorem dX5_aim_9 : decode cX5_aim 9 = .ok (.invokestatic 76, 3) := by decide +kernel
theorem dX5_aim_12 : decode cX5_aim 12 = .ok (.ifCond .eq 14, 3) := by decide +kernel
theorem dX5_aim_15 : decode cX5_aim 15 = .ok (.iload_n 3, 1) := by decide +kernel
theorem dX5_aim_16 : decode cX5_aim 16 = .ok (.invokestatic 76, 3) := by decide +kernel
theorem dX5_aim_19 : decode cX5_aim 19 = .ok (.ifCond .eq 7, 3) := by decide +kernel
theorem dX5_aim_22 : decode cX5_aim 22 = .ok (.iconst 1, 1) := by decide +kernel
theorem dX5_aim_23 : decode cX5_aim 23 = .ok (.goto 4, 3) := by decide +kernel
theorem dX5_aim_26 : decode cX5_aim 26 = .ok (.iconst 0, 1) := by decide +kernel
theorem dX5_aim_27 : decode cX5_aim 27 = .ok (.istore 4, 2) := by decide +kernel
theorem dX5_aim_29 : decode cX5_aim 29 = .ok (.aload_n 0, 1) := by decide +kernel
theorem dX5_aim_30 : decode cX5_aim 30 = .ok (.iload 4, 2) := by decide +kernel
theorem dX5_aim_32 : decode cX5_aim 32 = .ok (.ifCond .ne 7, 3) := by decide +kernel
theorem dX5_aim_35 : decode cX5_aim 35 = .ok (.iconst 1, 1) := by decide +kernel
theorem dX5_aim_36 : decode cX5_aim 36 = .ok (.goto 20, 3) := by decide +kernel
theorem dX5_aim_39 : decode cX5_aim 39 = .ok (.iload_n 3, 1) := by decide +kernel
theorem dX5_aim_40 : decode cX5_aim 40 = .ok (.iload_n 2, 1) := by decide +kernel
theorem dX5_aim_41 : decode cX5_aim 41 = .ok (.iload_n 2, 1) := by decide +kernel
theorem dX5_aim_42 : decode cX5_aim 42 = .ok (.bipush 7, 2) := by decide +kernel
theorem dX5_aim_44 : decode cX5_aim 44 = .ok (.iadd, 1) := by decide +kernel
theorem dX5_aim_45 : decode cX5_aim 45 = .ok (.invokestatic 72, 3) := by decide +kernel
theorem dX5_aim_48 : decode cX5_aim 48 = .ok (.ifCond .eq 7, 3) := by decide +kernel
theorem dX5_aim_51 : decode cX5_aim 51 = .ok (.iconst 0, 1) := by decide +kernel
theorem dX5_aim_52 : decode cX5_aim 52 = .ok (.goto 4, 3) := by decide +kernel
theorem dX5_aim_55 : decode cX5_aim 55 = .ok (.iconst 2, 1) := by decide +kernel
theorem dX5_aim_56 : decode cX5_aim 56 = .ok (.invokevirtual 83, 3) := by decide +kernel
theorem dX5_aim_59 : decode cX5_aim 59 = .ok (.ifCond .eq 17, 3) := by decide +kernel
theorem dX5_aim_62 : decode cX5_aim 62 = .ok (.aload_n 0, 1) := by decide +kernel
theorem dX5_aim_63 : decode cX5_aim 63 = .ok (.getfield 45, 3) := by decide +kernel
theorem dX5_aim_66 : decode cX5_aim 66 = .ok (.iload_n 1, 1) := by decide +kernel
theorem dX5_aim_67 : decode cX5_aim 67 = .ok (.iload_n 2, 1) := by decide +kernel
theorem dX5_aim_68 : decode cX5_aim 68 = .ok (.iastore, 1) := by decide +kernel
theorem dX5_aim_69 : decode cX5_aim 69 = .ok (.aload_n 0, 1) := by decide +kernel
theorem dX5_aim_70 : decode cX5_aim 70 = .ok (.getfield 48, 3) := by decide +kernel
theorem dX5_aim_73 : decode cX5_aim 73 = .ok (.iload_n 1, 1) := by decide +kernel
theorem dX5_aim_74 : decode cX5_aim 74 = .ok (.iload_n 3, 1) := by decide +kernel
theorem dX5_aim_75 : decode cX5_aim 75 = .ok (.iastore, 1) := by decide +kernel
theorem dX5_aim_76 : decode cX5_aim 76 = .ok (.return_, 1) := by decide +kernel
theorem dX5_borne_0 : decode cX5_borne 0 = .ok (.iconst 0, 1) := by decide +kernel
theorem dX5_borne_1 : decode cX5_borne 1 = .ok (.istore_n 2, 1) := by decide +kernel
theorem dX5_borne_2 : decode cX5_borne 2 = .ok (.iconst 0, 1) := by decide +kernel
theorem dX5_borne_3 : decode cX5_borne 3 = .ok (.istore_n 3, 1) := by decide +kernel
theorem dX5_borne_4 : decode cX5_borne 4 = .ok (.iload_n 3, 1) := by decide +kernel
theorem dX5_borne_5 : decode cX5_borne 5 = .ok (.aload_n 0, 1) := by decide +kernel
theorem dX5_borne_6 : decode cX5_borne 6 = .ok (.getfield 80, 3) := by decide +kernel
theorem dX5_borne_9 : decode cX5_borne 9 = .ok (.if_icmp .ge 41, 3) := by decide +kernel
theorem dX5_borne_12 : decode cX5_borne 12 = .ok (.iload_n 2, 1) := by decide +kernel
theorem dX5_borne_13 : decode cX5_borne 13 = .ok (.aload_n 0, 1) := by decide +kernel
theorem dX5_borne_14 : decode cX5_borne 14 = .ok (.getfield 51, 3) := by decide +kernel
theorem dX5_borne_17 : decode cX5_borne 17 = .ok (.iload_n 3, 1) := by decide +kernel
theorem dX5_borne_18 : decode cX5_borne 18 = .ok (.baload, 1) := by decide +kernel
theorem dX5_borne_19 : decode cX5_borne 19 = .ok (.ifCond .eq 22, 3) := by decide +kernel
theorem dX5_borne_22 : decode cX5_borne 22 = .ok (.aload_n 0, 1) := by decide +kernel
theorem dX5_borne_23 : decode cX5_borne 23 = .ok (.getfield 39, 3) := by decide +kernel
theorem dX5_borne_26 : decode cX5_borne 26 = .ok (.iload_n 3, 1) := by decide +kernel
theorem dX5_borne_27 : decode cX5_borne 27 = .ok (.iaload, 1) := by decide +kernel
theorem dX5_borne_28 : decode cX5_borne 28 = .ok (.iload_n 1, 1) := by decide +kernel
theorem dX5_borne_29 : decode cX5_borne 29 = .ok (.if_icmp .ne 12, 3) := by decide +kernel
theorem dX5_borne_32 : decode cX5_borne 32 = .ok (.aload_n 0, 1) := by decide +kernel
theorem dX5_borne_33 : decode cX5_borne 33 = .ok (.getfield 36, 3) := by decide +kernel
theorem dX5_borne_36 : decode cX5_borne 36 = .ok (.iload_n 3, 1) := by decide +kernel
theorem dX5_borne_37 : decode cX5_borne 37 = .ok (.iaload, 1) := by decide +kernel
theorem dX5_borne_38 : decode cX5_borne 38 = .ok (.goto 4, 3) := by decide +kernel
theorem dX5_borne_41 : decode cX5_borne 41 = .ok (.iconst 0, 1) := by decide +kernel
theorem dX5_borne_42 : decode cX5_borne 42 = .ok (.iadd, 1) := by decide +kernel
theorem dX5_borne_43 : decode cX5_borne 43 = .ok (.istore_n 2, 1) := by decide +kernel
theorem dX5_borne_44 : decode cX5_borne 44 = .ok (.iinc 3 1, 3) := by decide +kernel
theorem dX5_borne_47 : decode cX5_borne 47 = .ok (.goto (-43), 3) := by decide +kernel
theorem dX5_borne_50 : decode cX5_borne 50 = .ok (.iload_n 2, 1) := by decide +kernel
theorem dX5_borne_51 : decode cX5_borne 51 = .ok (.ireturn, 1) := by decide +kernel
set_option maxRecDepth 20000 in
theorem ggX5_turn_X5_isProjector : GoodIn wsX5_turn wsX5_isProjector := goodIn_r _ [9, 10, 11, 12, 8, 13, 23, 24, 25, 26, 27, 28, 29, 30, 31, 32, 33, 34, 35, 36, 37, 38, 39, 40, 41, 42, 43, 44, 45, 46, 47, 48, 49, 50, 51, 52] (by decide +kernel) (by decide +kernel)
set_option maxRecDepth 20000 in
theorem gX5_turn_X5_isProjector : GoodIn wsX5_turn (wsV RX5 98 RX5 yX5_isProjector wsX5_isProjector) := goodIn_app (goodIn_of _ (by decide +kernel)) ggX5_turn_X5_isProjector
set_option maxRecDepth 20000 in
theorem ggX5_turn_X5_borne : GoodIn wsX5_turn wsX5_borne := goodIn_r _ [17, 10, 1, 2, 3, 23, 24, 25, 26, 27, 28, 29, 30, 31, 32, 33, 34, 35, 36, 37, 38, 39, 40, 41, 42, 43, 44, 45, 46, 47, 48, 49, 50, 51, 52] (by decide +kernel) (by decide +kernel)
set_option maxRecDepth 20000 in
theorem gX5_turn_X5_borne : GoodIn wsX5_turn (wsV RX5 101 RX5 yX5_borne wsX5_borne) := goodIn_app (goodIn_of _ (by decide +kernel)) ggX5_turn_X5_borne
set_option maxRecDepth 20000 in
theorem ggX5_turn_X5_goesWell : GoodIn wsX5_turn wsX5_goesWell := goodIn_r _ [21, 22, 23, 24, 25, 26, 27, 28, 29, 30, 31, 32, 33, 34, 35, 36, 37, 38, 39, 40, 41, 42, 43, 44, 45, 46, 47, 48, 49, 50, 51, 52] (by decide +kernel) (by decide +kernel)
set_option maxRecDepth 20000 in
theorem gX5_turn_X5_goesWell : GoodIn wsX5_turn (wsV RX5 83 RX5 yX5_goesWell wsX5_goesWell) := goodIn_app (goodIn_of _ (by decide +kernel)) ggX5_turn_X5_goesWell
theorem dX5_turn_0 : decode cX5_turn 0 = .ok (.aload_n 0, 1) := by decide +kernel
theorem dX5_turn_1 : decode cX5_turn 1 = .ok (.iload_n 1, 1) := by decide +kernel
theorem dX5_turn_2 : decode cX5_turn 2 = .ok (.invokevirtual 98, 3) := by decide +kernel
theorem dX5_turn_5 : decode cX5_turn 5 = .ok (.istore_n 3, 1) := by decide +kernel
theorem dX5_turn_6 : decode cX5_turn 6 = .ok (.iload_n 3, 1) := by decide +kernel
theorem dX5_turn_7 : decode cX5_turn 7 = .ok (.ifCond .eq 51, 3) := by decide +kernel
theorem dX5_turn_10 : decode cX5_turn 10 = .ok (.iload_n 2, 1) := by decide +kernel
theorem dX5_turn_11 : decode cX5_turn 11 = .ok (.ifCond .eq 43, 3) := by decide +kernel
theorem dX5_turn_14 : decode cX5_turn 14 = .ok (.aload_n 0, 1) := by decide +kernel
theorem dX5_turn_15 : decode cX5_turn 15 = .ok (.getfield 51, 3) := by decide +kernel
theorem dX5_turn_18 : decode cX5_turn 18 = .ok (.iload_n 1, 1) := by decide +kernel
theorem dX5_turn_19 : decode cX5_turn 19 = .ok (.baload, 1) := by decide +kernel
theorem dX5_turn_20 : decode cX5_turn 20 = .ok (.ifCond .ne 34, 3) := by decide +kernel
theorem dX5_turn_23 : decode cX5_turn 23 = .ok (.aload_n 0, 1) := by decide +kernel
theorem dX5_turn_24 : decode cX5_turn 24 = .ok (.aload_n 0, 1) := by decide +kernel
theorem dX5_turn_25 : decode cX5_turn 25 = .ok (.getfield 39, 3) := by decide +kernel
theorem dX5_turn_28 : decode cX5_turn 28 = .ok (.iload_n 1, 1) := by decide +kernel
theorem dX5_turn_29 : decode cX5_turn 29 = .ok (.iaload, 1) := by decide +kernel
theorem dX5_turn_30 : decode cX5_turn 30 = .ok (.invokevirtual 101, 3) := by decide +kernel
theorem dX5_turn_33 : decode cX5_turn 33 = .ok (.aload_n 0, 1) := by decide +kernel
theorem dX5_turn_34 : decode cX5_turn 34 = .ok (.getfield 36, 3) := by decide +kernel
theorem dX5_turn_37 : decode cX5_turn 37 = .ok (.iload_n 1, 1) := by decide +kernel
theorem dX5_turn_38 : decode cX5_turn 38 = .ok (.iaload, 1) := by decide +kernel
theorem dX5_turn_39 : decode cX5_turn 39 = .ok (.iadd, 1) := by decide +kernel
theorem dX5_turn_40 : decode cX5_turn 40 = .ok (.aload_n 0, 1) := by decide +kernel
theorem dX5_turn_41 : decode cX5_turn 41 = .ok (.getfield 60, 3) := by decide +kernel
theorem dX5_turn_44 : decode cX5_turn 44 = .ok (.aload_n 0, 1) := by decide +kernel
theorem dX5_turn_45 : decode cX5_turn 45 = .ok (.getfield 39, 3) := by decide +kernel
theorem dX5_turn_48 : decode cX5_turn 48 = .ok (.iload_n 1, 1) := by decide +kernel
theorem dX5_turn_49 : decode cX5_turn 49 = .ok (.iaload, 1) := by decide +kernel
theorem dX5_turn_50 : decode cX5_turn 50 = .ok (.iaload, 1) := by decide +kernel
theorem dX5_turn_51 : decode cX5_turn 51 = .ok (.if_icmp .gt 7, 3) := by decide +kernel
theorem dX5_turn_54 : decode cX5_turn 54 = .ok (.iconst 1, 1) := by decide +kernel
theorem dX5_turn_55 : decode cX5_turn 55 = .ok (.goto 4, 3) := by decide +kernel
theorem dX5_turn_58 : decode cX5_turn 58 = .ok (.iconst 0, 1) := by decide +kernel
theorem dX5_turn_59 : decode cX5_turn 59 = .ok (.istore 4, 2) := by decide +kernel
theorem dX5_turn_61 : decode cX5_turn 61 = .ok (.aload_n 0, 1) := by decide +kernel
theorem dX5_turn_62 : decode cX5_turn 62 = .ok (.iload_n 3, 1) := by decide +kernel
theorem dX5_turn_63 : decode cX5_turn 63 = .ok (.ifCond .ne 7, 3) := by decide +kernel
theorem dX5_turn_66 : decode cX5_turn 66 = .ok (.iconst 1, 1) := by decide +kernel
theorem dX5_turn_67 : decode cX5_turn 67 = .ok (.goto 13, 3) := by decide +kernel
theorem dX5_turn_70 : decode cX5_turn 70 = .ok (.iload 4, 2) := by decide +kernel
theorem dX5_turn_72 : decode cX5_turn 72 = .ok (.ifCond .eq 7, 3) := by decide +kernel
theorem dX5_turn_75 : decode cX5_turn 75 = .ok (.iconst 0, 1) := by decide +kernel
theorem dX5_turn_76 : decode cX5_turn 76 = .ok (.goto 4, 3) := by decide +kernel
theorem dX5_turn_79 : decode cX5_turn 79 = .ok (.iconst 2, 1) := by decide +kernel
theorem dX5_turn_80 : decode cX5_turn 80 = .ok (.invokevirtual 83, 3) := by decide +kernel
theorem dX5_turn_83 : decode cX5_turn 83 = .ok (.ifCond .ne 5, 3) := by decide +kernel
theorem dX5_turn_86 : decode cX5_turn 86 = .ok (.iconst 0, 1) := by decide +kernel
theorem dX5_turn_87 : decode cX5_turn 87 = .ok (.ireturn, 1) := by decide +kernel
theorem dX5_turn_88 : decode cX5_turn 88 = .ok (.aload_n 0, 1) := by decide +kernel
theorem dX5_turn_89 : decode cX5_turn 89 = .ok (.getfield 51, 3) := by decide +kernel
theorem dX5_turn_92 : decode cX5_turn 92 = .ok (.iload_n 1, 1) := by decide +kernel
theorem dX5_turn_93 : decode cX5_turn 93 = .ok (.baload, 1) := by decide +kernel
theorem dX5_turn_94 : decode cX5_turn 94 = .ok (.istore 5, 2) := by decide +kernel
theorem dX5_turn_96 : decode cX5_turn 96 = .ok (.aload_n 0, 1) := by decide +kernel
theorem dX5_turn_97 : decode cX5_turn 97 = .ok (.getfield 51, 3) := by decide +kernel
theorem dX5_turn_100 : decode cX5_turn 100 = .ok (.iload_n 1, 1) := by decide +kernel
theorem dX5_turn_101 : decode cX5_turn 101 = .ok (.iload_n 2, 1) := by decide +kernel
theorem dX5_turn_102 : decode cX5_turn 102 = .ok (.bastore, 1) := by decide +kernel
theorem dX5_turn_103 : decode cX5_turn 103 = .ok (.iload 5, 2) := by decide +kernel
theorem dX5_turn_105 : decode cX5_turn 105 = .ok (.ireturn, 1) := by decide +kernel
set_option maxRecDepth 20000 in
theorem ggX5_fail_X5_isProjector : GoodIn wsX5_fail wsX5_isProjector := goodIn_r _ [6, 7, 8, 9, 5, 10, 16, 17, 18, 19, 20, 21, 22, 23, 24, 25, 26, 27, 28, 29, 30, 31, 32, 33, 34, 35, 36, 37, 38, 39, 40, 41, 42, 43, 44, 45] (by decide +kernel) (by decide +kernel)
set_option maxRecDepth 20000 in
theorem gX5_fail_X5_isProjector : GoodIn wsX5_fail (wsV RX5 98 RX5 yX5_isProjector wsX5_isProjector) := goodIn_app (goodIn_of _ (by decide +kernel)) ggX5_fail_X5_isProjector
set_option maxRecDepth 20000 in
theorem ggX5_fail_X5_goesWell : GoodIn wsX5_fail wsX5_goesWell := goodIn_r _ [14, 15, 16, 17, 18, 19, 20, 21, 22, 23, 24, 25, 26, 27, 28, 29, 30, 31, 32, 33, 34, 35, 36, 37, 38, 39, 40, 41, 42, 43, 44, 45] (by decide +kernel) (by decide +kernel)
set_option maxRecDepth 20000 in
theorem gX5_fail_X5_goesWell : GoodIn wsX5_fail (wsV RX5 83 RX5 yX5_goesWell wsX5_goesWell) := goodIn_app (goodIn_of _ (by decide +kernel)) ggX5_fail_X5_goesWell
theorem dX5_fail_0 : decode cX5_fail 0 = .ok (.aload_n 0, 1) := by decide +kernel
theorem dX5_fail_1 : decode cX5_fail 1 = .ok (.aload_n 0, 1) := by decide +kernel
theorem dX5_fail_2 : decode cX5_fail 2 = .ok (.iload_n 1, 1) := by decide +kernel
theorem dX5_fail_3 : decode cX5_fail 3 = .ok (.invokevirtual 98, 3) := by decide +kernel
theorem dX5_fail_6 : decode cX5_fail 6 = .ok (.ifCond .eq 7, 3) := by decide +kernel
theorem dX5_fail_9 : decode cX5_fail 9 = .ok (.iconst 0, 1) := by decide +kernel
theorem dX5_fail_10 : decode cX5_fail 10 = .ok (.goto 4, 3) := by decide +kernel
theorem dX5_fail_13 : decode cX5_fail 13 = .ok (.iconst 1, 1) := by decide +kernel
theorem dX5_fail_14 : decode cX5_fail 14 = .ok (.invokevirtual 83, 3) := by decide +kernel
theorem dX5_fail_17 : decode cX5_fail 17 = .ok (.ifCond .ne 5, 3) := by decide +kernel
theorem dX5_fail_20 : decode cX5_fail 20 = .ok (.iconst 0, 1) := by decide +kernel
theorem dX5_fail_21 : decode cX5_fail 21 = .ok (.ireturn, 1) := by decide +kernel
theorem dX5_fail_22 : decode cX5_fail 22 = .ok (.aload_n 0, 1) := by decide +kernel
theorem dX5_fail_23 : decode cX5_fail 23 = .ok (.getfield 54, 3) := by decide +kernel
theorem dX5_fail_26 : decode cX5_fail 26 = .ok (.iload_n 1, 1) := by decide +kernel
theorem dX5_fail_27 : decode cX5_fail 27 = .ok (.baload, 1) := by decide +kernel
theorem dX5_fail_28 : decode cX5_fail 28 = .ok (.istore_n 3, 1) := by decide +kernel
theorem dX5_fail_29 : decode cX5_fail 29 = .ok (.aload_n 0, 1) := by decide +kernel
theorem dX5_fail_30 : decode cX5_fail 30 = .ok (.getfield 54, 3) := by decide +kernel
theorem dX5_fail_33 : decode cX5_fail 33 = .ok (.iload_n 1, 1) := by decide +kernel
theorem dX5_fail_34 : decode cX5_fail 34 = .ok (.iload_n 2, 1) := by decide +kernel
theorem dX5_fail_35 : decode cX5_fail 35 = .ok (.bastore, 1) := by decide +kernel
theorem dX5_fail_36 : decode cX5_fail 36 = .ok (.iload_n 3, 1) := by decide +kernel
theorem dX5_fail_37 : decode cX5_fail 37 = .ok (.ireturn, 1) := by decide +kernel
set_option maxRecDepth 20000 in
theorem ggX5_phase_X5_in : GoodIn wsX5_phase wsX5_in := goodIn_r _ [6] (by decide +kernel) (by decide +kernel)
set_option maxRecDepth 20000 in
theorem gX5_phase_X5_in : GoodIn wsX5_phase (va_wsS RX5 72 yX5_in wsX5_in) := goodIn_app (goodIn_of _ (by decide +kernel)) ggX5_phase_X5_in
set_option maxRecDepth 20000 in
theorem ggX5_phase_X5_goesWell : GoodIn wsX5_phase wsX5_goesWell := goodIn_r _ [10, 11, 12, 13, 14, 15, 16, 17, 18, 19, 20, 21, 22, 23, 24, 25, 26, 27, 28, 29, 30, 31, 32, 33, 34, 35, 36, 37, 38, 39, 40, 41] (by decide +kernel) (by decide +kernel)
set_option maxRecDepth 20000 in
theorem gX5_phase_X5_goesWell : GoodIn wsX5_phase (wsV RX5 83 RX5 yX5_goesWell wsX5_goesWell) := goodIn_app (goodIn_of _ (by decide +kernel)) ggX5_phase_X5_goesWell
theorem dX5_phase_0 : decode cX5_phase 0 = .ok (.aload_n 0, 1) := by decide +kernel
theorem dX5_phase_1 : decode cX5_phase 1 = .ok (.iload_n 1, 1) := by decide +kernel
theorem dX5_phase_2 : decode cX5_phase 2 = .ok (.iconst 0, 1) := by decide +kernel
theorem dX5_phase_3 : decode cX5_phase 3 = .ok (.iconst 2, 1) := by decide +kernel
theorem dX5_phase_4 : decode cX5_phase 4 = .ok (.invokestatic 72, 3) := by decide +kernel
theorem dX5_phase_7 : decode cX5_phase 7 = .ok (.ifCond .eq 17, 3) := by decide +kernel
theorem dX5_phase_10 : decode cX5_phase 10 = .ok (.iload_n 2, 1) := by decide +kernel
theorem dX5_phase_11 : decode cX5_phase 11 = .ok (.iconst 0, 1) := by decide +kernel
theorem dX5_phase_12 : decode cX5_phase 12 = .ok (.ldc 105, 2) := by decide +kernel
theorem dX5_phase_14 : decode cX5_phase 14 = .ok (.invokestatic 72, 3) := by decide +kernel
theorem dX5_phase_17 : decode cX5_phase 17 = .ok (.ifCond .eq 7, 3) := by decide +kernel
theorem dX5_phase_20 : decode cX5_phase 20 = .ok (.iconst 0, 1) := by decide +kernel
theorem dX5_phase_21 : decode cX5_phase 21 = .ok (.goto 4, 3) := by decide +kernel
theorem dX5_phase_24 : decode cX5_phase 24 = .ok (.iconst 1, 1) := by decide +kernel
theorem dX5_phase_25 : decode cX5_phase 25 = .ok (.invokevirtual 83, 3) := by decide +kernel
theorem dX5_phase_28 : decode cX5_phase 28 = .ok (.ifCond .ne 5, 3) := by decide +kernel
theorem dX5_phase_31 : decode cX5_phase 31 = .ok (.iconst 0, 1) := by decide +kernel
theorem dX5_phase_32 : decode cX5_phase 32 = .ok (.ireturn, 1) := by decide +kernel
theorem dX5_phase_33 : decode cX5_phase 33 = .ok (.aload_n 0, 1) := by decide +kernel
theorem dX5_phase_34 : decode cX5_phase 34 = .ok (.getfield 60, 3) := by decide +kernel
theorem dX5_phase_37 : decode cX5_phase 37 = .ok (.iload_n 1, 1) := by decide +kernel
theorem dX5_phase_38 : decode cX5_phase 38 = .ok (.iaload, 1) := by decide +kernel
theorem dX5_phase_39 : decode cX5_phase 39 = .ok (.istore_n 3, 1) := by decide +kernel
theorem dX5_phase_40 : decode cX5_phase 40 = .ok (.aload_n 0, 1) := by decide +kernel
theorem dX5_phase_41 : decode cX5_phase 41 = .ok (.getfield 60, 3) := by decide +kernel
theorem dX5_phase_44 : decode cX5_phase 44 = .ok (.iload_n 1, 1) := by decide +kernel
theorem dX5_phase_45 : decode cX5_phase 45 = .ok (.iload_n 2, 1) := by decide +kernel
theorem dX5_phase_46 : decode cX5_phase 46 = .ok (.iastore, 1) := by decide +kernel
theorem dX5_phase_47 : decode cX5_phase 47 = .ok (.iload_n 3, 1) := by decide +kernel
theorem dX5_phase_48 : decode cX5_phase 48 = .ok (.ireturn, 1) := by decide +kernel
set_option maxRecDepth 20000 in
theorem ggX5_wind_X5_in : GoodIn wsX5_wind wsX5_in := goodIn_r _ [5] (by decide +kernel) (by decide +kernel)
set_option maxRecDepth 20000 in
theorem gX5_wind_X5_in : GoodIn wsX5_wind (va_wsS RX5 72 yX5_in wsX5_in) := goodIn_app (goodIn_of _ (by decide +kernel)) ggX5_wind_X5_in
set_option maxRecDepth 20000 in
theorem ggX5_wind_X5_goesWell : GoodIn wsX5_wind wsX5_goesWell := goodIn_r _ [9, 10, 11, 12, 13, 14, 15, 16, 17, 18, 19, 20, 21, 22, 23, 24, 25, 26, 27, 28, 29, 30, 31, 32, 33, 34, 35, 36, 37, 38, 39, 40] (by decide +kernel) (by decide +kernel)
set_option maxRecDepth 20000 in
theorem gX5_wind_X5_goesWell : GoodIn wsX5_wind (wsV RX5 83 RX5 yX5_goesWell wsX5_goesWell) := goodIn_app (goodIn_of _ (by decide +kernel)) ggX5_wind_X5_goesWell
theorem dX5_wind_0 : decode cX5_wind 0 = .ok (.aload_n 0, 1) := by decide +kernel
theorem dX5_wind_1 : decode cX5_wind 1 = .ok (.iload_n 1, 1) := by decide +kernel
theorem dX5_wind_2 : decode cX5_wind 2 = .ok (.iconst 0, 1) := by decide +kernel
theorem dX5_wind_3 : decode cX5_wind 3 = .ok (.bipush 8, 2) := by decide +kernel
theorem dX5_wind_5 : decode cX5_wind 5 = .ok (.invokestatic 72, 3) := by decide +kernel
theorem dX5_wind_8 : decode cX5_wind 8 = .ok (.ifCond .eq 7, 3) := by decide +kernel
theorem dX5_wind_11 : decode cX5_wind 11 = .ok (.iconst 0, 1) := by decide +kernel
theorem dX5_wind_12 : decode cX5_wind 12 = .ok (.goto 4, 3) := by decide +kernel
theorem dX5_wind_15 : decode cX5_wind 15 = .ok (.iconst 1, 1) := by decide +kernel
theorem dX5_wind_16 : decode cX5_wind 16 = .ok (.invokevirtual 83, 3) := by decide +kernel
theorem dX5_wind_19 : decode cX5_wind 19 = .ok (.ifCond .ne 5, 3) := by decide +kernel
theorem dX5_wind_22 : decode cX5_wind 22 = .ok (.iconst 0, 1) := by decide +kernel
theorem dX5_wind_23 : decode cX5_wind 23 = .ok (.ireturn, 1) := by decide +kernel
theorem dX5_wind_24 : decode cX5_wind 24 = .ok (.aload_n 0, 1) := by decide +kernel
theorem dX5_wind_25 : decode cX5_wind 25 = .ok (.getfield 106, 3) := by decide +kernel
theorem dX5_wind_28 : decode cX5_wind 28 = .ok (.istore_n 2, 1) := by decide +kernel
theorem dX5_wind_29 : decode cX5_wind 29 = .ok (.aload_n 0, 1) := by decide +kernel
theorem dX5_wind_30 : decode cX5_wind 30 = .ok (.iload_n 1, 1) := by decide +kernel
theorem dX5_wind_31 : decode cX5_wind 31 = .ok (.putfield 106, 3) := by decide +kernel
theorem dX5_wind_34 : decode cX5_wind 34 = .ok (.iload_n 2, 1) := by decide +kernel
theorem dX5_wind_35 : decode cX5_wind 35 = .ok (.ireturn, 1) := by decide +kernel
theorem dX5_cross_0 : decode cX5_cross 0 = .ok (.aload_n 0, 1) := by decide +kernel
theorem dX5_cross_1 : decode cX5_cross 1 = .ok (.getfield 33, 3) := by decide +kernel
theorem dX5_cross_4 : decode cX5_cross 4 = .ok (.iload_n 1, 1) := by decide +kernel
theorem dX5_cross_5 : decode cX5_cross 5 = .ok (.iaload, 1) := by decide +kernel
theorem dX5_cross_6 : decode cX5_cross 6 = .ok (.aload_n 0, 1) := by decide +kernel
theorem dX5_cross_7 : decode cX5_cross 7 = .ok (.getfield 7, 3) := by decide +kernel
theorem dX5_cross_10 : decode cX5_cross 10 = .ok (.iload_n 2, 1) := by decide +kernel
theorem dX5_cross_11 : decode cX5_cross 11 = .ok (.iaload, 1) := by decide +kernel
theorem dX5_cross_12 : decode cX5_cross 12 = .ok (.isub, 1) := by decide +kernel
theorem dX5_cross_13 : decode cX5_cross 13 = .ok (.istore 4, 2) := by decide +kernel
theorem dX5_cross_15 : decode cX5_cross 15 = .ok (.aload_n 0, 1) := by decide +kernel
theorem dX5_cross_16 : decode cX5_cross 16 = .ok (.getfield 30, 3) := by decide +kernel
theorem dX5_cross_19 : decode cX5_cross 19 = .ok (.iload_n 1, 1) := by decide +kernel
theorem dX5_cross_20 : decode cX5_cross 20 = .ok (.iaload, 1) := by decide +kernel
theorem dX5_cross_21 : decode cX5_cross 21 = .ok (.iload 4, 2) := by decide +kernel
theorem dX5_cross_23 : decode cX5_cross 23 = .ok (.imul, 1) := by decide +kernel
theorem dX5_cross_24 : decode cX5_cross 24 = .ok (.iload_n 2, 1) := by decide +kernel
theorem dX5_cross_25 : decode cX5_cross 25 = .ok (.aload_n 0, 1) := by decide +kernel
theorem dX5_cross_26 : decode cX5_cross 26 = .ok (.getfield 30, 3) := by decide +kernel
theorem dX5_cross_29 : decode cX5_cross 29 = .ok (.iload_n 1, 1) := by decide +kernel
theorem dX5_cross_30 : decode cX5_cross 30 = .ok (.iaload, 1) := by decide +kernel
theorem dX5_cross_31 : decode cX5_cross 31 = .ok (.isub, 1) := by decide +kernel
theorem dX5_cross_32 : decode cX5_cross 32 = .ok (.aload_n 0, 1) := by decide +kernel
theorem dX5_cross_33 : decode cX5_cross 33 = .ok (.getfield 33, 3) := by decide +kernel
theorem dX5_cross_36 : decode cX5_cross 36 = .ok (.iload_n 1, 1) := by decide +kernel
theorem dX5_cross_37 : decode cX5_cross 37 = .ok (.iaload, 1) := by decide +kernel
theorem dX5_cross_38 : decode cX5_cross 38 = .ok (.iload_n 3, 1) := by decide +kernel
theorem dX5_cross_39 : decode cX5_cross 39 = .ok (.isub, 1) := by decide +kernel
theorem dX5_cross_40 : decode cX5_cross 40 = .ok (.imul, 1) := by decide +kernel
theorem dX5_cross_41 : decode cX5_cross 41 = .ok (.iadd, 1) := by decide +kernel
theorem dX5_cross_42 : decode cX5_cross 42 = .ok (.istore 5, 2) := by decide +kernel
theorem dX5_cross_44 : decode cX5_cross 44 = .ok (.iconst 2, 1) := by decide +kernel
theorem dX5_cross_45 : decode cX5_cross 45 = .ok (.iload 5, 2) := by decide +kernel
theorem dX5_cross_47 : decode cX5_cross 47 = .ok (.imul, 1) := by decide +kernel
theorem dX5_cross_48 : decode cX5_cross 48 = .ok (.iload 4, 2) := by decide +kernel
theorem dX5_cross_50 : decode cX5_cross 50 = .ok (.iadd, 1) := by decide +kernel
theorem dX5_cross_51 : decode cX5_cross 51 = .ok (.iconst 2, 1) := by decide +kernel
theorem dX5_cross_52 : decode cX5_cross 52 = .ok (.iload 4, 2) := by decide +kernel
theorem dX5_cross_54 : decode cX5_cross 54 = .ok (.imul, 1) := by decide +kernel
theorem dX5_cross_55 : decode cX5_cross 55 = .ok (.idiv, 1) := by decide +kernel
theorem dX5_cross_56 : decode cX5_cross 56 = .ok (.ireturn, 1) := by decide +kernel
set_option maxRecDepth 20000 in
theorem ggX5_through_X5_isProjector : GoodIn wsX5_through wsX5_isProjector := goodIn_r _ [7, 8, 9, 10, 6, 11, 25, 26, 27, 28, 29, 30, 31, 32, 33, 34, 35, 36, 37, 38, 39, 40, 41, 42, 43, 44, 45, 46, 47, 48, 49, 50, 51, 52, 53, 54] (by decide +kernel) (by decide +kernel)
set_option maxRecDepth 20000 in
theorem gX5_through_X5_isProjector : GoodIn wsX5_through (wsV RX5 98 RX5 yX5_isProjector wsX5_isProjector) := goodIn_app (goodIn_of _ (by decide +kernel)) ggX5_through_X5_isProjector
set_option maxRecDepth 20000 in
theorem ggX5_through_X5_isColumn : GoodIn wsX5_through wsX5_isColumn := goodIn_r _ [14, 9, 10, 6, 11] (by decide +kernel) (by decide +kernel)
set_option maxRecDepth 20000 in
theorem gX5_through_X5_isColumn : GoodIn wsX5_through (va_wsS RX5 76 yX5_isColumn wsX5_isColumn) := goodIn_app (goodIn_of _ (by decide +kernel)) ggX5_through_X5_isColumn
set_option maxRecDepth 20000 in
theorem ggX5_through_X5_in : GoodIn wsX5_through wsX5_in := goodIn_r _ [11] (by decide +kernel) (by decide +kernel)
set_option maxRecDepth 20000 in
theorem gX5_through_X5_in : GoodIn wsX5_through (va_wsS RX5 72 yX5_in wsX5_in) := goodIn_app (goodIn_of _ (by decide +kernel)) ggX5_through_X5_in
set_option maxRecDepth 20000 in
theorem ggX5_through_X5_goesWell : GoodIn wsX5_through wsX5_goesWell := goodIn_r _ [18, 19, 25, 26, 27, 28, 29, 30, 31, 32, 33, 34, 35, 36, 37, 38, 39, 40, 41, 42, 43, 44, 45, 46, 47, 48, 49, 50, 51, 52, 53, 54] (by decide +kernel) (by decide +kernel)
set_option maxRecDepth 20000 in
theorem gX5_through_X5_goesWell : GoodIn wsX5_through (wsV RX5 83 RX5 yX5_goesWell wsX5_goesWell) := goodIn_app (goodIn_of _ (by decide +kernel)) ggX5_through_X5_goesWell
set_option maxRecDepth 20000 in
theorem ggX5_through_X5_cross : GoodIn wsX5_through wsX5_cross := goodIn_r _ [23, 2, 1, 24, 25, 26, 27, 28, 29, 30, 31, 32, 33, 34, 35, 36, 37, 38, 39, 40, 41, 42, 43, 44, 45, 46, 47, 48, 49, 50, 51, 52, 53, 54] (by decide +kernel) (by decide +kernel)
set_option maxRecDepth 20000 in
theorem gX5_through_X5_cross : GoodIn wsX5_through (wsV RX5 109 RX5 yX5_cross wsX5_cross) := goodIn_app (goodIn_of _ (by decide +kernel)) ggX5_through_X5_cross
theorem dX5_through_0 : decode cX5_through 0 = .ok (.aload_n 0, 1) := by decide +kernel
theorem dX5_through_1 : decode cX5_through 1 = .ok (.aload_n 0, 1) := by decide +kernel
theorem dX5_through_2 : decode cX5_through 2 = .ok (.iload_n 1, 1) := by decide +kernel
theorem dX5_through_3 : decode cX5_through 3 = .ok (.invokevirtual 98, 3) := by decide +kernel
theorem dX5_through_6 : decode cX5_through 6 = .ok (.ifCond .eq 24, 3) := by decide +kernel
theorem dX5_through_9 : decode cX5_through 9 = .ok (.iload_n 2, 1) := by decide +kernel
theorem dX5_through_10 : decode cX5_through 10 = .ok (.invokestatic 76, 3) := by decide +kernel
theorem dX5_through_13 : decode cX5_through 13 = .ok (.ifCond .eq 17, 3) := by decide +kernel
theorem dX5_through_16 : decode cX5_through 16 = .ok (.iload_n 3, 1) := by decide +kernel
theorem dX5_through_17 : decode cX5_through 17 = .ok (.iconst 0, 1) := by decide +kernel
theorem dX5_through_18 : decode cX5_through 18 = .ok (.bipush 11, 2) := by decide +kernel
theorem dX5_through_20 : decode cX5_through 20 = .ok (.invokestatic 72, 3) := by decide +kernel
theorem dX5_through_23 : decode cX5_through 23 = .ok (.ifCond .eq 7, 3) := by decide +kernel
theorem dX5_through_26 : decode cX5_through 26 = .ok (.iconst 0, 1) := by decide +kernel
theorem dX5_through_27 : decode cX5_through 27 = .ok (.goto 4, 3) := by decide +kernel
theorem dX5_through_30 : decode cX5_through 30 = .ok (.iconst 1, 1) := by decide +kernel
theorem dX5_through_31 : decode cX5_through 31 = .ok (.invokevirtual 83, 3) := by decide +kernel
theorem dX5_through_34 : decode cX5_through 34 = .ok (.ifCond .ne 5, 3) := by decide +kernel
theorem dX5_through_37 : decode cX5_through 37 = .ok (.iconst 0, 1) := by decide +kernel
theorem dX5_through_38 : decode cX5_through 38 = .ok (.ireturn, 1) := by decide +kernel
theorem dX5_through_39 : decode cX5_through 39 = .ok (.iload_n 3, 1) := by decide +kernel
theorem dX5_through_40 : decode cX5_through 40 = .ok (.aload_n 0, 1) := by decide +kernel
theorem dX5_through_41 : decode cX5_through 41 = .ok (.getfield 7, 3) := by decide +kernel
theorem dX5_through_44 : decode cX5_through 44 = .ok (.iload_n 2, 1) := by decide +kernel
theorem dX5_through_45 : decode cX5_through 45 = .ok (.iaload, 1) := by decide +kernel
theorem dX5_through_46 : decode cX5_through 46 = .ok (.if_icmp .le 23, 3) := by decide +kernel
theorem dX5_through_49 : decode cX5_through 49 = .ok (.iload_n 3, 1) := by decide +kernel
theorem dX5_through_50 : decode cX5_through 50 = .ok (.aload_n 0, 1) := by decide +kernel
theorem dX5_through_51 : decode cX5_through 51 = .ok (.getfield 33, 3) := by decide +kernel
theorem dX5_through_54 : decode cX5_through 54 = .ok (.iload_n 1, 1) := by decide +kernel
theorem dX5_through_55 : decode cX5_through 55 = .ok (.iaload, 1) := by decide +kernel
theorem dX5_through_56 : decode cX5_through 56 = .ok (.if_icmp .ge 13, 3) := by decide +kernel
theorem dX5_through_59 : decode cX5_through 59 = .ok (.aload_n 0, 1) := by decide +kernel
theorem dX5_through_60 : decode cX5_through 60 = .ok (.iload_n 1, 1) := by decide +kernel
theorem dX5_through_61 : decode cX5_through 61 = .ok (.iload_n 2, 1) := by decide +kernel
theorem dX5_through_62 : decode cX5_through 62 = .ok (.iload_n 3, 1) := by decide +kernel
theorem dX5_through_63 : decode cX5_through 63 = .ok (.invokevirtual 109, 3) := by decide +kernel
theorem dX5_through_66 : decode cX5_through 66 = .ok (.goto 4, 3) := by decide +kernel
theorem dX5_through_69 : decode cX5_through 69 = .ok (.iconst (-1), 1) := by decide +kernel
theorem dX5_through_70 : decode cX5_through 70 = .ok (.ireturn, 1) := by decide +kernel
set_option maxRecDepth 20000 in
theorem ggX5_isBlocked_X5_cross : GoodIn wsX5_isBlocked wsX5_cross := goodIn_r _ [9, 2, 1, 10, 14, 15, 16, 17, 18, 19, 20, 21, 22, 23, 24, 25, 26, 27, 28, 29, 30, 31, 32, 33, 34, 35, 36, 37, 38, 39, 40, 41, 42, 43] (by decide +kernel) (by decide +kernel)
set_option maxRecDepth 20000 in
theorem gX5_isBlocked_X5_cross : GoodIn wsX5_isBlocked (wsV RX5 109 RX5 yX5_cross wsX5_cross) := goodIn_app (goodIn_of _ (by decide +kernel)) ggX5_isBlocked_X5_cross
set_option maxRecDepth 20000 in
theorem ggX5_isBlocked_X5_at : GoodIn wsX5_isBlocked wsX5_at := goodIn_r _ [13] (by decide +kernel) (by decide +kernel)
set_option maxRecDepth 20000 in
theorem gX5_isBlocked_X5_at : GoodIn wsX5_isBlocked (va_wsS RX5 90 yX5_at wsX5_at) := goodIn_app (goodIn_of _ (by decide +kernel)) ggX5_isBlocked_X5_at
theorem dX5_isBlocked_0 : decode cX5_isBlocked 0 = .ok (.iconst 0, 1) := by decide +kernel
theorem dX5_isBlocked_1 : decode cX5_isBlocked 1 = .ok (.istore_n 3, 1) := by decide +kernel
theorem dX5_isBlocked_2 : decode cX5_isBlocked 2 = .ok (.aload_n 0, 1) := by decide +kernel
theorem dX5_isBlocked_3 : decode cX5_isBlocked 3 = .ok (.getfield 7, 3) := by decide +kernel
theorem dX5_isBlocked_6 : decode cX5_isBlocked 6 = .ok (.iload_n 2, 1) := by decide +kernel
theorem dX5_isBlocked_7 : decode cX5_isBlocked 7 = .ok (.iaload, 1) := by decide +kernel
theorem dX5_isBlocked_8 : decode cX5_isBlocked 8 = .ok (.iconst 1, 1) := by decide +kernel
theorem dX5_isBlocked_9 : decode cX5_isBlocked 9 = .ok (.iadd, 1) := by decide +kernel
theorem dX5_isBlocked_10 : decode cX5_isBlocked 10 = .ok (.istore 4, 2) := by decide +kernel
theorem dX5_isBlocked_12 : decode cX5_isBlocked 12 = .ok (.iload 4, 2) := by decide +kernel
theorem dX5_isBlocked_14 : decode cX5_isBlocked 14 = .ok (.aload_n 0, 1) := by decide +kernel
theorem dX5_isBlocked_15 : decode cX5_isBlocked 15 = .ok (.getfield 33, 3) := by decide +kernel
theorem dX5_isBlocked_18 : decode cX5_isBlocked 18 = .ok (.iload_n 1, 1) := by decide +kernel
theorem dX5_isBlocked_19 : decode cX5_isBlocked 19 = .ok (.iaload, 1) := by decide +kernel
theorem dX5_isBlocked_20 : decode cX5_isBlocked 20 = .ok (.if_icmp .ge 72, 3) := by decide +kernel
theorem dX5_isBlocked_23 : decode cX5_isBlocked 23 = .ok (.aload_n 0, 1) := by decide +kernel
theorem dX5_isBlocked_24 : decode cX5_isBlocked 24 = .ok (.iload_n 1, 1) := by decide +kernel
theorem dX5_isBlocked_25 : decode cX5_isBlocked 25 = .ok (.iload_n 2, 1) := by decide +kernel
theorem dX5_isBlocked_26 : decode cX5_isBlocked 26 = .ok (.iload 4, 2) := by decide +kernel
theorem dX5_isBlocked_28 : decode cX5_isBlocked 28 = .ok (.invokevirtual 109, 3) := by decide +kernel
theorem dX5_isBlocked_31 : decode cX5_isBlocked 31 = .ok (.istore 5, 2) := by decide +kernel
theorem dX5_isBlocked_33 : decode cX5_isBlocked 33 = .ok (.iload_n 3, 1) := by decide +kernel
theorem dX5_isBlocked_34 : decode cX5_isBlocked 34 = .ok (.ifCond .ne 46, 3) := by decide +kernel
theorem dX5_isBlocked_37 : decode cX5_isBlocked 37 = .ok (.iload 4, 2) := by decide +kernel
theorem dX5_isBlocked_39 : decode cX5_isBlocked 39 = .ok (.aload_n 0, 1) := by decide +kernel
theorem dX5_isBlocked_40 : decode cX5_isBlocked 40 = .ok (.getfield 7, 3) := by decide +kernel
theorem dX5_isBlocked_43 : decode cX5_isBlocked 43 = .ok (.iload 5, 2) := by decide +kernel
theorem dX5_isBlocked_45 : decode cX5_isBlocked 45 = .ok (.iaload, 1) := by decide +kernel
theorem dX5_isBlocked_46 : decode cX5_isBlocked 46 = .ok (.if_icmp .lt 34, 3) := by decide +kernel
theorem dX5_isBlocked_49 : decode cX5_isBlocked 49 = .ok (.aload_n 0, 1) := by decide +kernel
theorem dX5_isBlocked_50 : decode cX5_isBlocked 50 = .ok (.getfield 19, 3) := by decide +kernel
theorem dX5_isBlocked_53 : decode cX5_isBlocked 53 = .ok (.iload 5, 2) := by decide +kernel
theorem dX5_isBlocked_55 : decode cX5_isBlocked 55 = .ok (.iload 4, 2) := by decide +kernel
theorem dX5_isBlocked_57 : decode cX5_isBlocked 57 = .ok (.invokestatic 90, 3) := by decide +kernel
theorem dX5_isBlocked_60 : decode cX5_isBlocked 60 = .ok (.iaload, 1) := by decide +kernel
theorem dX5_isBlocked_61 : decode cX5_isBlocked 61 = .ok (.iconst 1, 1) := by decide +kernel
theorem dX5_isBlocked_62 : decode cX5_isBlocked 62 = .ok (.if_icmp .eq 18, 3) := by decide +kernel
theorem dX5_isBlocked_65 : decode cX5_isBlocked 65 = .ok (.aload_n 0, 1) := by decide +kernel
theorem dX5_isBlocked_66 : decode cX5_isBlocked 66 = .ok (.getfield 22, 3) := by decide +kernel
theorem dX5_isBlocked_69 : decode cX5_isBlocked 69 = .ok (.iload 5, 2) := by decide +kernel
theorem dX5_isBlocked_71 : decode cX5_isBlocked 71 = .ok (.iload 4, 2) := by decide +kernel
theorem dX5_isBlocked_73 : decode cX5_isBlocked 73 = .ok (.invokestatic 90, 3) := by decide +kernel
theorem dX5_isBlocked_76 : decode cX5_isBlocked 76 = .ok (.baload, 1) := by decide +kernel
theorem dX5_isBlocked_77 : decode cX5_isBlocked 77 = .ok (.ifCond .eq 7, 3) := by decide +kernel
theorem dX5_isBlocked_80 : decode cX5_isBlocked 80 = .ok (.iconst 1, 1) := by decide +kernel
theorem dX5_isBlocked_81 : decode cX5_isBlocked 81 = .ok (.goto 4, 3) := by decide +kernel
theorem dX5_isBlocked_84 : decode cX5_isBlocked 84 = .ok (.iconst 0, 1) := by decide +kernel
theorem dX5_isBlocked_85 : decode cX5_isBlocked 85 = .ok (.istore_n 3, 1) := by decide +kernel
theorem dX5_isBlocked_86 : decode cX5_isBlocked 86 = .ok (.iinc 4 1, 3) := by decide +kernel
theorem dX5_isBlocked_89 : decode cX5_isBlocked 89 = .ok (.goto (-77), 3) := by decide +kernel
theorem dX5_isBlocked_92 : decode cX5_isBlocked 92 = .ok (.iload_n 3, 1) := by decide +kernel
theorem dX5_isBlocked_93 : decode cX5_isBlocked 93 = .ok (.ireturn, 1) := by decide +kernel
set_option maxRecDepth 20000 in
theorem ggX5_covers_X5_in : GoodIn wsX5_covers wsX5_in := goodIn_r _ [7] (by decide +kernel) (by decide +kernel)
set_option maxRecDepth 20000 in
theorem gX5_covers_X5_in : GoodIn wsX5_covers (va_wsS RX5 72 yX5_in wsX5_in) := goodIn_app (goodIn_of _ (by decide +kernel)) ggX5_covers_X5_in
theorem dX5_covers_0 : decode cX5_covers 0 = .ok (.aload_n 0, 1) := by decide +kernel
theorem dX5_covers_1 : decode cX5_covers 1 = .ok (.getfield 106, 3) := by decide +kernel
theorem dX5_covers_4 : decode cX5_covers 4 = .ok (.iconst 3, 1) := by decide +kernel
theorem dX5_covers_5 : decode cX5_covers 5 = .ok (.if_icmp .le 12, 3) := by decide +kernel
theorem dX5_covers_8 : decode cX5_covers 8 = .ok (.aload_n 0, 1) := by decide +kernel
theorem dX5_covers_9 : decode cX5_covers 9 = .ok (.getfield 106, 3) := by decide +kernel
theorem dX5_covers_12 : decode cX5_covers 12 = .ok (.iconst 3, 1) := by decide +kernel
theorem dX5_covers_13 : decode cX5_covers 13 = .ok (.isub, 1) := by decide +kernel
theorem dX5_covers_14 : decode cX5_covers 14 = .ok (.goto 4, 3) := by decide +kernel
theorem dX5_covers_17 : decode cX5_covers 17 = .ok (.iconst 0, 1) := by decide +kernel
theorem dX5_covers_18 : decode cX5_covers 18 = .ok (.istore_n 3, 1) := by decide +kernel
theorem dX5_covers_19 : decode cX5_covers 19 = .ok (.aload_n 0, 1) := by decide +kernel
theorem dX5_covers_20 : decode cX5_covers 20 = .ok (.getfield 48, 3) := by decide +kernel
theorem dX5_covers_23 : decode cX5_covers 23 = .ok (.iload_n 1, 1) := by decide +kernel
theorem dX5_covers_24 : decode cX5_covers 24 = .ok (.iaload, 1) := by decide +kernel
theorem dX5_covers_25 : decode cX5_covers 25 = .ok (.iconst (-1), 1) := by decide +kernel
theorem dX5_covers_26 : decode cX5_covers 26 = .ok (.if_icmp .eq 28, 3) := by decide +kernel
theorem dX5_covers_29 : decode cX5_covers 29 = .ok (.iload_n 2, 1) := by decide +kernel
theorem dX5_covers_30 : decode cX5_covers 30 = .ok (.iload_n 3, 1) := by decide +kernel
theorem dX5_covers_31 : decode cX5_covers 31 = .ok (.isub, 1) := by decide +kernel
theorem dX5_covers_32 : decode cX5_covers 32 = .ok (.aload_n 0, 1) := by decide +kernel
theorem dX5_covers_33 : decode cX5_covers 33 = .ok (.getfield 45, 3) := by decide +kernel
theorem dX5_covers_36 : decode cX5_covers 36 = .ok (.iload_n 1, 1) := by decide +kernel
theorem dX5_covers_37 : decode cX5_covers 37 = .ok (.iaload, 1) := by decide +kernel
theorem dX5_covers_38 : decode cX5_covers 38 = .ok (.aload_n 0, 1) := by decide +kernel
theorem dX5_covers_39 : decode cX5_covers 39 = .ok (.getfield 48, 3) := by decide +kernel
theorem dX5_covers_42 : decode cX5_covers 42 = .ok (.iload_n 1, 1) := by decide +kernel
theorem dX5_covers_43 : decode cX5_covers 43 = .ok (.iaload, 1) := by decide +kernel
theorem dX5_covers_44 : decode cX5_covers 44 = .ok (.invokestatic 72, 3) := by decide +kernel
theorem dX5_covers_47 : decode cX5_covers 47 = .ok (.ifCond .eq 7, 3) := by decide +kernel
theorem dX5_covers_50 : decode cX5_covers 50 = .ok (.iconst 1, 1) := by decide +kernel
theorem dX5_covers_51 : decode cX5_covers 51 = .ok (.goto 4, 3) := by decide +kernel
theorem dX5_covers_54 : decode cX5_covers 54 = .ok (.iconst 0, 1) := by decide +kernel
theorem dX5_covers_55 : decode cX5_covers 55 = .ok (.ireturn, 1) := by decide +kernel
set_option maxRecDepth 20000 in
theorem ggX5_lightOf_X5_covers : GoodIn wsX5_lightOf wsX5_covers := goodIn_r _ [11, 12, 13, 14, 15, 16, 10, 17, 31, 32, 33, 34, 35, 36, 37, 38, 39, 40, 41, 42, 43, 44, 45, 46, 47, 48, 49, 50, 51, 52, 53, 54, 55, 56, 57, 58, 59, 60] (by decide +kernel) (by decide +kernel)
set_option maxRecDepth 20000 in
theorem gX5_lightOf_X5_covers : GoodIn wsX5_lightOf (wsV RX5 113 RX5 yX5_covers wsX5_covers) := goodIn_app (goodIn_of _ (by decide +kernel)) ggX5_lightOf_X5_covers
set_option maxRecDepth 20000 in
theorem ggX5_lightOf_X5_isBlocked : GoodIn wsX5_lightOf wsX5_isBlocked := goodIn_r _ [21, 3, 2, 22, 23, 24, 25, 26, 10, 27, 1, 28, 29, 30, 31, 32, 33, 34, 35, 36, 37, 38, 39, 40, 41, 42, 43, 44, 45, 46, 47, 48, 49, 50, 51, 52, 53, 54, 55, 56, 57, 58, 59, 60] (by decide +kernel) (by decide +kernel)
set_option maxRecDepth 20000 in
theorem gX5_lightOf_X5_isBlocked : GoodIn wsX5_lightOf (wsV RX5 116 RX5 yX5_isBlocked wsX5_isBlocked) := goodIn_app (goodIn_of _ (by decide +kernel)) ggX5_lightOf_X5_isBlocked
theorem dX5_lightOf_0 : decode cX5_lightOf 0 = .ok (.aload_n 0, 1) := by decide +kernel
theorem dX5_lightOf_1 : decode cX5_lightOf 1 = .ok (.iload_n 1, 1) := by decide +kernel
theorem dX5_lightOf_2 : decode cX5_lightOf 2 = .ok (.iload_n 2, 1) := by decide +kernel
theorem dX5_lightOf_3 : decode cX5_lightOf 3 = .ok (.invokevirtual 113, 3) := by decide +kernel
theorem dX5_lightOf_6 : decode cX5_lightOf 6 = .ok (.ifCond .eq 12, 3) := by decide +kernel
theorem dX5_lightOf_9 : decode cX5_lightOf 9 = .ok (.aload_n 0, 1) := by decide +kernel
theorem dX5_lightOf_10 : decode cX5_lightOf 10 = .ok (.iload_n 1, 1) := by decide +kernel
theorem dX5_lightOf_11 : decode cX5_lightOf 11 = .ok (.iload_n 2, 1) := by decide +kernel
theorem dX5_lightOf_12 : decode cX5_lightOf 12 = .ok (.invokevirtual 116, 3) := by decide +kernel
theorem dX5_lightOf_15 : decode cX5_lightOf 15 = .ok (.ifCond .eq 5, 3) := by decide +kernel
theorem dX5_lightOf_18 : decode cX5_lightOf 18 = .ok (.iconst 0, 1) := by decide +kernel
theorem dX5_lightOf_19 : decode cX5_lightOf 19 = .ok (.ireturn, 1) := by decide +kernel
theorem dX5_lightOf_20 : decode cX5_lightOf 20 = .ok (.iload_n 2, 1) := by decide +kernel
theorem dX5_lightOf_21 : decode cX5_lightOf 21 = .ok (.aload_n 0, 1) := by decide +kernel
theorem dX5_lightOf_22 : decode cX5_lightOf 22 = .ok (.getfield 30, 3) := by decide +kernel
theorem dX5_lightOf_25 : decode cX5_lightOf 25 = .ok (.iload_n 1, 1) := by decide +kernel
theorem dX5_lightOf_26 : decode cX5_lightOf 26 = .ok (.iaload, 1) := by decide +kernel
theorem dX5_lightOf_27 : decode cX5_lightOf 27 = .ok (.isub, 1) := by decide +kernel
theorem dX5_lightOf_28 : decode cX5_lightOf 28 = .ok (.istore_n 3, 1) := by decide +kernel
theorem dX5_lightOf_29 : decode cX5_lightOf 29 = .ok (.aload_n 0, 1) := by decide +kernel
theorem dX5_lightOf_30 : decode cX5_lightOf 30 = .ok (.getfield 33, 3) := by decide +kernel
theorem dX5_lightOf_33 : decode cX5_lightOf 33 = .ok (.iload_n 1, 1) := by decide +kernel
theorem dX5_lightOf_34 : decode cX5_lightOf 34 = .ok (.iaload, 1) := by decide +kernel
theorem dX5_lightOf_35 : decode cX5_lightOf 35 = .ok (.aload_n 0, 1) := by decide +kernel
theorem dX5_lightOf_36 : decode cX5_lightOf 36 = .ok (.getfield 7, 3) := by decide +kernel
theorem dX5_lightOf_39 : decode cX5_lightOf 39 = .ok (.iload_n 2, 1) := by decide +kernel
theorem dX5_lightOf_40 : decode cX5_lightOf 40 = .ok (.iaload, 1) := by decide +kernel
theorem dX5_lightOf_41 : decode cX5_lightOf 41 = .ok (.isub, 1) := by decide +kernel
theorem dX5_lightOf_42 : decode cX5_lightOf 42 = .ok (.istore 4, 2) := by decide +kernel
theorem dX5_lightOf_44 : decode cX5_lightOf 44 = .ok (.bipush 100, 2) := by decide +kernel
theorem dX5_lightOf_46 : decode cX5_lightOf 46 = .ok (.aload_n 0, 1) := by decide +kernel
theorem dX5_lightOf_47 : decode cX5_lightOf 47 = .ok (.getfield 36, 3) := by decide +kernel
theorem dX5_lightOf_50 : decode cX5_lightOf 50 = .ok (.iload_n 1, 1) := by decide +kernel
theorem dX5_lightOf_51 : decode cX5_lightOf 51 = .ok (.iaload, 1) := by decide +kernel
theorem dX5_lightOf_52 : decode cX5_lightOf 52 = .ok (.imul, 1) := by decide +kernel
theorem dX5_lightOf_53 : decode cX5_lightOf 53 = .ok (.iload_n 3, 1) := by decide +kernel
theorem dX5_lightOf_54 : decode cX5_lightOf 54 = .ok (.iload_n 3, 1) := by decide +kernel
theorem dX5_lightOf_55 : decode cX5_lightOf 55 = .ok (.imul, 1) := by decide +kernel
theorem dX5_lightOf_56 : decode cX5_lightOf 56 = .ok (.iload 4, 2) := by decide +kernel
theorem dX5_lightOf_58 : decode cX5_lightOf 58 = .ok (.iload 4, 2) := by decide +kernel
theorem dX5_lightOf_60 : decode cX5_lightOf 60 = .ok (.imul, 1) := by decide +kernel
theorem dX5_lightOf_61 : decode cX5_lightOf 61 = .ok (.iadd, 1) := by decide +kernel
theorem dX5_lightOf_62 : decode cX5_lightOf 62 = .ok (.idiv, 1) := by decide +kernel
theorem dX5_lightOf_63 : decode cX5_lightOf 63 = .ok (.istore 5, 2) := by decide +kernel
theorem dX5_lightOf_65 : decode cX5_lightOf 65 = .ok (.iload 5, 2) := by decide +kernel
theorem dX5_lightOf_67 : decode cX5_lightOf 67 = .ok (.aload_n 0, 1) := by decide +kernel
theorem dX5_lightOf_68 : decode cX5_lightOf 68 = .ok (.getfield 16, 3) := by decide +kernel
theorem dX5_lightOf_71 : decode cX5_lightOf 71 = .ok (.aload_n 0, 1) := by decide +kernel
theorem dX5_lightOf_72 : decode cX5_lightOf 72 = .ok (.getfield 13, 3) := by decide +kernel
theorem dX5_lightOf_75 : decode cX5_lightOf 75 = .ok (.iload_n 2, 1) := by decide +kernel
theorem dX5_lightOf_76 : decode cX5_lightOf 76 = .ok (.iaload, 1) := by decide +kernel
theorem dX5_lightOf_77 : decode cX5_lightOf 77 = .ok (.iaload, 1) := by decide +kernel
theorem dX5_lightOf_78 : decode cX5_lightOf 78 = .ok (.imul, 1) := by decide +kernel
theorem dX5_lightOf_79 : decode cX5_lightOf 79 = .ok (.bipush 100, 2) := by decide +kernel
theorem dX5_lightOf_81 : decode cX5_lightOf 81 = .ok (.idiv, 1) := by decide +kernel
theorem dX5_lightOf_82 : decode cX5_lightOf 82 = .ok (.ireturn, 1) := by decide +kernel
set_option maxRecDepth 20000 in
theorem ggX5_gives_X5_isProjector : GoodIn wsX5_gives wsX5_isProjector := goodIn_r _ [5, 6, 7, 8, 4, 9, 48, 49, 50, 51, 52, 53, 54, 55, 56, 57, 58, 59, 60, 61, 62, 63, 64, 65, 66, 67, 68, 69, 70, 71, 72, 73, 74, 75, 76, 77] (by decide +kernel) (by decide +kernel)
set_option maxRecDepth 20000 in
theorem gX5_gives_X5_isProjector : GoodIn wsX5_gives (wsV RX5 98 RX5 yX5_isProjector wsX5_isProjector) := goodIn_app (goodIn_of _ (by decide +kernel)) ggX5_gives_X5_isProjector
set_option maxRecDepth 20000 in
theorem ggX5_gives_X5_isColumn : GoodIn wsX5_gives wsX5_isColumn := goodIn_r _ [12, 7, 8, 4, 9] (by decide +kernel) (by decide +kernel)
set_option maxRecDepth 20000 in
theorem gX5_gives_X5_isColumn : GoodIn wsX5_gives (va_wsS RX5 76 yX5_isColumn wsX5_isColumn) := goodIn_app (goodIn_of _ (by decide +kernel)) ggX5_gives_X5_isColumn
set_option maxRecDepth 20000 in
theorem ggX5_gives_X5_goesWell : GoodIn wsX5_gives wsX5_goesWell := goodIn_r _ [16, 17, 48, 49, 50, 51, 52, 53, 54, 55, 56, 57, 58, 59, 60, 61, 62, 63, 64, 65, 66, 67, 68, 69, 70, 71, 72, 73, 74, 75, 76, 77] (by decide +kernel) (by decide +kernel)
set_option maxRecDepth 20000 in
theorem gX5_gives_X5_goesWell : GoodIn wsX5_gives (wsV RX5 83 RX5 yX5_goesWell wsX5_goesWell) := goodIn_app (goodIn_of _ (by decide +kernel)) ggX5_gives_X5_goesWell
set_option maxRecDepth 20000 in
theorem ggX5_gives_X5_lightOf : GoodIn wsX5_gives wsX5_lightOf := goodIn_r _ [21, 22, 23, 24, 25, 26, 27, 28, 29, 30, 4, 31, 32, 33, 34, 7, 8, 9, 35, 36, 37, 38, 39, 40, 41, 42, 43, 44, 45, 46, 47, 48, 49, 50, 51, 52, 53, 54, 55, 56, 57, 58, 59, 60, 61, 62, 63, 64, 65, 66, 67, 68, 69, 70, 71, 72, 73, 74, 75, 76, 77] (by decide +kernel) (by decide +kernel)
set_option maxRecDepth 20000 in
theorem gX5_gives_X5_lightOf : GoodIn wsX5_gives (wsV RX5 119 RX5 yX5_lightOf wsX5_lightOf) := goodIn_app (goodIn_of _ (by decide +kernel)) ggX5_gives_X5_lightOf
theorem dX5_gives_0 : decode cX5_gives 0 = .ok (.aload_n 0, 1) := by decide +kernel
theorem dX5_gives_1 : decode cX5_gives 1 = .ok (.aload_n 0, 1) := by decide +kernel
theorem dX5_gives_2 : decode cX5_gives 2 = .ok (.iload_n 1, 1) := by decide +kernel
theorem dX5_gives_3 : decode cX5_gives 3 = .ok (.invokevirtual 98, 3) := by decide +kernel
theorem dX5_gives_6 : decode cX5_gives 6 = .ok (.ifCond .eq 14, 3) := by decide +kernel
theorem dX5_gives_9 : decode cX5_gives 9 = .ok (.iload_n 2, 1) := by decide +kernel
theorem dX5_gives_10 : decode cX5_gives 10 = .ok (.invokestatic 76, 3) := by decide +kernel
theorem dX5_gives_13 : decode cX5_gives 13 = .ok (.ifCond .eq 7, 3) := by decide +kernel
theorem dX5_gives_16 : decode cX5_gives 16 = .ok (.iconst 0, 1) := by decide +kernel
theorem dX5_gives_17 : decode cX5_gives 17 = .ok (.goto 4, 3) := by decide +kernel
theorem dX5_gives_20 : decode cX5_gives 20 = .ok (.iconst 1, 1) := by decide +kernel
theorem dX5_gives_21 : decode cX5_gives 21 = .ok (.invokevirtual 83, 3) := by decide +kernel
theorem dX5_gives_24 : decode cX5_gives 24 = .ok (.ifCond .eq 12, 3) := by decide +kernel
theorem dX5_gives_27 : decode cX5_gives 27 = .ok (.aload_n 0, 1) := by decide +kernel
theorem dX5_gives_28 : decode cX5_gives 28 = .ok (.iload_n 1, 1) := by decide +kernel
theorem dX5_gives_29 : decode cX5_gives 29 = .ok (.iload_n 2, 1) := by decide +kernel
theorem dX5_gives_30 : decode cX5_gives 30 = .ok (.invokevirtual 119, 3) := by decide +kernel
theorem dX5_gives_33 : decode cX5_gives 33 = .ok (.goto 4, 3) := by decide +kernel
theorem dX5_gives_36 : decode cX5_gives 36 = .ok (.iconst 0, 1) := by decide +kernel
theorem dX5_gives_37 : decode cX5_gives 37 = .ok (.ireturn, 1) := by decide +kernel
set_option maxRecDepth 20000 in
theorem ggX5_isSharpAt_X5_in : GoodIn wsX5_isSharpAt wsX5_in := goodIn_r _ [7] (by decide +kernel) (by decide +kernel)
set_option maxRecDepth 20000 in
theorem gX5_isSharpAt_X5_in : GoodIn wsX5_isSharpAt (va_wsS RX5 72 yX5_in wsX5_in) := goodIn_app (goodIn_of _ (by decide +kernel)) ggX5_isSharpAt_X5_in
theorem dX5_isSharpAt_0 : decode cX5_isSharpAt 0 = .ok (.aload_n 0, 1) := by decide +kernel
theorem dX5_isSharpAt_1 : decode cX5_isSharpAt 1 = .ok (.getfield 33, 3) := by decide +kernel
theorem dX5_isSharpAt_4 : decode cX5_isSharpAt 4 = .ok (.iload_n 1, 1) := by decide +kernel
theorem dX5_isSharpAt_5 : decode cX5_isSharpAt 5 = .ok (.iaload, 1) := by decide +kernel
theorem dX5_isSharpAt_6 : decode cX5_isSharpAt 6 = .ok (.aload_n 0, 1) := by decide +kernel
theorem dX5_isSharpAt_7 : decode cX5_isSharpAt 7 = .ok (.getfield 7, 3) := by decide +kernel
theorem dX5_isSharpAt_10 : decode cX5_isSharpAt 10 = .ok (.iload_n 2, 1) := by decide +kernel
theorem dX5_isSharpAt_11 : decode cX5_isSharpAt 11 = .ok (.iaload, 1) := by decide +kernel
theorem dX5_isSharpAt_12 : decode cX5_isSharpAt 12 = .ok (.isub, 1) := by decide +kernel
theorem dX5_isSharpAt_13 : decode cX5_isSharpAt 13 = .ok (.aload_n 0, 1) := by decide +kernel
theorem dX5_isSharpAt_14 : decode cX5_isSharpAt 14 = .ok (.getfield 42, 3) := by decide +kernel
theorem dX5_isSharpAt_17 : decode cX5_isSharpAt 17 = .ok (.iload_n 1, 1) := by decide +kernel
theorem dX5_isSharpAt_18 : decode cX5_isSharpAt 18 = .ok (.iaload, 1) := by decide +kernel
theorem dX5_isSharpAt_19 : decode cX5_isSharpAt 19 = .ok (.isub, 1) := by decide +kernel
theorem dX5_isSharpAt_20 : decode cX5_isSharpAt 20 = .ok (.iconst (-1), 1) := by decide +kernel
theorem dX5_isSharpAt_21 : decode cX5_isSharpAt 21 = .ok (.iconst 1, 1) := by decide +kernel
theorem dX5_isSharpAt_22 : decode cX5_isSharpAt 22 = .ok (.invokestatic 72, 3) := by decide +kernel
theorem dX5_isSharpAt_25 : decode cX5_isSharpAt 25 = .ok (.ireturn, 1) := by decide +kernel
set_option maxRecDepth 20000 in
theorem ggX5_isSharp_X5_isProjector : GoodIn wsX5_isSharp wsX5_isProjector := goodIn_r _ [5, 6, 7, 8, 4, 9, 25, 26, 27, 28, 29, 30, 31, 32, 33, 34, 35, 36, 37, 38, 39, 40, 41, 42, 43, 44, 45, 46, 47, 48, 49, 50, 51, 52, 53, 54] (by decide +kernel) (by decide +kernel)
set_option maxRecDepth 20000 in
theorem gX5_isSharp_X5_isProjector : GoodIn wsX5_isSharp (wsV RX5 98 RX5 yX5_isProjector wsX5_isProjector) := goodIn_app (goodIn_of _ (by decide +kernel)) ggX5_isSharp_X5_isProjector
set_option maxRecDepth 20000 in
theorem ggX5_isSharp_X5_isColumn : GoodIn wsX5_isSharp wsX5_isColumn := goodIn_r _ [12, 7, 8, 4, 9] (by decide +kernel) (by decide +kernel)
set_option maxRecDepth 20000 in
theorem gX5_isSharp_X5_isColumn : GoodIn wsX5_isSharp (va_wsS RX5 76 yX5_isColumn wsX5_isColumn) := goodIn_app (goodIn_of _ (by decide +kernel)) ggX5_isSharp_X5_isColumn
set_option maxRecDepth 20000 in
theorem ggX5_isSharp_X5_goesWell : GoodIn wsX5_isSharp wsX5_goesWell := goodIn_r _ [16, 17, 25, 26, 27, 28, 29, 30, 31, 32, 33, 34, 35, 36, 37, 38, 39, 40, 41, 42, 43, 44, 45, 46, 47, 48, 49, 50, 51, 52, 53, 54] (by decide +kernel) (by decide +kernel)
set_option maxRecDepth 20000 in
theorem gX5_isSharp_X5_goesWell : GoodIn wsX5_isSharp (wsV RX5 83 RX5 yX5_goesWell wsX5_goesWell) := goodIn_app (goodIn_of _ (by decide +kernel)) ggX5_isSharp_X5_goesWell
set_option maxRecDepth 20000 in
theorem ggX5_isSharp_X5_isSharpAt : GoodIn wsX5_isSharp wsX5_isSharpAt := goodIn_r _ [21, 22, 23, 24, 7, 8, 4, 9, 25, 26, 27, 28, 29, 30, 31, 32, 33, 34, 35, 36, 37, 38, 39, 40, 41, 42, 43, 44, 45, 46, 47, 48, 49, 50, 51, 52, 53, 54] (by decide +kernel) (by decide +kernel)
set_option maxRecDepth 20000 in
theorem gX5_isSharp_X5_isSharpAt : GoodIn wsX5_isSharp (wsV RX5 122 RX5 yX5_isSharpAt wsX5_isSharpAt) := goodIn_app (goodIn_of _ (by decide +kernel)) ggX5_isSharp_X5_isSharpAt
theorem dX5_isSharp_0 : decode cX5_isSharp 0 = .ok (.aload_n 0, 1) := by decide +kernel
theorem dX5_isSharp_1 : decode cX5_isSharp 1 = .ok (.aload_n 0, 1) := by decide +kernel
theorem dX5_isSharp_2 : decode cX5_isSharp 2 = .ok (.iload_n 1, 1) := by decide +kernel
theorem dX5_isSharp_3 : decode cX5_isSharp 3 = .ok (.invokevirtual 98, 3) := by decide +kernel
theorem dX5_isSharp_6 : decode cX5_isSharp 6 = .ok (.ifCond .eq 14, 3) := by decide +kernel
theorem dX5_isSharp_9 : decode cX5_isSharp 9 = .ok (.iload_n 2, 1) := by decide +kernel
theorem dX5_isSharp_10 : decode cX5_isSharp 10 = .ok (.invokestatic 76, 3) := by decide +kernel
theorem dX5_isSharp_13 : decode cX5_isSharp 13 = .ok (.ifCond .eq 7, 3) := by decide +kernel
theorem dX5_isSharp_16 : decode cX5_isSharp 16 = .ok (.iconst 0, 1) := by decide +kernel
theorem dX5_isSharp_17 : decode cX5_isSharp 17 = .ok (.goto 4, 3) := by decide +kernel
theorem dX5_isSharp_20 : decode cX5_isSharp 20 = .ok (.iconst 1, 1) := by decide +kernel
theorem dX5_isSharp_21 : decode cX5_isSharp 21 = .ok (.invokevirtual 83, 3) := by decide +kernel
theorem dX5_isSharp_24 : decode cX5_isSharp 24 = .ok (.ifCond .eq 16, 3) := by decide +kernel
theorem dX5_isSharp_27 : decode cX5_isSharp 27 = .ok (.aload_n 0, 1) := by decide +kernel
theorem dX5_isSharp_28 : decode cX5_isSharp 28 = .ok (.iload_n 1, 1) := by decide +kernel
theorem dX5_isSharp_29 : decode cX5_isSharp 29 = .ok (.iload_n 2, 1) := by decide +kernel
theorem dX5_isSharp_30 : decode cX5_isSharp 30 = .ok (.invokevirtual 122, 3) := by decide +kernel
theorem dX5_isSharp_33 : decode cX5_isSharp 33 = .ok (.ifCond .eq 7, 3) := by decide +kernel
theorem dX5_isSharp_36 : decode cX5_isSharp 36 = .ok (.iconst 1, 1) := by decide +kernel
theorem dX5_isSharp_37 : decode cX5_isSharp 37 = .ok (.goto 4, 3) := by decide +kernel
theorem dX5_isSharp_40 : decode cX5_isSharp 40 = .ok (.iconst 0, 1) := by decide +kernel
theorem dX5_isSharp_41 : decode cX5_isSharp 41 = .ok (.ireturn, 1) := by decide +kernel
theorem dX5_shines_0 : decode cX5_shines 0 = .ok (.aload_n 0, 1) := by decide +kernel
theorem dX5_shines_1 : decode cX5_shines 1 = .ok (.getfield 51, 3) := by decide +kernel
theorem dX5_shines_4 : decode cX5_shines 4 = .ok (.iload_n 1, 1) := by decide +kernel
theorem dX5_shines_5 : decode cX5_shines 5 = .ok (.baload, 1) := by decide +kernel
theorem dX5_shines_6 : decode cX5_shines 6 = .ok (.ifCond .eq 16, 3) := by decide +kernel
theorem dX5_shines_9 : decode cX5_shines 9 = .ok (.aload_n 0, 1) := by decide +kernel
theorem dX5_shines_10 : decode cX5_shines 10 = .ok (.getfield 54, 3) := by decide +kernel
theorem dX5_shines_13 : decode cX5_shines 13 = .ok (.iload_n 1, 1) := by decide +kernel
theorem dX5_shines_14 : decode cX5_shines 14 = .ok (.baload, 1) := by decide +kernel
theorem dX5_shines_15 : decode cX5_shines 15 = .ok (.ifCond .ne 7, 3) := by decide +kernel
theorem dX5_shines_18 : decode cX5_shines 18 = .ok (.iconst 1, 1) := by decide +kernel
theorem dX5_shines_19 : decode cX5_shines 19 = .ok (.goto 4, 3) := by decide +kernel
theorem dX5_shines_22 : decode cX5_shines 22 = .ok (.iconst 0, 1) := by decide +kernel
theorem dX5_shines_23 : decode cX5_shines 23 = .ok (.ireturn, 1) := by decide +kernel
