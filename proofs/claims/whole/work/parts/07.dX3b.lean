theorem dX3_put_137 : decode cX3_put 137 = .ok (.getfield 62, 3) := by decide +kernel
theorem dX3_put_140 : decode cX3_put 140 = .ok (.lload_n 3, 1) := by decide +kernel
theorem dX3_put_141 : decode cX3_put 141 = .ok (.lastore, 1) := by decide +kernel
theorem dX3_put_142 : decode cX3_put 142 = .ok (.aload_n 0, 1) := by decide +kernel
theorem dX3_put_143 : decode cX3_put 143 = .ok (.getfield 32, 3) := by decide +kernel
theorem dX3_put_146 : decode cX3_put 146 = .ok (.aload_n 0, 1) := by decide +kernel
theorem dX3_put_147 : decode cX3_put 147 = .ok (.getfield 62, 3) := by decide +kernel
theorem dX3_put_150 : decode cX3_put 150 = .ok (.iconst 0, 1) := by decide +kernel
theorem dX3_put_151 : decode cX3_put 151 = .ok (.iastore, 1) := by decide +kernel
theorem dX3_put_152 : decode cX3_put 152 = .ok (.aload_n 0, 1) := by decide +kernel
theorem dX3_put_153 : decode cX3_put 153 = .ok (.dup, 1) := by decide +kernel
theorem dX3_put_154 : decode cX3_put 154 = .ok (.getfield 62, 3) := by decide +kernel
theorem dX3_put_157 : decode cX3_put 157 = .ok (.iconst 1, 1) := by decide +kernel
theorem dX3_put_158 : decode cX3_put 158 = .ok (.iadd, 1) := by decide +kernel
theorem dX3_put_159 : decode cX3_put 159 = .ok (.putfield 62, 3) := by decide +kernel
theorem dX3_put_162 : decode cX3_put 162 = .ok (.aload_n 0, 1) := by decide +kernel
theorem dX3_put_163 : decode cX3_put 163 = .ok (.getfield 62, 3) := by decide +kernel
theorem dX3_put_166 : decode cX3_put 166 = .ok (.i2l, 1) := by decide +kernel
theorem dX3_put_167 : decode cX3_put 167 = .ok (.lstore 7, 2) := by decide +kernel
theorem dX3_put_169 : decode cX3_put 169 = .ok (.aload_n 0, 1) := by decide +kernel
theorem dX3_put_170 : decode cX3_put 170 = .ok (.getfield 22, 3) := by decide +kernel
theorem dX3_put_173 : decode cX3_put 173 = .ok (.bipush 80, 2) := by decide +kernel
theorem dX3_put_175 : decode cX3_put 175 = .ok (.aload_n 0, 1) := by decide +kernel
theorem dX3_put_176 : decode cX3_put 176 = .ok (.getfield 7, 3) := by decide +kernel
theorem dX3_put_179 : decode cX3_put 179 = .ok (.iload_n 1, 1) := by decide +kernel
theorem dX3_put_180 : decode cX3_put 180 = .ok (.iaload, 1) := by decide +kernel
theorem dX3_put_181 : decode cX3_put 181 = .ok (.iconst 1, 1) := by decide +kernel
theorem dX3_put_182 : decode cX3_put 182 = .ok (.isub, 1) := by decide +kernel
theorem dX3_put_183 : decode cX3_put 183 = .ok (.imul, 1) := by decide +kernel
theorem dX3_put_184 : decode cX3_put 184 = .ok (.iload_n 2, 1) := by decide +kernel
theorem dX3_put_185 : decode cX3_put 185 = .ok (.iadd, 1) := by decide +kernel
theorem dX3_put_186 : decode cX3_put 186 = .ok (.lload 7, 2) := by decide +kernel
theorem dX3_put_188 : decode cX3_put 188 = .ok (.lastore, 1) := by decide +kernel
theorem dX3_put_189 : decode cX3_put 189 = .ok (.iconst 1, 1) := by decide +kernel
theorem dX3_put_190 : decode cX3_put 190 = .ok (.ireturn, 1) := by decide +kernel
theorem dX3_fails_0 : decode cX3_fails 0 = .ok (.aload_n 0, 1) := by decide +kernel
theorem dX3_fails_1 : decode cX3_fails 1 = .ok (.getfield 35, 3) := by decide +kernel
theorem dX3_fails_4 : decode cX3_fails 4 = .ok (.iload_n 1, 1) := by decide +kernel
theorem dX3_fails_5 : decode cX3_fails 5 = .ok (.dup2, 1) := by decide +kernel
theorem dX3_fails_6 : decode cX3_fails 6 = .ok (.iaload, 1) := by decide +kernel
theorem dX3_fails_7 : decode cX3_fails 7 = .ok (.iconst 1, 1) := by decide +kernel
theorem dX3_fails_8 : decode cX3_fails 8 = .ok (.iadd, 1) := by decide +kernel
theorem dX3_fails_9 : decode cX3_fails 9 = .ok (.iastore, 1) := by decide +kernel
theorem dX3_fails_10 : decode cX3_fails 10 = .ok (.aload_n 0, 1) := by decide +kernel
theorem dX3_fails_11 : decode cX3_fails 11 = .ok (.iconst 0, 1) := by decide +kernel
theorem dX3_fails_12 : decode cX3_fails 12 = .ok (.putfield 69, 3) := by decide +kernel
theorem dX3_fails_15 : decode cX3_fails 15 = .ok (.iload_n 1, 1) := by decide +kernel
theorem dX3_fails_16 : decode cX3_fails 16 = .ok (.ineg, 1) := by decide +kernel
theorem dX3_fails_17 : decode cX3_fails 17 = .ok (.ireturn, 1) := by decide +kernel
theorem dX3_cover_0 : decode cX3_cover 0 = .ok (.aload_n 0, 1) := by decide +kernel
theorem dX3_cover_1 : decode cX3_cover 1 = .ok (.iload_n 1, 1) := by decide +kernel
theorem dX3_cover_2 : decode cX3_cover 2 = .ok (.putfield 38, 3) := by decide +kernel
theorem dX3_cover_5 : decode cX3_cover 5 = .ok (.iconst 0, 1) := by decide +kernel
theorem dX3_cover_6 : decode cX3_cover 6 = .ok (.istore_n 2, 1) := by decide +kernel
theorem dX3_cover_7 : decode cX3_cover 7 = .ok (.iload_n 2, 1) := by decide +kernel
theorem dX3_cover_8 : decode cX3_cover 8 = .ok (.aload_n 0, 1) := by decide +kernel
theorem dX3_cover_9 : decode cX3_cover 9 = .ok (.getfield 19, 3) := by decide +kernel
theorem dX3_cover_12 : decode cX3_cover 12 = .ok (.iload_n 1, 1) := by decide +kernel
theorem dX3_cover_13 : decode cX3_cover 13 = .ok (.iaload, 1) := by decide +kernel
theorem dX3_cover_14 : decode cX3_cover 14 = .ok (.if_icmp .ge 26, 3) := by decide +kernel
theorem dX3_cover_17 : decode cX3_cover 17 = .ok (.aload_n 0, 1) := by decide +kernel
theorem dX3_cover_18 : decode cX3_cover 18 = .ok (.getfield 26, 3) := by decide +kernel
theorem dX3_cover_21 : decode cX3_cover 21 = .ok (.iload_n 2, 1) := by decide +kernel
theorem dX3_cover_22 : decode cX3_cover 22 = .ok (.aload_n 0, 1) := by decide +kernel
theorem dX3_cover_23 : decode cX3_cover 23 = .ok (.getfield 22, 3) := by decide +kernel
theorem dX3_cover_26 : decode cX3_cover 26 = .ok (.bipush 80, 2) := by decide +kernel
theorem dX3_cover_28 : decode cX3_cover 28 = .ok (.iload_n 1, 1) := by decide +kernel
theorem dX3_cover_29 : decode cX3_cover 29 = .ok (.imul, 1) := by decide +kernel
theorem dX3_cover_30 : decode cX3_cover 30 = .ok (.iload_n 2, 1) := by decide +kernel
theorem dX3_cover_31 : decode cX3_cover 31 = .ok (.iadd, 1) := by decide +kernel
theorem dX3_cover_32 : decode cX3_cover 32 = .ok (.laload, 1) := by decide +kernel
theorem dX3_cover_33 : decode cX3_cover 33 = .ok (.lastore, 1) := by decide +kernel
theorem dX3_cover_34 : decode cX3_cover 34 = .ok (.iinc 2 1, 3) := by decide +kernel
theorem dX3_cover_37 : decode cX3_cover 37 = .ok (.goto (-30), 3) := by decide +kernel
theorem dX3_cover_40 : decode cX3_cover 40 = .ok (.return_, 1) := by decide +kernel
theorem dX3_isBeyond_0 : decode cX3_isBeyond 0 = .ok (.iload_n 0, 1) := by decide +kernel
theorem dX3_isBeyond_1 : decode cX3_isBeyond 1 = .ok (.ifCond .lt 18, 3) := by decide +kernel
theorem dX3_isBeyond_4 : decode cX3_isBeyond 4 = .ok (.iload_n 1, 1) := by decide +kernel
theorem dX3_isBeyond_5 : decode cX3_isBeyond 5 = .ok (.ifCond .lt 14, 3) := by decide +kernel
theorem dX3_isBeyond_8 : decode cX3_isBeyond 8 = .ok (.iload_n 0, 1) := by decide +kernel
theorem dX3_isBeyond_9 : decode cX3_isBeyond 9 = .ok (.i2l, 1) := by decide +kernel
theorem dX3_isBeyond_10 : decode cX3_isBeyond 10 = .ok (.iload_n 1, 1) := by decide +kernel
theorem dX3_isBeyond_11 : decode cX3_isBeyond 11 = .ok (.i2l, 1) := by decide +kernel
theorem dX3_isBeyond_12 : decode cX3_isBeyond 12 = .ok (.ladd, 1) := by decide +kernel
theorem dX3_isBeyond_13 : decode cX3_isBeyond 13 = .ok (.iload_n 2, 1) := by decide +kernel
theorem dX3_isBeyond_14 : decode cX3_isBeyond 14 = .ok (.i2l, 1) := by decide +kernel
theorem dX3_isBeyond_15 : decode cX3_isBeyond 15 = .ok (.lcmp, 1) := by decide +kernel
theorem dX3_isBeyond_16 : decode cX3_isBeyond 16 = .ok (.ifCond .le 7, 3) := by decide +kernel
theorem dX3_isBeyond_19 : decode cX3_isBeyond 19 = .ok (.iconst 1, 1) := by decide +kernel
theorem dX3_isBeyond_20 : decode cX3_isBeyond 20 = .ok (.goto 4, 3) := by decide +kernel
theorem dX3_isBeyond_23 : decode cX3_isBeyond 23 = .ok (.iconst 0, 1) := by decide +kernel
theorem dX3_isBeyond_24 : decode cX3_isBeyond 24 = .ok (.ireturn, 1) := by decide +kernel
set_option maxRecDepth 20000 in
theorem ggX3_move_X3_isSpindle : GoodIn wsX3_move wsX3_isSpindle := goodIn_r _ [8] (by decide +kernel) (by decide +kernel)
set_option maxRecDepth 20000 in
theorem gX3_move_X3_isSpindle : GoodIn wsX3_move (va_wsS RX3 53 yX3_isSpindle wsX3_isSpindle) := goodIn_app (goodIn_of _ (by decide +kernel)) ggX3_move_X3_isSpindle
set_option maxRecDepth 20000 in
theorem ggX3_move_X3_kindOf : GoodIn wsX3_move wsX3_kindOf := goodIn_r _ [12, 1, 13, 46, 47, 48, 49, 50, 51, 52, 53, 54, 55, 56, 57, 58, 59] (by decide +kernel) (by decide +kernel)
set_option maxRecDepth 20000 in
theorem gX3_move_X3_kindOf : GoodIn wsX3_move (wsV RX3 46 RX3 yX3_kindOf wsX3_kindOf) := goodIn_app (goodIn_of _ (by decide +kernel)) ggX3_move_X3_kindOf
set_option maxRecDepth 20000 in
theorem ggX3_move_X3_fails : GoodIn wsX3_move wsX3_fails := goodIn_r _ [17, 18, 3, 46, 47, 48, 49, 50, 51, 52, 53, 54, 55, 56, 57, 58, 59] (by decide +kernel) (by decide +kernel)
set_option maxRecDepth 20000 in
theorem gX3_move_X3_fails : GoodIn wsX3_move (wsV RX3 72 RX3 yX3_fails wsX3_fails) := goodIn_app (goodIn_of _ (by decide +kernel)) ggX3_move_X3_fails
set_option maxRecDepth 20000 in
theorem ggX3_move_X3_sizeOf : GoodIn wsX3_move wsX3_sizeOf := goodIn_r _ [22, 23, 1, 24, 25, 26, 7, 27, 46, 47, 48, 49, 50, 51, 52, 53, 54, 55, 56, 57, 58, 59] (by decide +kernel) (by decide +kernel)
set_option maxRecDepth 20000 in
theorem gX3_move_X3_sizeOf : GoodIn wsX3_move (wsV RX3 50 RX3 yX3_sizeOf wsX3_sizeOf) := goodIn_app (goodIn_of _ (by decide +kernel)) ggX3_move_X3_sizeOf
set_option maxRecDepth 20000 in
theorem ggX3_move_X3_isBeyond : GoodIn wsX3_move wsX3_isBeyond := goodIn_r _ [30] (by decide +kernel) (by decide +kernel)
set_option maxRecDepth 20000 in
theorem gX3_move_X3_isBeyond : GoodIn wsX3_move (va_wsS RX3 75 yX3_isBeyond wsX3_isBeyond) := goodIn_app (goodIn_of _ (by decide +kernel)) ggX3_move_X3_isBeyond
set_option maxRecDepth 20000 in
theorem ggX3_move_X3_place : GoodIn wsX3_move wsX3_place := goodIn_r _ [34, 2, 1, 46, 47, 48, 49, 50, 51, 52, 53, 54, 55, 56, 57, 58, 59] (by decide +kernel) (by decide +kernel)
set_option maxRecDepth 20000 in
theorem gX3_move_X3_place : GoodIn wsX3_move (wsV RX3 79 RX3 yX3_place wsX3_place) := goodIn_app (goodIn_of _ (by decide +kernel)) ggX3_move_X3_place
set_option maxRecDepth 20000 in
theorem ggX3_move_X3_isPlain : GoodIn wsX3_move wsX3_isPlain := goodIn_r _ [38, 39, 46, 47, 48, 49, 50, 51, 52, 53, 54, 55, 56, 57, 58, 59] (by decide +kernel) (by decide +kernel)
set_option maxRecDepth 20000 in
theorem gX3_move_X3_isPlain : GoodIn wsX3_move (wsV RX3 83 RX3 yX3_isPlain wsX3_isPlain) := goodIn_app (goodIn_of _ (by decide +kernel)) ggX3_move_X3_isPlain
set_option maxRecDepth 20000 in
theorem ggX3_move_X3_cover : GoodIn wsX3_move wsX3_cover := goodIn_r _ [43, 44, 23, 45, 2, 46, 47, 48, 49, 50, 51, 52, 53, 54, 55, 56, 57, 58, 59] (by decide +kernel) (by decide +kernel)
set_option maxRecDepth 20000 in
theorem gX3_move_X3_cover : GoodIn wsX3_move (wsV RX3 87 RX3 yX3_cover wsX3_cover) := goodIn_app (goodIn_of _ (by decide +kernel)) ggX3_move_X3_cover
theorem dX3_move_0 : decode cX3_move 0 = .ok (.iload_n 1, 1) := by decide +kernel
theorem dX3_move_1 : decode cX3_move 1 = .ok (.invokestatic 53, 3) := by decide +kernel
theorem dX3_move_4 : decode cX3_move 4 = .ok (.ifCond .eq 10, 3) := by decide +kernel
theorem dX3_move_7 : decode cX3_move 7 = .ok (.iload_n 3, 1) := by decide +kernel
theorem dX3_move_8 : decode cX3_move 8 = .ok (.invokestatic 53, 3) := by decide +kernel
theorem dX3_move_11 : decode cX3_move 11 = .ok (.ifCond .ne 6, 3) := by decide +kernel
theorem dX3_move_14 : decode cX3_move 14 = .ok (.bipush (-9), 2) := by decide +kernel
theorem dX3_move_16 : decode cX3_move 16 = .ok (.ireturn, 1) := by decide +kernel
theorem dX3_move_17 : decode cX3_move 17 = .ok (.aload_n 0, 1) := by decide +kernel
theorem dX3_move_18 : decode cX3_move 18 = .ok (.iload_n 1, 1) := by decide +kernel
theorem dX3_move_19 : decode cX3_move 19 = .ok (.invokevirtual 46, 3) := by decide +kernel
theorem dX3_move_22 : decode cX3_move 22 = .ok (.istore 6, 2) := by decide +kernel
theorem dX3_move_24 : decode cX3_move 24 = .ok (.aload_n 0, 1) := by decide +kernel
theorem dX3_move_25 : decode cX3_move 25 = .ok (.iload_n 3, 1) := by decide +kernel
theorem dX3_move_26 : decode cX3_move 26 = .ok (.invokevirtual 46, 3) := by decide +kernel
theorem dX3_move_29 : decode cX3_move 29 = .ok (.istore 7, 2) := by decide +kernel
theorem dX3_move_31 : decode cX3_move 31 = .ok (.iload 6, 2) := by decide +kernel
theorem dX3_move_33 : decode cX3_move 33 = .ok (.ifCond .eq 8, 3) := by decide +kernel
theorem dX3_move_36 : decode cX3_move 36 = .ok (.iload 7, 2) := by decide +kernel
theorem dX3_move_38 : decode cX3_move 38 = .ok (.ifCond .ne 9, 3) := by decide +kernel
theorem dX3_move_41 : decode cX3_move 41 = .ok (.aload_n 0, 1) := by decide +kernel
theorem dX3_move_42 : decode cX3_move 42 = .ok (.iconst 1, 1) := by decide +kernel
theorem dX3_move_43 : decode cX3_move 43 = .ok (.invokevirtual 72, 3) := by decide +kernel
theorem dX3_move_46 : decode cX3_move 46 = .ok (.ireturn, 1) := by decide +kernel
theorem dX3_move_47 : decode cX3_move 47 = .ok (.iload 6, 2) := by decide +kernel
theorem dX3_move_49 : decode cX3_move 49 = .ok (.iconst 1, 1) := by decide +kernel
theorem dX3_move_50 : decode cX3_move 50 = .ok (.if_icmp .eq 28, 3) := by decide +kernel
theorem dX3_move_53 : decode cX3_move 53 = .ok (.iload 7, 2) := by decide +kernel
theorem dX3_move_55 : decode cX3_move 55 = .ok (.iconst 1, 1) := by decide +kernel
theorem dX3_move_56 : decode cX3_move 56 = .ok (.if_icmp .eq 22, 3) := by decide +kernel
theorem dX3_move_59 : decode cX3_move 59 = .ok (.iload 6, 2) := by decide +kernel
theorem dX3_move_61 : decode cX3_move 61 = .ok (.iload 7, 2) := by decide +kernel
theorem dX3_move_63 : decode cX3_move 63 = .ok (.if_icmp .eq 21, 3) := by decide +kernel
theorem dX3_move_66 : decode cX3_move 66 = .ok (.iload 6, 2) := by decide +kernel
theorem dX3_move_68 : decode cX3_move 68 = .ok (.iconst 4, 1) := by decide +kernel
theorem dX3_move_69 : decode cX3_move 69 = .ok (.if_icmp .lt 9, 3) := by decide +kernel
theorem dX3_move_72 : decode cX3_move 72 = .ok (.iload 7, 2) := by decide +kernel
theorem dX3_move_74 : decode cX3_move 74 = .ok (.iconst 4, 1) := by decide +kernel
theorem dX3_move_75 : decode cX3_move 75 = .ok (.if_icmp .ge 9, 3) := by decide +kernel
theorem dX3_move_78 : decode cX3_move 78 = .ok (.aload_n 0, 1) := by decide +kernel
theorem dX3_move_79 : decode cX3_move 79 = .ok (.iconst 2, 1) := by decide +kernel
theorem dX3_move_80 : decode cX3_move 80 = .ok (.invokevirtual 72, 3) := by decide +kernel
theorem dX3_move_83 : decode cX3_move 83 = .ok (.ireturn, 1) := by decide +kernel
theorem dX3_move_84 : decode cX3_move 84 = .ok (.iload_n 2, 1) := by decide +kernel
theorem dX3_move_85 : decode cX3_move 85 = .ok (.iload 5, 2) := by decide +kernel
theorem dX3_move_87 : decode cX3_move 87 = .ok (.aload_n 0, 1) := by decide +kernel
theorem dX3_move_88 : decode cX3_move 88 = .ok (.iload_n 1, 1) := by decide +kernel
theorem dX3_move_89 : decode cX3_move 89 = .ok (.invokevirtual 50, 3) := by decide +kernel
theorem dX3_move_92 : decode cX3_move 92 = .ok (.invokestatic 75, 3) := by decide +kernel
theorem dX3_move_95 : decode cX3_move 95 = .ok (.ifCond .ne 18, 3) := by decide +kernel
theorem dX3_move_98 : decode cX3_move 98 = .ok (.iload 4, 2) := by decide +kernel
theorem dX3_move_100 : decode cX3_move 100 = .ok (.iload 5, 2) := by decide +kernel
theorem dX3_move_102 : decode cX3_move 102 = .ok (.aload_n 0, 1) := by decide +kernel
theorem dX3_move_103 : decode cX3_move 103 = .ok (.iload_n 3, 1) := by decide +kernel
theorem dX3_move_104 : decode cX3_move 104 = .ok (.invokevirtual 50, 3) := by decide +kernel
theorem dX3_move_107 : decode cX3_move 107 = .ok (.invokestatic 75, 3) := by decide +kernel
theorem dX3_move_110 : decode cX3_move 110 = .ok (.ifCond .eq 9, 3) := by decide +kernel
theorem dX3_move_113 : decode cX3_move 113 = .ok (.aload_n 0, 1) := by decide +kernel
theorem dX3_move_114 : decode cX3_move 114 = .ok (.iconst 3, 1) := by decide +kernel
theorem dX3_move_115 : decode cX3_move 115 = .ok (.invokevirtual 72, 3) := by decide +kernel
theorem dX3_move_118 : decode cX3_move 118 = .ok (.ireturn, 1) := by decide +kernel
theorem dX3_move_119 : decode cX3_move 119 = .ok (.iconst 0, 1) := by decide +kernel
theorem dX3_move_120 : decode cX3_move 120 = .ok (.istore 8, 2) := by decide +kernel
theorem dX3_move_122 : decode cX3_move 122 = .ok (.iload 8, 2) := by decide +kernel
theorem dX3_move_124 : decode cX3_move 124 = .ok (.iload 5, 2) := by decide +kernel
theorem dX3_move_126 : decode cX3_move 126 = .ok (.if_icmp .ge 31, 3) := by decide +kernel
theorem dX3_move_129 : decode cX3_move 129 = .ok (.iload 7, 2) := by decide +kernel
theorem dX3_move_131 : decode cX3_move 131 = .ok (.iconst 5, 1) := by decide +kernel
theorem dX3_move_132 : decode cX3_move 132 = .ok (.if_icmp .ne 19, 3) := by decide +kernel
theorem dX3_move_135 : decode cX3_move 135 = .ok (.aload_n 0, 1) := by decide +kernel
theorem dX3_move_136 : decode cX3_move 136 = .ok (.aload_n 0, 1) := by decide +kernel
theorem dX3_move_137 : decode cX3_move 137 = .ok (.iload_n 1, 1) := by decide +kernel
theorem dX3_move_138 : decode cX3_move 138 = .ok (.iload_n 2, 1) := by decide +kernel
theorem dX3_move_139 : decode cX3_move 139 = .ok (.iload 8, 2) := by decide +kernel
theorem dX3_move_141 : decode cX3_move 141 = .ok (.iadd, 1) := by decide +kernel
theorem dX3_move_142 : decode cX3_move 142 = .ok (.invokevirtual 79, 3) := by decide +kernel
theorem dX3_move_145 : decode cX3_move 145 = .ok (.invokevirtual 83, 3) := by decide +kernel
theorem dX3_move_148 : decode cX3_move 148 = .ok (.ifCond .ne 9, 3) := by decide +kernel
theorem dX3_move_151 : decode cX3_move 151 = .ok (.iinc 8 1, 3) := by decide +kernel
theorem dX3_move_154 : decode cX3_move 154 = .ok (.goto (-32), 3) := by decide +kernel
theorem dX3_move_157 : decode cX3_move 157 = .ok (.bipush 80, 2) := by decide +kernel
theorem dX3_move_159 : decode cX3_move 159 = .ok (.aload_n 0, 1) := by decide +kernel
theorem dX3_move_160 : decode cX3_move 160 = .ok (.getfield 7, 3) := by decide +kernel
theorem dX3_move_163 : decode cX3_move 163 = .ok (.iload_n 1, 1) := by decide +kernel
theorem dX3_move_164 : decode cX3_move 164 = .ok (.iaload, 1) := by decide +kernel
theorem dX3_move_165 : decode cX3_move 165 = .ok (.iconst 1, 1) := by decide +kernel
theorem dX3_move_166 : decode cX3_move 166 = .ok (.isub, 1) := by decide +kernel
theorem dX3_move_167 : decode cX3_move 167 = .ok (.imul, 1) := by decide +kernel
theorem dX3_move_168 : decode cX3_move 168 = .ok (.iload_n 2, 1) := by decide +kernel
theorem dX3_move_169 : decode cX3_move 169 = .ok (.iadd, 1) := by decide +kernel
theorem dX3_move_170 : decode cX3_move 170 = .ok (.istore 9, 2) := by decide +kernel
theorem dX3_move_172 : decode cX3_move 172 = .ok (.bipush 80, 2) := by decide +kernel
theorem dX3_move_174 : decode cX3_move 174 = .ok (.aload_n 0, 1) := by decide +kernel
theorem dX3_move_175 : decode cX3_move 175 = .ok (.getfield 7, 3) := by decide +kernel
theorem dX3_move_178 : decode cX3_move 178 = .ok (.iload_n 3, 1) := by decide +kernel
theorem dX3_move_179 : decode cX3_move 179 = .ok (.iaload, 1) := by decide +kernel
theorem dX3_move_180 : decode cX3_move 180 = .ok (.iconst 1, 1) := by decide +kernel
theorem dX3_move_181 : decode cX3_move 181 = .ok (.isub, 1) := by decide +kernel
theorem dX3_move_182 : decode cX3_move 182 = .ok (.imul, 1) := by decide +kernel
theorem dX3_move_183 : decode cX3_move 183 = .ok (.iload 4, 2) := by decide +kernel
theorem dX3_move_185 : decode cX3_move 185 = .ok (.iadd, 1) := by decide +kernel
theorem dX3_move_186 : decode cX3_move 186 = .ok (.istore 10, 2) := by decide +kernel
theorem dX3_move_188 : decode cX3_move 188 = .ok (.iload 8, 2) := by decide +kernel
theorem dX3_move_190 : decode cX3_move 190 = .ok (.ifCond .le 15, 3) := by decide +kernel
theorem dX3_move_193 : decode cX3_move 193 = .ok (.aload_n 0, 1) := by decide +kernel
theorem dX3_move_194 : decode cX3_move 194 = .ok (.aload_n 0, 1) := by decide +kernel
theorem dX3_move_195 : decode cX3_move 195 = .ok (.getfield 7, 3) := by decide +kernel
theorem dX3_move_198 : decode cX3_move 198 = .ok (.iload_n 3, 1) := by decide +kernel
theorem dX3_move_199 : decode cX3_move 199 = .ok (.iaload, 1) := by decide +kernel
theorem dX3_move_200 : decode cX3_move 200 = .ok (.iconst 1, 1) := by decide +kernel
theorem dX3_move_201 : decode cX3_move 201 = .ok (.isub, 1) := by decide +kernel
theorem dX3_move_202 : decode cX3_move 202 = .ok (.invokevirtual 87, 3) := by decide +kernel
theorem dX3_move_205 : decode cX3_move 205 = .ok (.iload 9, 2) := by decide +kernel
theorem dX3_move_207 : decode cX3_move 207 = .ok (.iload 10, 2) := by decide +kernel
theorem dX3_move_209 : decode cX3_move 209 = .ok (.if_icmp .ge 43, 3) := by decide +kernel
theorem dX3_move_212 : decode cX3_move 212 = .ok (.iload 8, 2) := by decide +kernel
theorem dX3_move_214 : decode cX3_move 214 = .ok (.iconst 1, 1) := by decide +kernel
theorem dX3_move_215 : decode cX3_move 215 = .ok (.isub, 1) := by decide +kernel
theorem dX3_move_216 : decode cX3_move 216 = .ok (.istore 11, 2) := by decide +kernel
theorem dX3_move_218 : decode cX3_move 218 = .ok (.iload 11, 2) := by decide +kernel
theorem dX3_move_220 : decode cX3_move 220 = .ok (.ifCond .lt 29, 3) := by decide +kernel
theorem dX3_move_223 : decode cX3_move 223 = .ok (.aload_n 0, 1) := by decide +kernel
theorem dX3_move_224 : decode cX3_move 224 = .ok (.getfield 22, 3) := by decide +kernel
theorem dX3_move_227 : decode cX3_move 227 = .ok (.iload 10, 2) := by decide +kernel
theorem dX3_move_229 : decode cX3_move 229 = .ok (.iload 11, 2) := by decide +kernel
theorem dX3_move_231 : decode cX3_move 231 = .ok (.iadd, 1) := by decide +kernel
theorem dX3_move_232 : decode cX3_move 232 = .ok (.aload_n 0, 1) := by decide +kernel
theorem dX3_move_233 : decode cX3_move 233 = .ok (.getfield 22, 3) := by decide +kernel
theorem dX3_move_236 : decode cX3_move 236 = .ok (.iload 9, 2) := by decide +kernel
theorem dX3_move_238 : decode cX3_move 238 = .ok (.iload 11, 2) := by decide +kernel
theorem dX3_move_240 : decode cX3_move 240 = .ok (.iadd, 1) := by decide +kernel
theorem dX3_move_241 : decode cX3_move 241 = .ok (.laload, 1) := by decide +kernel
theorem dX3_move_242 : decode cX3_move 242 = .ok (.lastore, 1) := by decide +kernel
theorem dX3_move_243 : decode cX3_move 243 = .ok (.iinc 11 (-1), 3) := by decide +kernel
theorem dX3_move_246 : decode cX3_move 246 = .ok (.goto (-28), 3) := by decide +kernel
theorem dX3_move_249 : decode cX3_move 249 = .ok (.goto 39, 3) := by decide +kernel
theorem dX3_move_252 : decode cX3_move 252 = .ok (.iconst 0, 1) := by decide +kernel
theorem dX3_move_253 : decode cX3_move 253 = .ok (.istore 11, 2) := by decide +kernel
theorem dX3_move_255 : decode cX3_move 255 = .ok (.iload 11, 2) := by decide +kernel
theorem dX3_move_257 : decode cX3_move 257 = .ok (.iload 8, 2) := by decide +kernel
theorem dX3_move_259 : decode cX3_move 259 = .ok (.if_icmp .ge 29, 3) := by decide +kernel
theorem dX3_move_262 : decode cX3_move 262 = .ok (.aload_n 0, 1) := by decide +kernel
theorem dX3_move_263 : decode cX3_move 263 = .ok (.getfield 22, 3) := by decide +kernel
theorem dX3_move_266 : decode cX3_move 266 = .ok (.iload 10, 2) := by decide +kernel
theorem dX3_move_268 : decode cX3_move 268 = .ok (.iload 11, 2) := by decide +kernel
theorem dX3_move_270 : decode cX3_move 270 = .ok (.iadd, 1) := by decide +kernel
theorem dX3_move_271 : decode cX3_move 271 = .ok (.aload_n 0, 1) := by decide +kernel
theorem dX3_move_272 : decode cX3_move 272 = .ok (.getfield 22, 3) := by decide +kernel
theorem dX3_move_275 : decode cX3_move 275 = .ok (.iload 9, 2) := by decide +kernel
theorem dX3_move_277 : decode cX3_move 277 = .ok (.iload 11, 2) := by decide +kernel
theorem dX3_move_279 : decode cX3_move 279 = .ok (.iadd, 1) := by decide +kernel
theorem dX3_move_280 : decode cX3_move 280 = .ok (.laload, 1) := by decide +kernel
theorem dX3_move_281 : decode cX3_move 281 = .ok (.lastore, 1) := by decide +kernel
theorem dX3_move_282 : decode cX3_move 282 = .ok (.iinc 11 1, 3) := by decide +kernel
theorem dX3_move_285 : decode cX3_move 285 = .ok (.goto (-30), 3) := by decide +kernel
theorem dX3_move_288 : decode cX3_move 288 = .ok (.iload 8, 2) := by decide +kernel
theorem dX3_move_290 : decode cX3_move 290 = .ok (.iload 5, 2) := by decide +kernel
theorem dX3_move_292 : decode cX3_move 292 = .ok (.if_icmp .ge 19, 3) := by decide +kernel
theorem dX3_move_295 : decode cX3_move 295 = .ok (.aload_n 0, 1) := by decide +kernel
theorem dX3_move_296 : decode cX3_move 296 = .ok (.iconst 4, 1) := by decide +kernel
theorem dX3_move_297 : decode cX3_move 297 = .ok (.invokevirtual 72, 3) := by decide +kernel
theorem dX3_move_300 : decode cX3_move 300 = .ok (.istore 11, 2) := by decide +kernel
theorem dX3_move_302 : decode cX3_move 302 = .ok (.aload_n 0, 1) := by decide +kernel
theorem dX3_move_303 : decode cX3_move 303 = .ok (.iload 8, 2) := by decide +kernel
theorem dX3_move_305 : decode cX3_move 305 = .ok (.putfield 69, 3) := by decide +kernel
theorem dX3_move_308 : decode cX3_move 308 = .ok (.iload 11, 2) := by decide +kernel
theorem dX3_move_310 : decode cX3_move 310 = .ok (.ireturn, 1) := by decide +kernel
theorem dX3_move_311 : decode cX3_move 311 = .ok (.aload_n 0, 1) := by decide +kernel
theorem dX3_move_312 : decode cX3_move 312 = .ok (.iload 5, 2) := by decide +kernel
theorem dX3_move_314 : decode cX3_move 314 = .ok (.putfield 69, 3) := by decide +kernel
theorem dX3_move_317 : decode cX3_move 317 = .ok (.aload_n 0, 1) := by decide +kernel
theorem dX3_move_318 : decode cX3_move 318 = .ok (.dup, 1) := by decide +kernel
theorem dX3_move_319 : decode cX3_move 319 = .ok (.getfield 91, 3) := by decide +kernel
theorem dX3_move_322 : decode cX3_move 322 = .ok (.iconst 1, 1) := by decide +kernel
theorem dX3_move_323 : decode cX3_move 323 = .ok (.iadd, 1) := by decide +kernel
theorem dX3_move_324 : decode cX3_move 324 = .ok (.putfield 91, 3) := by decide +kernel
theorem dX3_move_327 : decode cX3_move 327 = .ok (.iload 5, 2) := by decide +kernel
theorem dX3_move_329 : decode cX3_move 329 = .ok (.ireturn, 1) := by decide +kernel
set_option maxRecDepth 20000 in
theorem ggX3_hinders_X3_hasPlaces : GoodIn wsX3_hinders wsX3_hasPlaces := goodIn_r _ [6, 1, 15, 16, 17, 18, 19, 20, 21, 22, 23, 24, 25, 26, 27, 28] (by decide +kernel) (by decide +kernel)
set_option maxRecDepth 20000 in
theorem gX3_hinders_X3_hasPlaces : GoodIn wsX3_hinders (wsV RX3 42 RX3 yX3_hasPlaces wsX3_hasPlaces) := goodIn_app (goodIn_of _ (by decide +kernel)) ggX3_hinders_X3_hasPlaces
set_option maxRecDepth 20000 in
theorem ggX3_hinders_X3_sizeOf : GoodIn wsX3_hinders wsX3_sizeOf := goodIn_r _ [10, 11, 1, 2, 3, 4, 5, 6, 15, 16, 17, 18, 19, 20, 21, 22, 23, 24, 25, 26, 27, 28] (by decide +kernel) (by decide +kernel)
set_option maxRecDepth 20000 in
theorem gX3_hinders_X3_sizeOf : GoodIn wsX3_hinders (wsV RX3 50 RX3 yX3_sizeOf wsX3_sizeOf) := goodIn_app (goodIn_of _ (by decide +kernel)) ggX3_hinders_X3_sizeOf
set_option maxRecDepth 20000 in
theorem ggX3_hinders_X3_isBeyond : GoodIn wsX3_hinders wsX3_isBeyond := goodIn_r _ [14] (by decide +kernel) (by decide +kernel)
set_option maxRecDepth 20000 in
theorem gX3_hinders_X3_isBeyond : GoodIn wsX3_hinders (va_wsS RX3 75 yX3_isBeyond wsX3_isBeyond) := goodIn_app (goodIn_of _ (by decide +kernel)) ggX3_hinders_X3_isBeyond
theorem dX3_hinders_0 : decode cX3_hinders 0 = .ok (.aload_n 0, 1) := by decide +kernel
theorem dX3_hinders_1 : decode cX3_hinders 1 = .ok (.getfield 7, 3) := by decide +kernel
theorem dX3_hinders_4 : decode cX3_hinders 4 = .ok (.iload_n 1, 1) := by decide +kernel
theorem dX3_hinders_5 : decode cX3_hinders 5 = .ok (.iaload, 1) := by decide +kernel
theorem dX3_hinders_6 : decode cX3_hinders 6 = .ok (.ifCond .ne 5, 3) := by decide +kernel
theorem dX3_hinders_9 : decode cX3_hinders 9 = .ok (.iconst 1, 1) := by decide +kernel
theorem dX3_hinders_10 : decode cX3_hinders 10 = .ok (.ireturn, 1) := by decide +kernel
theorem dX3_hinders_11 : decode cX3_hinders 11 = .ok (.aload_n 0, 1) := by decide +kernel
theorem dX3_hinders_12 : decode cX3_hinders 12 = .ok (.iload_n 1, 1) := by decide +kernel
theorem dX3_hinders_13 : decode cX3_hinders 13 = .ok (.invokevirtual 42, 3) := by decide +kernel
theorem dX3_hinders_16 : decode cX3_hinders 16 = .ok (.ifCond .ne 5, 3) := by decide +kernel
theorem dX3_hinders_19 : decode cX3_hinders 19 = .ok (.iconst 2, 1) := by decide +kernel
theorem dX3_hinders_20 : decode cX3_hinders 20 = .ok (.ireturn, 1) := by decide +kernel
theorem dX3_hinders_21 : decode cX3_hinders 21 = .ok (.iload_n 2, 1) := by decide +kernel
theorem dX3_hinders_22 : decode cX3_hinders 22 = .ok (.iload_n 3, 1) := by decide +kernel
theorem dX3_hinders_23 : decode cX3_hinders 23 = .ok (.aload_n 0, 1) := by decide +kernel
theorem dX3_hinders_24 : decode cX3_hinders 24 = .ok (.iload_n 1, 1) := by decide +kernel
theorem dX3_hinders_25 : decode cX3_hinders 25 = .ok (.invokevirtual 50, 3) := by decide +kernel
theorem dX3_hinders_28 : decode cX3_hinders 28 = .ok (.invokestatic 75, 3) := by decide +kernel
theorem dX3_hinders_31 : decode cX3_hinders 31 = .ok (.ifCond .eq 7, 3) := by decide +kernel
theorem dX3_hinders_34 : decode cX3_hinders 34 = .ok (.iconst 3, 1) := by decide +kernel
theorem dX3_hinders_35 : decode cX3_hinders 35 = .ok (.goto 4, 3) := by decide +kernel
theorem dX3_hinders_38 : decode cX3_hinders 38 = .ok (.iconst 0, 1) := by decide +kernel
theorem dX3_hinders_39 : decode cX3_hinders 39 = .ok (.ireturn, 1) := by decide +kernel
set_option maxRecDepth 20000 in
theorem ggX3_shifts_X3_isSpindle : GoodIn wsX3_shifts wsX3_isSpindle := goodIn_r _ [10] (by decide +kernel) (by decide +kernel)
set_option maxRecDepth 20000 in
theorem gX3_shifts_X3_isSpindle : GoodIn wsX3_shifts (va_wsS RX3 53 yX3_isSpindle wsX3_isSpindle) := goodIn_app (goodIn_of _ (by decide +kernel)) ggX3_shifts_X3_isSpindle
set_option maxRecDepth 20000 in
theorem ggX3_shifts_X3_hinders : GoodIn wsX3_shifts wsX3_hinders := goodIn_r _ [14, 1, 15, 16, 17, 9, 18, 19, 20, 21, 22, 2, 23, 24, 25, 36, 37, 38, 39, 40, 41, 42, 43, 44, 45, 46, 47, 48, 49] (by decide +kernel) (by decide +kernel)
set_option maxRecDepth 20000 in
theorem gX3_shifts_X3_hinders : GoodIn wsX3_shifts (wsV RX3 94 RX3 yX3_hinders wsX3_hinders) := goodIn_app (goodIn_of _ (by decide +kernel)) ggX3_shifts_X3_hinders
set_option maxRecDepth 20000 in
theorem ggX3_shifts_X3_fails : GoodIn wsX3_shifts wsX3_fails := goodIn_r _ [29, 30, 5, 36, 37, 38, 39, 40, 41, 42, 43, 44, 45, 46, 47, 48, 49] (by decide +kernel) (by decide +kernel)
set_option maxRecDepth 20000 in
theorem gX3_shifts_X3_fails : GoodIn wsX3_shifts (wsV RX3 72 RX3 yX3_fails wsX3_fails) := goodIn_app (goodIn_of _ (by decide +kernel)) ggX3_shifts_X3_fails
set_option maxRecDepth 20000 in
theorem ggX3_shifts_X3_cover : GoodIn wsX3_shifts wsX3_cover := goodIn_r _ [34, 35, 2, 4, 3, 36, 37, 38, 39, 40, 41, 42, 43, 44, 45, 46, 47, 48, 49] (by decide +kernel) (by decide +kernel)
set_option maxRecDepth 20000 in
theorem gX3_shifts_X3_cover : GoodIn wsX3_shifts (wsV RX3 87 RX3 yX3_cover wsX3_cover) := goodIn_app (goodIn_of _ (by decide +kernel)) ggX3_shifts_X3_cover
theorem dX3_shifts_0 : decode cX3_shifts 0 = .ok (.iload_n 1, 1) := by decide +kernel
theorem dX3_shifts_1 : decode cX3_shifts 1 = .ok (.invokestatic 53, 3) := by decide +kernel
theorem dX3_shifts_4 : decode cX3_shifts 4 = .ok (.ifCond .ne 6, 3) := by decide +kernel
theorem dX3_shifts_7 : decode cX3_shifts 7 = .ok (.bipush (-9), 2) := by decide +kernel
theorem dX3_shifts_9 : decode cX3_shifts 9 = .ok (.ireturn, 1) := by decide +kernel
theorem dX3_shifts_10 : decode cX3_shifts 10 = .ok (.aload_n 0, 1) := by decide +kernel
theorem dX3_shifts_11 : decode cX3_shifts 11 = .ok (.iload_n 1, 1) := by decide +kernel
theorem dX3_shifts_12 : decode cX3_shifts 12 = .ok (.iload_n 2, 1) := by decide +kernel
theorem dX3_shifts_13 : decode cX3_shifts 13 = .ok (.iload_n 3, 1) := by decide +kernel
theorem dX3_shifts_14 : decode cX3_shifts 14 = .ok (.invokevirtual 94, 3) := by decide +kernel
theorem dX3_shifts_17 : decode cX3_shifts 17 = .ok (.istore 5, 2) := by decide +kernel
theorem dX3_shifts_19 : decode cX3_shifts 19 = .ok (.iload 5, 2) := by decide +kernel
theorem dX3_shifts_21 : decode cX3_shifts 21 = .ok (.ifCond .eq 10, 3) := by decide +kernel
theorem dX3_shifts_24 : decode cX3_shifts 24 = .ok (.aload_n 0, 1) := by decide +kernel
theorem dX3_shifts_25 : decode cX3_shifts 25 = .ok (.iload 5, 2) := by decide +kernel
theorem dX3_shifts_27 : decode cX3_shifts 27 = .ok (.invokevirtual 72, 3) := by decide +kernel
theorem dX3_shifts_30 : decode cX3_shifts 30 = .ok (.ireturn, 1) := by decide +kernel
theorem dX3_shifts_31 : decode cX3_shifts 31 = .ok (.aload_n 0, 1) := by decide +kernel
theorem dX3_shifts_32 : decode cX3_shifts 32 = .ok (.getfield 7, 3) := by decide +kernel
theorem dX3_shifts_35 : decode cX3_shifts 35 = .ok (.iload_n 1, 1) := by decide +kernel
theorem dX3_shifts_36 : decode cX3_shifts 36 = .ok (.iaload, 1) := by decide +kernel
theorem dX3_shifts_37 : decode cX3_shifts 37 = .ok (.iconst 1, 1) := by decide +kernel
theorem dX3_shifts_38 : decode cX3_shifts 38 = .ok (.isub, 1) := by decide +kernel
theorem dX3_shifts_39 : decode cX3_shifts 39 = .ok (.istore 6, 2) := by decide +kernel
theorem dX3_shifts_41 : decode cX3_shifts 41 = .ok (.bipush 80, 2) := by decide +kernel
theorem dX3_shifts_43 : decode cX3_shifts 43 = .ok (.iload 6, 2) := by decide +kernel
theorem dX3_shifts_45 : decode cX3_shifts 45 = .ok (.imul, 1) := by decide +kernel
theorem dX3_shifts_46 : decode cX3_shifts 46 = .ok (.istore 7, 2) := by decide +kernel
theorem dX3_shifts_48 : decode cX3_shifts 48 = .ok (.aload_n 0, 1) := by decide +kernel
theorem dX3_shifts_49 : decode cX3_shifts 49 = .ok (.getfield 19, 3) := by decide +kernel
theorem dX3_shifts_52 : decode cX3_shifts 52 = .ok (.iload 6, 2) := by decide +kernel
theorem dX3_shifts_54 : decode cX3_shifts 54 = .ok (.iaload, 1) := by decide +kernel
theorem dX3_shifts_55 : decode cX3_shifts 55 = .ok (.istore 8, 2) := by decide +kernel
theorem dX3_shifts_57 : decode cX3_shifts 57 = .ok (.aload_n 0, 1) := by decide +kernel
theorem dX3_shifts_58 : decode cX3_shifts 58 = .ok (.iload 6, 2) := by decide +kernel
theorem dX3_shifts_60 : decode cX3_shifts 60 = .ok (.invokevirtual 87, 3) := by decide +kernel
theorem dX3_shifts_63 : decode cX3_shifts 63 = .ok (.iload_n 2, 1) := by decide +kernel
theorem dX3_shifts_64 : decode cX3_shifts 64 = .ok (.istore 9, 2) := by decide +kernel
theorem dX3_shifts_66 : decode cX3_shifts 66 = .ok (.iload 9, 2) := by decide +kernel
theorem dX3_shifts_68 : decode cX3_shifts 68 = .ok (.iload 8, 2) := by decide +kernel
theorem dX3_shifts_70 : decode cX3_shifts 70 = .ok (.if_icmp .ge 61, 3) := by decide +kernel
theorem dX3_shifts_73 : decode cX3_shifts 73 = .ok (.iload 4, 2) := by decide +kernel
theorem dX3_shifts_75 : decode cX3_shifts 75 = .ok (.ifCond .eq 10, 3) := by decide +kernel
theorem dX3_shifts_78 : decode cX3_shifts 78 = .ok (.iload 9, 2) := by decide +kernel
theorem dX3_shifts_80 : decode cX3_shifts 80 = .ok (.iload_n 3, 1) := by decide +kernel
theorem dX3_shifts_81 : decode cX3_shifts 81 = .ok (.isub, 1) := by decide +kernel
theorem dX3_shifts_82 : decode cX3_shifts 82 = .ok (.goto 7, 3) := by decide +kernel
theorem dX3_shifts_85 : decode cX3_shifts 85 = .ok (.iload 9, 2) := by decide +kernel
theorem dX3_shifts_87 : decode cX3_shifts 87 = .ok (.iload_n 3, 1) := by decide +kernel
theorem dX3_shifts_88 : decode cX3_shifts 88 = .ok (.iadd, 1) := by decide +kernel
theorem dX3_shifts_89 : decode cX3_shifts 89 = .ok (.istore 10, 2) := by decide +kernel
theorem dX3_shifts_91 : decode cX3_shifts 91 = .ok (.aload_n 0, 1) := by decide +kernel
theorem dX3_shifts_92 : decode cX3_shifts 92 = .ok (.getfield 22, 3) := by decide +kernel
theorem dX3_shifts_95 : decode cX3_shifts 95 = .ok (.iload 7, 2) := by decide +kernel
theorem dX3_shifts_97 : decode cX3_shifts 97 = .ok (.iload 9, 2) := by decide +kernel
theorem dX3_shifts_99 : decode cX3_shifts 99 = .ok (.iadd, 1) := by decide +kernel
theorem dX3_shifts_100 : decode cX3_shifts 100 = .ok (.iload 10, 2) := by decide +kernel
theorem dX3_shifts_102 : decode cX3_shifts 102 = .ok (.iload_n 2, 1) := by decide +kernel
theorem dX3_shifts_103 : decode cX3_shifts 103 = .ok (.if_icmp .lt 10, 3) := by decide +kernel
theorem dX3_shifts_106 : decode cX3_shifts 106 = .ok (.iload 10, 2) := by decide +kernel
theorem dX3_shifts_108 : decode cX3_shifts 108 = .ok (.iload 8, 2) := by decide +kernel
theorem dX3_shifts_110 : decode cX3_shifts 110 = .ok (.if_icmp .lt 7, 3) := by decide +kernel
theorem dX3_shifts_113 : decode cX3_shifts 113 = .ok (.lconst 0, 1) := by decide +kernel
theorem dX3_shifts_114 : decode cX3_shifts 114 = .ok (.goto 10, 3) := by decide +kernel
theorem dX3_shifts_117 : decode cX3_shifts 117 = .ok (.aload_n 0, 1) := by decide +kernel
theorem dX3_shifts_118 : decode cX3_shifts 118 = .ok (.getfield 26, 3) := by decide +kernel
theorem dX3_shifts_121 : decode cX3_shifts 121 = .ok (.iload 10, 2) := by decide +kernel
theorem dX3_shifts_123 : decode cX3_shifts 123 = .ok (.laload, 1) := by decide +kernel
theorem dX3_shifts_124 : decode cX3_shifts 124 = .ok (.lastore, 1) := by decide +kernel
theorem dX3_shifts_125 : decode cX3_shifts 125 = .ok (.iinc 9 1, 3) := by decide +kernel
theorem dX3_shifts_128 : decode cX3_shifts 128 = .ok (.goto (-62), 3) := by decide +kernel
theorem dX3_shifts_131 : decode cX3_shifts 131 = .ok (.aload_n 0, 1) := by decide +kernel
theorem dX3_shifts_132 : decode cX3_shifts 132 = .ok (.iload 8, 2) := by decide +kernel
theorem dX3_shifts_134 : decode cX3_shifts 134 = .ok (.iload_n 2, 1) := by decide +kernel
theorem dX3_shifts_135 : decode cX3_shifts 135 = .ok (.isub, 1) := by decide +kernel
theorem dX3_shifts_136 : decode cX3_shifts 136 = .ok (.iload_n 3, 1) := by decide +kernel
theorem dX3_shifts_137 : decode cX3_shifts 137 = .ok (.isub, 1) := by decide +kernel
theorem dX3_shifts_138 : decode cX3_shifts 138 = .ok (.putfield 69, 3) := by decide +kernel
theorem dX3_shifts_141 : decode cX3_shifts 141 = .ok (.aload_n 0, 1) := by decide +kernel
theorem dX3_shifts_142 : decode cX3_shifts 142 = .ok (.dup, 1) := by decide +kernel
theorem dX3_shifts_143 : decode cX3_shifts 143 = .ok (.getfield 91, 3) := by decide +kernel
theorem dX3_shifts_146 : decode cX3_shifts 146 = .ok (.iconst 1, 1) := by decide +kernel
theorem dX3_shifts_147 : decode cX3_shifts 147 = .ok (.iadd, 1) := by decide +kernel
theorem dX3_shifts_148 : decode cX3_shifts 148 = .ok (.putfield 91, 3) := by decide +kernel
theorem dX3_shifts_151 : decode cX3_shifts 151 = .ok (.iconst 1, 1) := by decide +kernel
theorem dX3_shifts_152 : decode cX3_shifts 152 = .ok (.ireturn, 1) := by decide +kernel
set_option maxRecDepth 20000 in
theorem ggX3_open_X3_shifts : GoodIn wsX3_open wsX3_shifts := goodIn_r _ [5, 6, 7, 8, 9, 10, 11, 12, 13, 4, 14, 15, 16, 17, 18, 19, 20, 21, 22, 23, 24, 25, 26, 27, 28, 29, 30, 31, 32, 33, 34, 35, 36, 37, 38, 39, 40, 41, 42, 43, 44, 45, 46, 47, 48, 49, 50, 51, 52, 53] (by decide +kernel) (by decide +kernel)
set_option maxRecDepth 20000 in
theorem gX3_open_X3_shifts : GoodIn wsX3_open (wsV RX3 98 RX3 yX3_shifts wsX3_shifts) := goodIn_app (goodIn_of _ (by decide +kernel)) ggX3_open_X3_shifts
theorem dX3_open_0 : decode cX3_open 0 = .ok (.aload_n 0, 1) := by decide +kernel
theorem dX3_open_1 : decode cX3_open 1 = .ok (.iload_n 1, 1) := by decide +kernel
theorem dX3_open_2 : decode cX3_open 2 = .ok (.iload_n 2, 1) := by decide +kernel
theorem dX3_open_3 : decode cX3_open 3 = .ok (.iload_n 3, 1) := by decide +kernel
theorem dX3_open_4 : decode cX3_open 4 = .ok (.iconst 1, 1) := by decide +kernel
