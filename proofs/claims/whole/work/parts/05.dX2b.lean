theorem dX2_shift_81 : decode cX2_shift 81 = .ok (.aload 5, 2) := by decide +kernel
theorem dX2_shift_83 : decode cX2_shift 83 = .ok (.iload_n 2, 1) := by decide +kernel
theorem dX2_shift_84 : decode cX2_shift 84 = .ok (.iload_n 3, 1) := by decide +kernel
theorem dX2_shift_85 : decode cX2_shift 85 = .ok (.invokevirtual 107, 3) := by decide +kernel
theorem dX2_shift_88 : decode cX2_shift 88 = .ok (.goto 26, 3) := by decide +kernel
theorem dX2_shift_91 : decode cX2_shift 91 = .ok (.aload 5, 2) := by decide +kernel
theorem dX2_shift_93 : decode cX2_shift 93 = .ok (.aload 5, 2) := by decide +kernel
theorem dX2_shift_95 : decode cX2_shift 95 = .ok (.iload_n 2, 1) := by decide +kernel
theorem dX2_shift_96 : decode cX2_shift 96 = .ok (.iload_n 3, 1) := by decide +kernel
theorem dX2_shift_97 : decode cX2_shift 97 = .ok (.iadd, 1) := by decide +kernel
theorem dX2_shift_98 : decode cX2_shift 98 = .ok (.iload_n 2, 1) := by decide +kernel
theorem dX2_shift_99 : decode cX2_shift 99 = .ok (.iload 7, 2) := by decide +kernel
theorem dX2_shift_101 : decode cX2_shift 101 = .ok (.invokevirtual 96, 3) := by decide +kernel
theorem dX2_shift_104 : decode cX2_shift 104 = .ok (.aload 5, 2) := by decide +kernel
theorem dX2_shift_106 : decode cX2_shift 106 = .ok (.iload_n 2, 1) := by decide +kernel
theorem dX2_shift_107 : decode cX2_shift 107 = .ok (.iload 7, 2) := by decide +kernel
theorem dX2_shift_109 : decode cX2_shift 109 = .ok (.iadd, 1) := by decide +kernel
theorem dX2_shift_110 : decode cX2_shift 110 = .ok (.iload_n 3, 1) := by decide +kernel
theorem dX2_shift_111 : decode cX2_shift 111 = .ok (.invokevirtual 107, 3) := by decide +kernel
theorem dX2_shift_114 : decode cX2_shift 114 = .ok (.aload_n 0, 1) := by decide +kernel
theorem dX2_shift_115 : decode cX2_shift 115 = .ok (.iconst 0, 1) := by decide +kernel
theorem dX2_shift_116 : decode cX2_shift 116 = .ok (.iload 7, 2) := by decide +kernel
theorem dX2_shift_118 : decode cX2_shift 118 = .ok (.iconst 1, 1) := by decide +kernel
theorem dX2_shift_119 : decode cX2_shift 119 = .ok (.invokevirtual 84, 3) := by decide +kernel
theorem dX2_shift_122 : decode cX2_shift 122 = .ok (.ireturn, 1) := by decide +kernel
set_option maxRecDepth 20000 in
theorem ggX2_back_X2_rowBehind : GoodIn wsX2_back wsX2_rowBehind := goodIn_r _ [7, 8, 9, 10, 11, 12, 13, 14, 15, 36, 37, 38, 39, 40, 41, 42, 43, 44, 45, 46, 47, 48] (by decide +kernel) (by decide +kernel)
set_option maxRecDepth 20000 in
theorem gX2_back_X2_rowBehind : GoodIn wsX2_back (wsV RX2 111 RX2 yX2_rowBehind wsX2_rowBehind) := goodIn_app (goodIn_of _ (by decide +kernel)) ggX2_back_X2_rowBehind
set_option maxRecDepth 20000 in
theorem ggX2_back_X1_copyFrom : GoodIn wsX2_back wsX1_copyFrom := goodIn_r _ [19, 20, 21, 22, 23, 24, 25, 26, 27, 28, 13, 29, 30, 31, 11, 12, 14, 15, 32, 33, 34, 35, 44, 45, 46, 47, 48] (by decide +kernel) (by decide +kernel)
set_option maxRecDepth 20000 in
theorem gX2_back_X1_copyFrom : GoodIn wsX2_back (wsV RX2 96 RX1 yX1_copyFrom wsX1_copyFrom) := goodIn_app (goodIn_of _ (by decide +kernel)) ggX2_back_X1_copyFrom
theorem dX2_back_0 : decode cX2_back 0 = .ok (.aload_n 0, 1) := by decide +kernel
theorem dX2_back_1 : decode cX2_back 1 = .ok (.getfield 29, 3) := by decide +kernel
theorem dX2_back_4 : decode cX2_back 4 = .ok (.ifnonnull 5, 3) := by decide +kernel
theorem dX2_back_7 : decode cX2_back 7 = .ok (.iconst 0, 1) := by decide +kernel
theorem dX2_back_8 : decode cX2_back 8 = .ok (.ireturn, 1) := by decide +kernel
theorem dX2_back_9 : decode cX2_back 9 = .ok (.aload_n 0, 1) := by decide +kernel
theorem dX2_back_10 : decode cX2_back 10 = .ok (.getfield 29, 3) := by decide +kernel
theorem dX2_back_13 : decode cX2_back 13 = .ok (.aload_n 0, 1) := by decide +kernel
theorem dX2_back_14 : decode cX2_back 14 = .ok (.aload_n 0, 1) := by decide +kernel
theorem dX2_back_15 : decode cX2_back 15 = .ok (.getfield 29, 3) := by decide +kernel
theorem dX2_back_18 : decode cX2_back 18 = .ok (.invokevirtual 111, 3) := by decide +kernel
theorem dX2_back_21 : decode cX2_back 21 = .ok (.iconst 0, 1) := by decide +kernel
theorem dX2_back_22 : decode cX2_back 22 = .ok (.iconst 0, 1) := by decide +kernel
theorem dX2_back_23 : decode cX2_back 23 = .ok (.aload_n 0, 1) := by decide +kernel
theorem dX2_back_24 : decode cX2_back 24 = .ok (.getfield 29, 3) := by decide +kernel
theorem dX2_back_27 : decode cX2_back 27 = .ok (.getfield 104, 3) := by decide +kernel
theorem dX2_back_30 : decode cX2_back 30 = .ok (.invokevirtual 96, 3) := by decide +kernel
theorem dX2_back_33 : decode cX2_back 33 = .ok (.aload_n 0, 1) := by decide +kernel
theorem dX2_back_34 : decode cX2_back 34 = .ok (.aconst_null, 1) := by decide +kernel
theorem dX2_back_35 : decode cX2_back 35 = .ok (.putfield 29, 3) := by decide +kernel
theorem dX2_back_38 : decode cX2_back 38 = .ok (.iconst 1, 1) := by decide +kernel
theorem dX2_back_39 : decode cX2_back 39 = .ok (.ireturn, 1) := by decide +kernel
theorem dX2_count_0 : decode cX2_count 0 = .ok (.iload_n 1, 1) := by decide +kernel
theorem dX2_count_1 : decode cX2_count 1 = .ok (.tableswitch 114 0 8 #[51, 56, 63, 70, 77, 84, 91, 96, 101], 51) := by decide +kernel
theorem dX2_count_52 : decode cX2_count 52 = .ok (.aload_n 0, 1) := by decide +kernel
theorem dX2_count_53 : decode cX2_count 53 = .ok (.getfield 19, 3) := by decide +kernel
theorem dX2_count_56 : decode cX2_count 56 = .ok (.ireturn, 1) := by decide +kernel
theorem dX2_count_57 : decode cX2_count 57 = .ok (.aload_n 0, 1) := by decide +kernel
theorem dX2_count_58 : decode cX2_count 58 = .ok (.getfield 15, 3) := by decide +kernel
theorem dX2_count_61 : decode cX2_count 61 = .ok (.iconst 1, 1) := by decide +kernel
theorem dX2_count_62 : decode cX2_count 62 = .ok (.iaload, 1) := by decide +kernel
theorem dX2_count_63 : decode cX2_count 63 = .ok (.ireturn, 1) := by decide +kernel
theorem dX2_count_64 : decode cX2_count 64 = .ok (.aload_n 0, 1) := by decide +kernel
theorem dX2_count_65 : decode cX2_count 65 = .ok (.getfield 15, 3) := by decide +kernel
theorem dX2_count_68 : decode cX2_count 68 = .ok (.iconst 2, 1) := by decide +kernel
theorem dX2_count_69 : decode cX2_count 69 = .ok (.iaload, 1) := by decide +kernel
theorem dX2_count_70 : decode cX2_count 70 = .ok (.ireturn, 1) := by decide +kernel
theorem dX2_count_71 : decode cX2_count 71 = .ok (.aload_n 0, 1) := by decide +kernel
theorem dX2_count_72 : decode cX2_count 72 = .ok (.getfield 15, 3) := by decide +kernel
theorem dX2_count_75 : decode cX2_count 75 = .ok (.iconst 3, 1) := by decide +kernel
theorem dX2_count_76 : decode cX2_count 76 = .ok (.iaload, 1) := by decide +kernel
theorem dX2_count_77 : decode cX2_count 77 = .ok (.ireturn, 1) := by decide +kernel
theorem dX2_count_78 : decode cX2_count 78 = .ok (.aload_n 0, 1) := by decide +kernel
theorem dX2_count_79 : decode cX2_count 79 = .ok (.getfield 15, 3) := by decide +kernel
theorem dX2_count_82 : decode cX2_count 82 = .ok (.iconst 4, 1) := by decide +kernel
theorem dX2_count_83 : decode cX2_count 83 = .ok (.iaload, 1) := by decide +kernel
theorem dX2_count_84 : decode cX2_count 84 = .ok (.ireturn, 1) := by decide +kernel
theorem dX2_count_85 : decode cX2_count 85 = .ok (.aload_n 0, 1) := by decide +kernel
theorem dX2_count_86 : decode cX2_count 86 = .ok (.getfield 15, 3) := by decide +kernel
theorem dX2_count_89 : decode cX2_count 89 = .ok (.iconst 0, 1) := by decide +kernel
theorem dX2_count_90 : decode cX2_count 90 = .ok (.iaload, 1) := by decide +kernel
theorem dX2_count_91 : decode cX2_count 91 = .ok (.ireturn, 1) := by decide +kernel
theorem dX2_count_92 : decode cX2_count 92 = .ok (.aload_n 0, 1) := by decide +kernel
theorem dX2_count_93 : decode cX2_count 93 = .ok (.getfield 23, 3) := by decide +kernel
theorem dX2_count_96 : decode cX2_count 96 = .ok (.ireturn, 1) := by decide +kernel
theorem dX2_count_97 : decode cX2_count 97 = .ok (.aload_n 0, 1) := by decide +kernel
theorem dX2_count_98 : decode cX2_count 98 = .ok (.getfield 26, 3) := by decide +kernel
theorem dX2_count_101 : decode cX2_count 101 = .ok (.ireturn, 1) := by decide +kernel
theorem dX2_count_102 : decode cX2_count 102 = .ok (.aload_n 0, 1) := by decide +kernel
theorem dX2_count_103 : decode cX2_count 103 = .ok (.getfield 29, 3) := by decide +kernel
theorem dX2_count_106 : decode cX2_count 106 = .ok (.ifnull 7, 3) := by decide +kernel
theorem dX2_count_109 : decode cX2_count 109 = .ok (.iconst 1, 1) := by decide +kernel
theorem dX2_count_110 : decode cX2_count 110 = .ok (.goto 4, 3) := by decide +kernel
theorem dX2_count_113 : decode cX2_count 113 = .ok (.iconst 0, 1) := by decide +kernel
theorem dX2_count_114 : decode cX2_count 114 = .ok (.ireturn, 1) := by decide +kernel
theorem dX2_count_115 : decode cX2_count 115 = .ok (.iconst (-1), 1) := by decide +kernel
theorem dX2_count_116 : decode cX2_count 116 = .ok (.ireturn, 1) := by decide +kernel
set_option maxRecDepth 20000 in
theorem ggX2_held_X2_isSpindle : GoodIn wsX2_held wsX2_isSpindle := goodIn_r _ [7] (by decide +kernel) (by decide +kernel)
set_option maxRecDepth 20000 in
theorem gX2_held_X2_isSpindle : GoodIn wsX2_held (va_wsS RX2 42 yX2_isSpindle wsX2_isSpindle) := goodIn_app (goodIn_of _ (by decide +kernel)) ggX2_held_X2_isSpindle
set_option maxRecDepth 20000 in
theorem ggX2_held_X1_countFilled : GoodIn wsX2_held wsX1_countFilled := goodIn_r _ [12, 13, 14, 15, 16, 17, 11, 18, 19, 20, 21, 22, 23, 24, 25, 26, 27, 28, 29, 30, 31, 32, 41, 42, 43, 44, 45] (by decide +kernel) (by decide +kernel)
set_option maxRecDepth 20000 in
theorem gX2_held_X1_countFilled : GoodIn wsX2_held (wsV RX2 115 RX1 yX1_countFilled wsX1_countFilled) := goodIn_app (goodIn_of _ (by decide +kernel)) ggX2_held_X1_countFilled
theorem dX2_held_0 : decode cX2_held 0 = .ok (.iload_n 1, 1) := by decide +kernel
theorem dX2_held_1 : decode cX2_held 1 = .ok (.invokestatic 42, 3) := by decide +kernel
theorem dX2_held_4 : decode cX2_held 4 = .ok (.ifCond .ne 6, 3) := by decide +kernel
theorem dX2_held_7 : decode cX2_held 7 = .ok (.bipush (-9), 2) := by decide +kernel
theorem dX2_held_9 : decode cX2_held 9 = .ok (.ireturn, 1) := by decide +kernel
theorem dX2_held_10 : decode cX2_held 10 = .ok (.aload_n 0, 1) := by decide +kernel
theorem dX2_held_11 : decode cX2_held 11 = .ok (.getfield 11, 3) := by decide +kernel
theorem dX2_held_14 : decode cX2_held 14 = .ok (.iload_n 1, 1) := by decide +kernel
theorem dX2_held_15 : decode cX2_held 15 = .ok (.aaload, 1) := by decide +kernel
theorem dX2_held_16 : decode cX2_held 16 = .ok (.astore_n 3, 1) := by decide +kernel
theorem dX2_held_17 : decode cX2_held 17 = .ok (.iload_n 2, 1) := by decide +kernel
theorem dX2_held_18 : decode cX2_held 18 = .ok (.tableswitch 41 0 2 #[26, 31, 36], 26) := by decide +kernel
theorem dX2_held_44 : decode cX2_held 44 = .ok (.aload_n 3, 1) := by decide +kernel
theorem dX2_held_45 : decode cX2_held 45 = .ok (.getfield 46, 3) := by decide +kernel
theorem dX2_held_48 : decode cX2_held 48 = .ok (.ireturn, 1) := by decide +kernel
theorem dX2_held_49 : decode cX2_held 49 = .ok (.aload_n 3, 1) := by decide +kernel
theorem dX2_held_50 : decode cX2_held 50 = .ok (.getfield 104, 3) := by decide +kernel
theorem dX2_held_53 : decode cX2_held 53 = .ok (.ireturn, 1) := by decide +kernel
theorem dX2_held_54 : decode cX2_held 54 = .ok (.aload_n 3, 1) := by decide +kernel
theorem dX2_held_55 : decode cX2_held 55 = .ok (.invokevirtual 115, 3) := by decide +kernel
theorem dX2_held_58 : decode cX2_held 58 = .ok (.ireturn, 1) := by decide +kernel
theorem dX2_held_59 : decode cX2_held 59 = .ok (.iconst (-1), 1) := by decide +kernel
theorem dX2_held_60 : decode cX2_held 60 = .ok (.ireturn, 1) := by decide +kernel
set_option maxRecDepth 20000 in
theorem ggX2_sort_X2_isSpindle : GoodIn wsX2_sort wsX2_isSpindle := goodIn_r _ [6] (by decide +kernel) (by decide +kernel)
set_option maxRecDepth 20000 in
theorem gX2_sort_X2_isSpindle : GoodIn wsX2_sort (va_wsS RX2 42 yX2_isSpindle wsX2_isSpindle) := goodIn_app (goodIn_of _ (by decide +kernel)) ggX2_sort_X2_isSpindle
set_option maxRecDepth 20000 in
theorem ggX2_sort_X1_hasPlace : GoodIn wsX2_sort wsX1_hasPlace := goodIn_r _ [11, 12, 39, 40, 41, 42, 43] (by decide +kernel) (by decide +kernel)
set_option maxRecDepth 20000 in
theorem gX2_sort_X1_hasPlace : GoodIn wsX2_sort (wsV RX2 60 RX1 yX1_hasPlace wsX1_hasPlace) := goodIn_app (goodIn_of _ (by decide +kernel)) ggX2_sort_X1_hasPlace
set_option maxRecDepth 20000 in
theorem ggX2_sort_X1_isStrip : GoodIn wsX2_sort wsX1_isStrip := goodIn_r _ [16, 17, 39, 40, 41, 42, 43] (by decide +kernel) (by decide +kernel)
set_option maxRecDepth 20000 in
theorem gX2_sort_X1_isStrip : GoodIn wsX2_sort (wsV RX2 119 RX1 yX1_isStrip wsX1_isStrip) := goodIn_app (goodIn_of _ (by decide +kernel)) ggX2_sort_X1_isStrip
set_option maxRecDepth 20000 in
theorem ggX2_sort_X1_cardAt : GoodIn wsX2_sort wsX1_cardAt := goodIn_r _ [21, 22, 23, 24, 25, 10, 26, 17, 27, 8, 9, 11, 12, 39, 40, 41, 42, 43] (by decide +kernel) (by decide +kernel)
set_option maxRecDepth 20000 in
theorem gX2_sort_X1_cardAt : GoodIn wsX2_sort (wsV RX2 122 RX1 yX1_cardAt wsX1_cardAt) := goodIn_app (goodIn_of _ (by decide +kernel)) ggX2_sort_X1_cardAt
theorem dX2_sort_0 : decode cX2_sort 0 = .ok (.iload_n 1, 1) := by decide +kernel
theorem dX2_sort_1 : decode cX2_sort 1 = .ok (.invokestatic 42, 3) := by decide +kernel
theorem dX2_sort_4 : decode cX2_sort 4 = .ok (.ifCond .ne 6, 3) := by decide +kernel
theorem dX2_sort_7 : decode cX2_sort 7 = .ok (.bipush (-9), 2) := by decide +kernel
theorem dX2_sort_9 : decode cX2_sort 9 = .ok (.ireturn, 1) := by decide +kernel
theorem dX2_sort_10 : decode cX2_sort 10 = .ok (.aload_n 0, 1) := by decide +kernel
theorem dX2_sort_11 : decode cX2_sort 11 = .ok (.getfield 11, 3) := by decide +kernel
theorem dX2_sort_14 : decode cX2_sort 14 = .ok (.iload_n 1, 1) := by decide +kernel
theorem dX2_sort_15 : decode cX2_sort 15 = .ok (.aaload, 1) := by decide +kernel
theorem dX2_sort_16 : decode cX2_sort 16 = .ok (.astore_n 3, 1) := by decide +kernel
theorem dX2_sort_17 : decode cX2_sort 17 = .ok (.aload_n 3, 1) := by decide +kernel
theorem dX2_sort_18 : decode cX2_sort 18 = .ok (.iload_n 2, 1) := by decide +kernel
theorem dX2_sort_19 : decode cX2_sort 19 = .ok (.invokevirtual 60, 3) := by decide +kernel
theorem dX2_sort_22 : decode cX2_sort 22 = .ok (.ifCond .ne 5, 3) := by decide +kernel
theorem dX2_sort_25 : decode cX2_sort 25 = .ok (.iconst (-1), 1) := by decide +kernel
theorem dX2_sort_26 : decode cX2_sort 26 = .ok (.ireturn, 1) := by decide +kernel
theorem dX2_sort_27 : decode cX2_sort 27 = .ok (.aload_n 3, 1) := by decide +kernel
theorem dX2_sort_28 : decode cX2_sort 28 = .ok (.invokevirtual 119, 3) := by decide +kernel
theorem dX2_sort_31 : decode cX2_sort 31 = .ok (.ifCond .eq 5, 3) := by decide +kernel
theorem dX2_sort_34 : decode cX2_sort 34 = .ok (.iconst 1, 1) := by decide +kernel
theorem dX2_sort_35 : decode cX2_sort 35 = .ok (.ireturn, 1) := by decide +kernel
theorem dX2_sort_36 : decode cX2_sort 36 = .ok (.aload_n 3, 1) := by decide +kernel
theorem dX2_sort_37 : decode cX2_sort 37 = .ok (.iload_n 2, 1) := by decide +kernel
theorem dX2_sort_38 : decode cX2_sort 38 = .ok (.invokevirtual 122, 3) := by decide +kernel
theorem dX2_sort_41 : decode cX2_sort 41 = .ok (.astore 4, 2) := by decide +kernel
theorem dX2_sort_43 : decode cX2_sort 43 = .ok (.aload 4, 2) := by decide +kernel
theorem dX2_sort_45 : decode cX2_sort 45 = .ok (.ifnonnull 5, 3) := by decide +kernel
theorem dX2_sort_48 : decode cX2_sort 48 = .ok (.iconst 0, 1) := by decide +kernel
theorem dX2_sort_49 : decode cX2_sort 49 = .ok (.ireturn, 1) := by decide +kernel
theorem dX2_sort_50 : decode cX2_sort 50 = .ok (.aload 4, 2) := by decide +kernel
theorem dX2_sort_52 : decode cX2_sort 52 = .ok (.getfield 126, 3) := by decide +kernel
theorem dX2_sort_55 : decode cX2_sort 55 = .ok (.ifCond .eq 7, 3) := by decide +kernel
theorem dX2_sort_58 : decode cX2_sort 58 = .ok (.iconst 3, 1) := by decide +kernel
theorem dX2_sort_59 : decode cX2_sort 59 = .ok (.goto 4, 3) := by decide +kernel
theorem dX2_sort_62 : decode cX2_sort 62 = .ok (.iconst 2, 1) := by decide +kernel
theorem dX2_sort_63 : decode cX2_sort 63 = .ok (.ireturn, 1) := by decide +kernel
set_option maxRecDepth 20000 in
theorem ggX2_number_X2_isSpindle : GoodIn wsX2_number wsX2_isSpindle := goodIn_r _ [9] (by decide +kernel) (by decide +kernel)
set_option maxRecDepth 20000 in
theorem gX2_number_X2_isSpindle : GoodIn wsX2_number (va_wsS RX2 42 yX2_isSpindle wsX2_isSpindle) := goodIn_app (goodIn_of _ (by decide +kernel)) ggX2_number_X2_isSpindle
set_option maxRecDepth 20000 in
theorem ggX2_number_X1_isStrip : GoodIn wsX2_number wsX1_isStrip := goodIn_r _ [14, 15, 39, 40, 41, 42, 43] (by decide +kernel) (by decide +kernel)
set_option maxRecDepth 20000 in
theorem gX2_number_X1_isStrip : GoodIn wsX2_number (wsV RX2 119 RX1 yX1_isStrip wsX1_isStrip) := goodIn_app (goodIn_of _ (by decide +kernel)) ggX2_number_X1_isStrip
set_option maxRecDepth 20000 in
theorem ggX2_number_X1_hasPlace : GoodIn wsX2_number wsX1_hasPlace := goodIn_r _ [19, 20, 39, 40, 41, 42, 43] (by decide +kernel) (by decide +kernel)
set_option maxRecDepth 20000 in
theorem gX2_number_X1_hasPlace : GoodIn wsX2_number (wsV RX2 60 RX1 yX1_hasPlace wsX1_hasPlace) := goodIn_app (goodIn_of _ (by decide +kernel)) ggX2_number_X1_hasPlace
set_option maxRecDepth 20000 in
theorem ggX2_number_X1_cardAt : GoodIn wsX2_number wsX1_cardAt := goodIn_r _ [24, 25, 26, 27, 28, 13, 29, 15, 30, 17, 18, 19, 20, 39, 40, 41, 42, 43] (by decide +kernel) (by decide +kernel)
set_option maxRecDepth 20000 in
theorem gX2_number_X1_cardAt : GoodIn wsX2_number (wsV RX2 122 RX1 yX1_cardAt wsX1_cardAt) := goodIn_app (goodIn_of _ (by decide +kernel)) ggX2_number_X1_cardAt
theorem dX2_number_0 : decode cX2_number 0 = .ok (.iload_n 1, 1) := by decide +kernel
theorem dX2_number_1 : decode cX2_number 1 = .ok (.invokestatic 42, 3) := by decide +kernel
theorem dX2_number_4 : decode cX2_number 4 = .ok (.ifCond .ne 5, 3) := by decide +kernel
theorem dX2_number_7 : decode cX2_number 7 = .ok (.lconst 0, 1) := by decide +kernel
theorem dX2_number_8 : decode cX2_number 8 = .ok (.lreturn, 1) := by decide +kernel
theorem dX2_number_9 : decode cX2_number 9 = .ok (.aload_n 0, 1) := by decide +kernel
theorem dX2_number_10 : decode cX2_number 10 = .ok (.getfield 11, 3) := by decide +kernel
theorem dX2_number_13 : decode cX2_number 13 = .ok (.iload_n 1, 1) := by decide +kernel
theorem dX2_number_14 : decode cX2_number 14 = .ok (.aaload, 1) := by decide +kernel
theorem dX2_number_15 : decode cX2_number 15 = .ok (.astore_n 3, 1) := by decide +kernel
theorem dX2_number_16 : decode cX2_number 16 = .ok (.aload_n 3, 1) := by decide +kernel
theorem dX2_number_17 : decode cX2_number 17 = .ok (.getfield 46, 3) := by decide +kernel
theorem dX2_number_20 : decode cX2_number 20 = .ok (.iconst 1, 1) := by decide +kernel
theorem dX2_number_21 : decode cX2_number 21 = .ok (.if_icmp .ne 9, 3) := by decide +kernel
theorem dX2_number_24 : decode cX2_number 24 = .ok (.aload_n 3, 1) := by decide +kernel
theorem dX2_number_25 : decode cX2_number 25 = .ok (.getfield 49, 3) := by decide +kernel
theorem dX2_number_28 : decode cX2_number 28 = .ok (.i2l, 1) := by decide +kernel
theorem dX2_number_29 : decode cX2_number 29 = .ok (.lreturn, 1) := by decide +kernel
theorem dX2_number_30 : decode cX2_number 30 = .ok (.aload_n 3, 1) := by decide +kernel
theorem dX2_number_31 : decode cX2_number 31 = .ok (.invokevirtual 119, 3) := by decide +kernel
theorem dX2_number_34 : decode cX2_number 34 = .ok (.ifCond .eq 22, 3) := by decide +kernel
theorem dX2_number_37 : decode cX2_number 37 = .ok (.aload_n 3, 1) := by decide +kernel
theorem dX2_number_38 : decode cX2_number 38 = .ok (.iload_n 2, 1) := by decide +kernel
theorem dX2_number_39 : decode cX2_number 39 = .ok (.invokevirtual 60, 3) := by decide +kernel
theorem dX2_number_42 : decode cX2_number 42 = .ok (.ifCond .eq 12, 3) := by decide +kernel
theorem dX2_number_45 : decode cX2_number 45 = .ok (.aload_n 3, 1) := by decide +kernel
theorem dX2_number_46 : decode cX2_number 46 = .ok (.getfield 63, 3) := by decide +kernel
theorem dX2_number_49 : decode cX2_number 49 = .ok (.iload_n 2, 1) := by decide +kernel
theorem dX2_number_50 : decode cX2_number 50 = .ok (.laload, 1) := by decide +kernel
theorem dX2_number_51 : decode cX2_number 51 = .ok (.goto 4, 3) := by decide +kernel
theorem dX2_number_54 : decode cX2_number 54 = .ok (.lconst 0, 1) := by decide +kernel
theorem dX2_number_55 : decode cX2_number 55 = .ok (.lreturn, 1) := by decide +kernel
theorem dX2_number_56 : decode cX2_number 56 = .ok (.aload_n 3, 1) := by decide +kernel
theorem dX2_number_57 : decode cX2_number 57 = .ok (.iload_n 2, 1) := by decide +kernel
theorem dX2_number_58 : decode cX2_number 58 = .ok (.invokevirtual 122, 3) := by decide +kernel
theorem dX2_number_61 : decode cX2_number 61 = .ok (.astore 4, 2) := by decide +kernel
theorem dX2_number_63 : decode cX2_number 63 = .ok (.aload 4, 2) := by decide +kernel
theorem dX2_number_65 : decode cX2_number 65 = .ok (.ifnonnull 7, 3) := by decide +kernel
theorem dX2_number_68 : decode cX2_number 68 = .ok (.lconst 0, 1) := by decide +kernel
theorem dX2_number_69 : decode cX2_number 69 = .ok (.goto 8, 3) := by decide +kernel
theorem dX2_number_72 : decode cX2_number 72 = .ok (.aload 4, 2) := by decide +kernel
theorem dX2_number_74 : decode cX2_number 74 = .ok (.getfield 130, 3) := by decide +kernel
theorem dX2_number_77 : decode cX2_number 77 = .ok (.lreturn, 1) := by decide +kernel
set_option maxRecDepth 20000 in
theorem ggX2_show_X2_isSpindle : GoodIn wsX2_show wsX2_isSpindle := goodIn_r _ [7] (by decide +kernel) (by decide +kernel)
set_option maxRecDepth 20000 in
theorem gX2_show_X2_isSpindle : GoodIn wsX2_show (va_wsS RX2 42 yX2_isSpindle wsX2_isSpindle) := goodIn_app (goodIn_of _ (by decide +kernel)) ggX2_show_X2_isSpindle
set_option maxRecDepth 20000 in
theorem ggX2_show_X1_isRack : GoodIn wsX2_show wsX1_isRack := goodIn_r _ [12, 13, 33, 34, 35, 36, 37] (by decide +kernel) (by decide +kernel)
set_option maxRecDepth 20000 in
theorem gX2_show_X1_isRack : GoodIn wsX2_show (wsV RX2 52 RX1 yX1_isRack wsX1_isRack) := goodIn_app (goodIn_of _ (by decide +kernel)) ggX2_show_X1_isRack
set_option maxRecDepth 20000 in
theorem ggX2_show_X1_cardAt : GoodIn wsX2_show wsX1_cardAt := goodIn_r _ [17, 18, 19, 9, 10, 11, 12, 13, 20, 21, 22, 23, 24, 33, 34, 35, 36, 37] (by decide +kernel) (by decide +kernel)
set_option maxRecDepth 20000 in
theorem gX2_show_X1_cardAt : GoodIn wsX2_show (wsV RX2 122 RX1 yX1_cardAt wsX1_cardAt) := goodIn_app (goodIn_of _ (by decide +kernel)) ggX2_show_X1_cardAt
theorem dX2_show_0 : decode cX2_show 0 = .ok (.iload_n 1, 1) := by decide +kernel
theorem dX2_show_1 : decode cX2_show 1 = .ok (.invokestatic 42, 3) := by decide +kernel
theorem dX2_show_4 : decode cX2_show 4 = .ok (.ifCond .ne 6, 3) := by decide +kernel
theorem dX2_show_7 : decode cX2_show 7 = .ok (.bipush (-9), 2) := by decide +kernel
theorem dX2_show_9 : decode cX2_show 9 = .ok (.ireturn, 1) := by decide +kernel
theorem dX2_show_10 : decode cX2_show 10 = .ok (.aload_n 0, 1) := by decide +kernel
theorem dX2_show_11 : decode cX2_show 11 = .ok (.getfield 11, 3) := by decide +kernel
theorem dX2_show_14 : decode cX2_show 14 = .ok (.iload_n 1, 1) := by decide +kernel
theorem dX2_show_15 : decode cX2_show 15 = .ok (.aaload, 1) := by decide +kernel
theorem dX2_show_16 : decode cX2_show 16 = .ok (.astore_n 2, 1) := by decide +kernel
theorem dX2_show_17 : decode cX2_show 17 = .ok (.aload_n 2, 1) := by decide +kernel
theorem dX2_show_18 : decode cX2_show 18 = .ok (.invokevirtual 52, 3) := by decide +kernel
theorem dX2_show_21 : decode cX2_show 21 = .ok (.ifCond .ne 5, 3) := by decide +kernel
theorem dX2_show_24 : decode cX2_show 24 = .ok (.iconst (-1), 1) := by decide +kernel
theorem dX2_show_25 : decode cX2_show 25 = .ok (.ireturn, 1) := by decide +kernel
theorem dX2_show_26 : decode cX2_show 26 = .ok (.iconst 0, 1) := by decide +kernel
theorem dX2_show_27 : decode cX2_show 27 = .ok (.istore_n 3, 1) := by decide +kernel
theorem dX2_show_28 : decode cX2_show 28 = .ok (.iconst 0, 1) := by decide +kernel
theorem dX2_show_29 : decode cX2_show 29 = .ok (.istore 4, 2) := by decide +kernel
theorem dX2_show_31 : decode cX2_show 31 = .ok (.iload 4, 2) := by decide +kernel
theorem dX2_show_33 : decode cX2_show 33 = .ok (.aload_n 2, 1) := by decide +kernel
theorem dX2_show_34 : decode cX2_show 34 = .ok (.getfield 104, 3) := by decide +kernel
theorem dX2_show_37 : decode cX2_show 37 = .ok (.if_icmp .ge 36, 3) := by decide +kernel
theorem dX2_show_40 : decode cX2_show 40 = .ok (.aload_n 2, 1) := by decide +kernel
theorem dX2_show_41 : decode cX2_show 41 = .ok (.iload 4, 2) := by decide +kernel
theorem dX2_show_43 : decode cX2_show 43 = .ok (.invokevirtual 122, 3) := by decide +kernel
theorem dX2_show_46 : decode cX2_show 46 = .ok (.astore 5, 2) := by decide +kernel
theorem dX2_show_48 : decode cX2_show 48 = .ok (.aload 5, 2) := by decide +kernel
theorem dX2_show_50 : decode cX2_show 50 = .ok (.ifnull 17, 3) := by decide +kernel
theorem dX2_show_53 : decode cX2_show 53 = .ok (.aload 5, 2) := by decide +kernel
theorem dX2_show_55 : decode cX2_show 55 = .ok (.dup, 1) := by decide +kernel
theorem dX2_show_56 : decode cX2_show 56 = .ok (.getfield 134, 3) := by decide +kernel
theorem dX2_show_59 : decode cX2_show 59 = .ok (.iconst 1, 1) := by decide +kernel
theorem dX2_show_60 : decode cX2_show 60 = .ok (.iadd, 1) := by decide +kernel
theorem dX2_show_61 : decode cX2_show 61 = .ok (.putfield 134, 3) := by decide +kernel
theorem dX2_show_64 : decode cX2_show 64 = .ok (.iinc 3 1, 3) := by decide +kernel
theorem dX2_show_67 : decode cX2_show 67 = .ok (.iinc 4 1, 3) := by decide +kernel
theorem dX2_show_70 : decode cX2_show 70 = .ok (.goto (-39), 3) := by decide +kernel
theorem dX2_show_73 : decode cX2_show 73 = .ok (.iload_n 3, 1) := by decide +kernel
theorem dX2_show_74 : decode cX2_show 74 = .ok (.ireturn, 1) := by decide +kernel
set_option maxRecDepth 20000 in
theorem ggX2_shown_X2_isSpindle : GoodIn wsX2_shown wsX2_isSpindle := goodIn_r _ [6] (by decide +kernel) (by decide +kernel)
set_option maxRecDepth 20000 in
theorem gX2_shown_X2_isSpindle : GoodIn wsX2_shown (va_wsS RX2 42 yX2_isSpindle wsX2_isSpindle) := goodIn_app (goodIn_of _ (by decide +kernel)) ggX2_shown_X2_isSpindle
set_option maxRecDepth 20000 in
theorem ggX2_shown_X1_cardAt : GoodIn wsX2_shown wsX1_cardAt := goodIn_r _ [11, 12, 13, 14, 15, 10, 16, 17, 18, 19, 20, 21, 22, 34, 35, 36, 37, 38] (by decide +kernel) (by decide +kernel)
set_option maxRecDepth 20000 in
theorem gX2_shown_X1_cardAt : GoodIn wsX2_shown (wsV RX2 122 RX1 yX1_cardAt wsX1_cardAt) := goodIn_app (goodIn_of _ (by decide +kernel)) ggX2_shown_X1_cardAt
theorem dX2_shown_0 : decode cX2_shown 0 = .ok (.iload_n 1, 1) := by decide +kernel
theorem dX2_shown_1 : decode cX2_shown 1 = .ok (.invokestatic 42, 3) := by decide +kernel
theorem dX2_shown_4 : decode cX2_shown 4 = .ok (.ifCond .ne 6, 3) := by decide +kernel
theorem dX2_shown_7 : decode cX2_shown 7 = .ok (.bipush (-9), 2) := by decide +kernel
theorem dX2_shown_9 : decode cX2_shown 9 = .ok (.ireturn, 1) := by decide +kernel
theorem dX2_shown_10 : decode cX2_shown 10 = .ok (.aload_n 0, 1) := by decide +kernel
theorem dX2_shown_11 : decode cX2_shown 11 = .ok (.getfield 11, 3) := by decide +kernel
theorem dX2_shown_14 : decode cX2_shown 14 = .ok (.iload_n 1, 1) := by decide +kernel
theorem dX2_shown_15 : decode cX2_shown 15 = .ok (.aaload, 1) := by decide +kernel
theorem dX2_shown_16 : decode cX2_shown 16 = .ok (.iload_n 2, 1) := by decide +kernel
theorem dX2_shown_17 : decode cX2_shown 17 = .ok (.invokevirtual 122, 3) := by decide +kernel
theorem dX2_shown_20 : decode cX2_shown 20 = .ok (.astore_n 3, 1) := by decide +kernel
theorem dX2_shown_21 : decode cX2_shown 21 = .ok (.aload_n 3, 1) := by decide +kernel
theorem dX2_shown_22 : decode cX2_shown 22 = .ok (.ifnonnull 7, 3) := by decide +kernel
theorem dX2_shown_25 : decode cX2_shown 25 = .ok (.iconst (-1), 1) := by decide +kernel
theorem dX2_shown_26 : decode cX2_shown 26 = .ok (.goto 7, 3) := by decide +kernel
theorem dX2_shown_29 : decode cX2_shown 29 = .ok (.aload_n 3, 1) := by decide +kernel
theorem dX2_shown_30 : decode cX2_shown 30 = .ok (.getfield 134, 3) := by decide +kernel
theorem dX2_shown_33 : decode cX2_shown 33 = .ok (.ireturn, 1) := by decide +kernel
set_option maxRecDepth 20000 in
theorem ggX2_same_X2_isSpindle : GoodIn wsX2_same wsX2_isSpindle := goodIn_r _ [6] (by decide +kernel) (by decide +kernel)
set_option maxRecDepth 20000 in
theorem gX2_same_X2_isSpindle : GoodIn wsX2_same (va_wsS RX2 42 yX2_isSpindle wsX2_isSpindle) := goodIn_app (goodIn_of _ (by decide +kernel)) ggX2_same_X2_isSpindle
set_option maxRecDepth 20000 in
theorem ggX2_same_X1_cardAt : GoodIn wsX2_same wsX1_cardAt := goodIn_r _ [11, 12, 13, 14, 15, 10, 16, 17, 18, 19, 20, 21, 22, 31, 32, 33, 34, 35] (by decide +kernel) (by decide +kernel)
set_option maxRecDepth 20000 in
theorem gX2_same_X1_cardAt : GoodIn wsX2_same (wsV RX2 122 RX1 yX1_cardAt wsX1_cardAt) := goodIn_app (goodIn_of _ (by decide +kernel)) ggX2_same_X1_cardAt
theorem dX2_same_0 : decode cX2_same 0 = .ok (.iload_n 1, 1) := by decide +kernel
theorem dX2_same_1 : decode cX2_same 1 = .ok (.invokestatic 42, 3) := by decide +kernel
theorem dX2_same_4 : decode cX2_same 4 = .ok (.ifCond .eq 10, 3) := by decide +kernel
theorem dX2_same_7 : decode cX2_same 7 = .ok (.iload_n 3, 1) := by decide +kernel
theorem dX2_same_8 : decode cX2_same 8 = .ok (.invokestatic 42, 3) := by decide +kernel
theorem dX2_same_11 : decode cX2_same 11 = .ok (.ifCond .ne 6, 3) := by decide +kernel
theorem dX2_same_14 : decode cX2_same 14 = .ok (.bipush (-9), 2) := by decide +kernel
theorem dX2_same_16 : decode cX2_same 16 = .ok (.ireturn, 1) := by decide +kernel
theorem dX2_same_17 : decode cX2_same 17 = .ok (.aload_n 0, 1) := by decide +kernel
theorem dX2_same_18 : decode cX2_same 18 = .ok (.getfield 11, 3) := by decide +kernel
theorem dX2_same_21 : decode cX2_same 21 = .ok (.iload_n 1, 1) := by decide +kernel
theorem dX2_same_22 : decode cX2_same 22 = .ok (.aaload, 1) := by decide +kernel
theorem dX2_same_23 : decode cX2_same 23 = .ok (.astore 5, 2) := by decide +kernel
theorem dX2_same_25 : decode cX2_same 25 = .ok (.aload_n 0, 1) := by decide +kernel
theorem dX2_same_26 : decode cX2_same 26 = .ok (.getfield 11, 3) := by decide +kernel
theorem dX2_same_29 : decode cX2_same 29 = .ok (.iload_n 3, 1) := by decide +kernel
theorem dX2_same_30 : decode cX2_same 30 = .ok (.aaload, 1) := by decide +kernel
theorem dX2_same_31 : decode cX2_same 31 = .ok (.astore 6, 2) := by decide +kernel
theorem dX2_same_33 : decode cX2_same 33 = .ok (.iload_n 2, 1) := by decide +kernel
theorem dX2_same_34 : decode cX2_same 34 = .ok (.ifCond .ge 29, 3) := by decide +kernel
theorem dX2_same_37 : decode cX2_same 37 = .ok (.iload 4, 2) := by decide +kernel
theorem dX2_same_39 : decode cX2_same 39 = .ok (.ifCond .ge 24, 3) := by decide +kernel
theorem dX2_same_42 : decode cX2_same 42 = .ok (.aload 5, 2) := by decide +kernel
theorem dX2_same_44 : decode cX2_same 44 = .ok (.aload 6, 2) := by decide +kernel
theorem dX2_same_46 : decode cX2_same 46 = .ok (.if_acmp .ne 15, 3) := by decide +kernel
theorem dX2_same_49 : decode cX2_same 49 = .ok (.aload 5, 2) := by decide +kernel
theorem dX2_same_51 : decode cX2_same 51 = .ok (.getfield 46, 3) := by decide +kernel
theorem dX2_same_54 : decode cX2_same 54 = .ok (.ifCond .eq 7, 3) := by decide +kernel
theorem dX2_same_57 : decode cX2_same 57 = .ok (.iconst 1, 1) := by decide +kernel
theorem dX2_same_58 : decode cX2_same 58 = .ok (.goto 4, 3) := by decide +kernel
theorem dX2_same_61 : decode cX2_same 61 = .ok (.iconst 0, 1) := by decide +kernel
theorem dX2_same_62 : decode cX2_same 62 = .ok (.ireturn, 1) := by decide +kernel
theorem dX2_same_63 : decode cX2_same 63 = .ok (.aload 5, 2) := by decide +kernel
theorem dX2_same_65 : decode cX2_same 65 = .ok (.iload_n 2, 1) := by decide +kernel
theorem dX2_same_66 : decode cX2_same 66 = .ok (.invokevirtual 122, 3) := by decide +kernel
theorem dX2_same_69 : decode cX2_same 69 = .ok (.astore 7, 2) := by decide +kernel
theorem dX2_same_71 : decode cX2_same 71 = .ok (.aload 7, 2) := by decide +kernel
theorem dX2_same_73 : decode cX2_same 73 = .ok (.ifnull 19, 3) := by decide +kernel
theorem dX2_same_76 : decode cX2_same 76 = .ok (.aload 7, 2) := by decide +kernel
theorem dX2_same_78 : decode cX2_same 78 = .ok (.aload 6, 2) := by decide +kernel
theorem dX2_same_80 : decode cX2_same 80 = .ok (.iload 4, 2) := by decide +kernel
theorem dX2_same_82 : decode cX2_same 82 = .ok (.invokevirtual 122, 3) := by decide +kernel
theorem dX2_same_85 : decode cX2_same 85 = .ok (.if_acmp .ne 7, 3) := by decide +kernel
theorem dX2_same_88 : decode cX2_same 88 = .ok (.iconst 1, 1) := by decide +kernel
theorem dX2_same_89 : decode cX2_same 89 = .ok (.goto 4, 3) := by decide +kernel
theorem dX2_same_92 : decode cX2_same 92 = .ok (.iconst 0, 1) := by decide +kernel
theorem dX2_same_93 : decode cX2_same 93 = .ok (.ireturn, 1) := by decide +kernel
theorem dX2_isSpindle_0 : decode cX2_isSpindle 0 = .ok (.iload_n 0, 1) := by decide +kernel
theorem dX2_isSpindle_1 : decode cX2_isSpindle 1 = .ok (.ifCond .lt 13, 3) := by decide +kernel
theorem dX2_isSpindle_4 : decode cX2_isSpindle 4 = .ok (.iload_n 0, 1) := by decide +kernel
theorem dX2_isSpindle_5 : decode cX2_isSpindle 5 = .ok (.bipush 10, 2) := by decide +kernel
theorem dX2_isSpindle_7 : decode cX2_isSpindle 7 = .ok (.if_icmp .ge 7, 3) := by decide +kernel
theorem dX2_isSpindle_10 : decode cX2_isSpindle 10 = .ok (.iconst 1, 1) := by decide +kernel
theorem dX2_isSpindle_11 : decode cX2_isSpindle 11 = .ok (.goto 4, 3) := by decide +kernel
theorem dX2_isSpindle_14 : decode cX2_isSpindle 14 = .ok (.iconst 0, 1) := by decide +kernel
theorem dX2_isSpindle_15 : decode cX2_isSpindle 15 = .ok (.ireturn, 1) := by decide +kernel
set_option maxRecDepth 20000 in
theorem ggX2_motionFailure_X1_isLike : GoodIn wsX2_motionFailure wsX1_isLike := goodIn_r _ [6, 7, 8, 9, 10, 5, 11, 12, 13, 14, 15, 21, 22, 23, 24, 25] (by decide +kernel) (by decide +kernel)
set_option maxRecDepth 20000 in
theorem gX2_motionFailure_X1_isLike : GoodIn wsX2_motionFailure (wsV RX2 137 RX1 yX1_isLike wsX1_isLike) := goodIn_app (goodIn_of _ (by decide +kernel)) ggX2_motionFailure_X1_isLike
set_option maxRecDepth 20000 in
theorem ggX2_motionFailure_X1_hasPlaces : GoodIn wsX2_motionFailure wsX1_hasPlaces := goodIn_r _ [19, 20, 21, 22, 23, 24, 25] (by decide +kernel) (by decide +kernel)
set_option maxRecDepth 20000 in
theorem gX2_motionFailure_X1_hasPlaces : GoodIn wsX2_motionFailure (wsV RX2 141 RX1 yX1_hasPlaces wsX1_hasPlaces) := goodIn_app (goodIn_of _ (by decide +kernel)) ggX2_motionFailure_X1_hasPlaces
theorem dX2_motionFailure_0 : decode cX2_motionFailure 0 = .ok (.aload_n 0, 1) := by decide +kernel
theorem dX2_motionFailure_1 : decode cX2_motionFailure 1 = .ok (.getfield 46, 3) := by decide +kernel
theorem dX2_motionFailure_4 : decode cX2_motionFailure 4 = .ok (.ifCond .eq 10, 3) := by decide +kernel
theorem dX2_motionFailure_7 : decode cX2_motionFailure 7 = .ok (.aload_n 2, 1) := by decide +kernel
theorem dX2_motionFailure_8 : decode cX2_motionFailure 8 = .ok (.getfield 46, 3) := by decide +kernel
theorem dX2_motionFailure_11 : decode cX2_motionFailure 11 = .ok (.ifCond .ne 5, 3) := by decide +kernel
theorem dX2_motionFailure_14 : decode cX2_motionFailure 14 = .ok (.iconst 1, 1) := by decide +kernel
theorem dX2_motionFailure_15 : decode cX2_motionFailure 15 = .ok (.ireturn, 1) := by decide +kernel
theorem dX2_motionFailure_16 : decode cX2_motionFailure 16 = .ok (.aload_n 0, 1) := by decide +kernel
theorem dX2_motionFailure_17 : decode cX2_motionFailure 17 = .ok (.aload_n 2, 1) := by decide +kernel
theorem dX2_motionFailure_18 : decode cX2_motionFailure 18 = .ok (.invokevirtual 137, 3) := by decide +kernel
theorem dX2_motionFailure_21 : decode cX2_motionFailure 21 = .ok (.ifCond .ne 5, 3) := by decide +kernel
theorem dX2_motionFailure_24 : decode cX2_motionFailure 24 = .ok (.iconst 2, 1) := by decide +kernel
theorem dX2_motionFailure_25 : decode cX2_motionFailure 25 = .ok (.ireturn, 1) := by decide +kernel
theorem dX2_motionFailure_26 : decode cX2_motionFailure 26 = .ok (.aload_n 0, 1) := by decide +kernel
theorem dX2_motionFailure_27 : decode cX2_motionFailure 27 = .ok (.iload_n 1, 1) := by decide +kernel
theorem dX2_motionFailure_28 : decode cX2_motionFailure 28 = .ok (.iload 4, 2) := by decide +kernel
theorem dX2_motionFailure_30 : decode cX2_motionFailure 30 = .ok (.invokevirtual 141, 3) := by decide +kernel
theorem dX2_motionFailure_33 : decode cX2_motionFailure 33 = .ok (.ifCond .eq 17, 3) := by decide +kernel
theorem dX2_motionFailure_36 : decode cX2_motionFailure 36 = .ok (.aload_n 2, 1) := by decide +kernel
theorem dX2_motionFailure_37 : decode cX2_motionFailure 37 = .ok (.iload_n 3, 1) := by decide +kernel
theorem dX2_motionFailure_38 : decode cX2_motionFailure 38 = .ok (.iload 4, 2) := by decide +kernel
theorem dX2_motionFailure_40 : decode cX2_motionFailure 40 = .ok (.invokevirtual 141, 3) := by decide +kernel
theorem dX2_motionFailure_43 : decode cX2_motionFailure 43 = .ok (.ifCond .eq 7, 3) := by decide +kernel
theorem dX2_motionFailure_46 : decode cX2_motionFailure 46 = .ok (.iconst 0, 1) := by decide +kernel
theorem dX2_motionFailure_47 : decode cX2_motionFailure 47 = .ok (.goto 4, 3) := by decide +kernel
theorem dX2_motionFailure_50 : decode cX2_motionFailure 50 = .ok (.iconst 3, 1) := by decide +kernel
theorem dX2_motionFailure_51 : decode cX2_motionFailure 51 = .ok (.ireturn, 1) := by decide +kernel
theorem dX2_end_0 : decode cX2_end 0 = .ok (.aload_n 0, 1) := by decide +kernel
theorem dX2_end_1 : decode cX2_end 1 = .ok (.getfield 15, 3) := by decide +kernel
theorem dX2_end_4 : decode cX2_end 4 = .ok (.iload_n 1, 1) := by decide +kernel
theorem dX2_end_5 : decode cX2_end 5 = .ok (.dup2, 1) := by decide +kernel
theorem dX2_end_6 : decode cX2_end 6 = .ok (.iaload, 1) := by decide +kernel
theorem dX2_end_7 : decode cX2_end 7 = .ok (.iconst 1, 1) := by decide +kernel
theorem dX2_end_8 : decode cX2_end 8 = .ok (.iadd, 1) := by decide +kernel
theorem dX2_end_9 : decode cX2_end 9 = .ok (.iastore, 1) := by decide +kernel
theorem dX2_end_10 : decode cX2_end 10 = .ok (.aload_n 0, 1) := by decide +kernel
theorem dX2_end_11 : decode cX2_end 11 = .ok (.iload_n 2, 1) := by decide +kernel
theorem dX2_end_12 : decode cX2_end 12 = .ok (.putfield 19, 3) := by decide +kernel
theorem dX2_end_15 : decode cX2_end 15 = .ok (.iload_n 3, 1) := by decide +kernel
theorem dX2_end_16 : decode cX2_end 16 = .ok (.ireturn, 1) := by decide +kernel
set_option maxRecDepth 20000 in
theorem ggX2_cover_X2_rowBehind : GoodIn wsX2_cover wsX2_rowBehind := goodIn_r _ [7, 8, 9, 10, 11, 12, 13, 14, 15, 41, 42, 43, 44, 45, 46, 47, 48, 36, 37, 38, 39, 40] (by decide +kernel) (by decide +kernel)
set_option maxRecDepth 20000 in
theorem gX2_cover_X2_rowBehind : GoodIn wsX2_cover (wsV RX2 111 RX2 yX2_rowBehind wsX2_rowBehind) := goodIn_app (goodIn_of _ (by decide +kernel)) ggX2_cover_X2_rowBehind
set_option maxRecDepth 20000 in
theorem ggX2_cover_X1_copyFrom : GoodIn wsX2_cover wsX1_copyFrom := goodIn_r _ [19, 20, 21, 22, 23, 24, 25, 26, 27, 28, 13, 29, 30, 31, 11, 12, 14, 15, 32, 33, 34, 35, 36, 37, 38, 39, 40] (by decide +kernel) (by decide +kernel)
set_option maxRecDepth 20000 in
theorem gX2_cover_X1_copyFrom : GoodIn wsX2_cover (wsV RX2 96 RX1 yX1_copyFrom wsX1_copyFrom) := goodIn_app (goodIn_of _ (by decide +kernel)) ggX2_cover_X1_copyFrom
theorem dX2_cover_0 : decode cX2_cover 0 = .ok (.aload_n 0, 1) := by decide +kernel
theorem dX2_cover_1 : decode cX2_cover 1 = .ok (.aload_n 1, 1) := by decide +kernel
theorem dX2_cover_2 : decode cX2_cover 2 = .ok (.invokevirtual 111, 3) := by decide +kernel
theorem dX2_cover_5 : decode cX2_cover 5 = .ok (.aload_n 1, 1) := by decide +kernel
theorem dX2_cover_6 : decode cX2_cover 6 = .ok (.iconst 0, 1) := by decide +kernel
theorem dX2_cover_7 : decode cX2_cover 7 = .ok (.iconst 0, 1) := by decide +kernel
theorem dX2_cover_8 : decode cX2_cover 8 = .ok (.aload_n 1, 1) := by decide +kernel
theorem dX2_cover_9 : decode cX2_cover 9 = .ok (.getfield 104, 3) := by decide +kernel
theorem dX2_cover_12 : decode cX2_cover 12 = .ok (.invokevirtual 96, 3) := by decide +kernel
theorem dX2_cover_15 : decode cX2_cover 15 = .ok (.aload_n 0, 1) := by decide +kernel
theorem dX2_cover_16 : decode cX2_cover 16 = .ok (.aload_n 1, 1) := by decide +kernel
theorem dX2_cover_17 : decode cX2_cover 17 = .ok (.putfield 29, 3) := by decide +kernel
theorem dX2_cover_20 : decode cX2_cover 20 = .ok (.return_, 1) := by decide +kernel
set_option maxRecDepth 20000 in
theorem ggX2_rowBehind_X1_isRack : GoodIn wsX2_rowBehind wsX1_isRack := goodIn_r _ [7, 8, 17, 18, 19, 20, 21] (by decide +kernel) (by decide +kernel)
set_option maxRecDepth 20000 in
theorem gX2_rowBehind_X1_isRack : GoodIn wsX2_rowBehind (wsV RX2 52 RX1 yX1_isRack wsX1_isRack) := goodIn_app (goodIn_of _ (by decide +kernel)) ggX2_rowBehind_X1_isRack
theorem dX2_rowBehind_0 : decode cX2_rowBehind 0 = .ok (.aload_n 1, 1) := by decide +kernel
theorem dX2_rowBehind_1 : decode cX2_rowBehind 1 = .ok (.invokevirtual 52, 3) := by decide +kernel
theorem dX2_rowBehind_4 : decode cX2_rowBehind 4 = .ok (.ifCond .eq 10, 3) := by decide +kernel
theorem dX2_rowBehind_7 : decode cX2_rowBehind 7 = .ok (.aload_n 0, 1) := by decide +kernel
theorem dX2_rowBehind_8 : decode cX2_rowBehind 8 = .ok (.getfield 39, 3) := by decide +kernel
theorem dX2_rowBehind_11 : decode cX2_rowBehind 11 = .ok (.goto 7, 3) := by decide +kernel
theorem dX2_rowBehind_14 : decode cX2_rowBehind 14 = .ok (.aload_n 0, 1) := by decide +kernel
theorem dX2_rowBehind_15 : decode cX2_rowBehind 15 = .ok (.getfield 36, 3) := by decide +kernel
theorem dX2_rowBehind_18 : decode cX2_rowBehind 18 = .ok (.areturn, 1) := by decide +kernel
