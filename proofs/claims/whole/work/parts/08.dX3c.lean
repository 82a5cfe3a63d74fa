theorem dX3_open_5 : decode cX3_open 5 = .ok (.invokevirtual 98, 3) := by decide +kernel
theorem dX3_open_8 : decode cX3_open 8 = .ok (.ireturn, 1) := by decide +kernel
set_option maxRecDepth 20000 in
theorem ggX3_close_X3_shifts : GoodIn wsX3_close wsX3_shifts := goodIn_r _ [5, 6, 7, 8, 9, 10, 11, 12, 13, 4, 14, 15, 16, 17, 18, 19, 20, 21, 22, 23, 24, 25, 26, 27, 28, 29, 30, 31, 32, 33, 34, 35, 36, 37, 38, 39, 40, 41, 42, 43, 44, 45, 46, 47, 48, 49, 50, 51, 52, 53] (by decide +kernel) (by decide +kernel)
set_option maxRecDepth 20000 in
theorem gX3_close_X3_shifts : GoodIn wsX3_close (wsV RX3 98 RX3 yX3_shifts wsX3_shifts) := goodIn_app (goodIn_of _ (by decide +kernel)) ggX3_close_X3_shifts
theorem dX3_close_0 : decode cX3_close 0 = .ok (.aload_n 0, 1) := by decide +kernel
theorem dX3_close_1 : decode cX3_close 1 = .ok (.iload_n 1, 1) := by decide +kernel
theorem dX3_close_2 : decode cX3_close 2 = .ok (.iload_n 2, 1) := by decide +kernel
theorem dX3_close_3 : decode cX3_close 3 = .ok (.iload_n 3, 1) := by decide +kernel
theorem dX3_close_4 : decode cX3_close 4 = .ok (.iconst 0, 1) := by decide +kernel
theorem dX3_close_5 : decode cX3_close 5 = .ok (.invokevirtual 98, 3) := by decide +kernel
theorem dX3_close_8 : decode cX3_close 8 = .ok (.ireturn, 1) := by decide +kernel
theorem dX3_back_0 : decode cX3_back 0 = .ok (.aload_n 0, 1) := by decide +kernel
theorem dX3_back_1 : decode cX3_back 1 = .ok (.getfield 38, 3) := by decide +kernel
theorem dX3_back_4 : decode cX3_back 4 = .ok (.iconst (-1), 1) := by decide +kernel
theorem dX3_back_5 : decode cX3_back 5 = .ok (.if_icmp .ne 5, 3) := by decide +kernel
theorem dX3_back_8 : decode cX3_back 8 = .ok (.iconst 0, 1) := by decide +kernel
theorem dX3_back_9 : decode cX3_back 9 = .ok (.ireturn, 1) := by decide +kernel
theorem dX3_back_10 : decode cX3_back 10 = .ok (.iconst 0, 1) := by decide +kernel
theorem dX3_back_11 : decode cX3_back 11 = .ok (.istore_n 1, 1) := by decide +kernel
theorem dX3_back_12 : decode cX3_back 12 = .ok (.iload_n 1, 1) := by decide +kernel
theorem dX3_back_13 : decode cX3_back 13 = .ok (.aload_n 0, 1) := by decide +kernel
theorem dX3_back_14 : decode cX3_back 14 = .ok (.getfield 19, 3) := by decide +kernel
theorem dX3_back_17 : decode cX3_back 17 = .ok (.aload_n 0, 1) := by decide +kernel
theorem dX3_back_18 : decode cX3_back 18 = .ok (.getfield 38, 3) := by decide +kernel
theorem dX3_back_21 : decode cX3_back 21 = .ok (.iaload, 1) := by decide +kernel
theorem dX3_back_22 : decode cX3_back 22 = .ok (.if_icmp .ge 29, 3) := by decide +kernel
theorem dX3_back_25 : decode cX3_back 25 = .ok (.aload_n 0, 1) := by decide +kernel
theorem dX3_back_26 : decode cX3_back 26 = .ok (.getfield 22, 3) := by decide +kernel
theorem dX3_back_29 : decode cX3_back 29 = .ok (.bipush 80, 2) := by decide +kernel
theorem dX3_back_31 : decode cX3_back 31 = .ok (.aload_n 0, 1) := by decide +kernel
theorem dX3_back_32 : decode cX3_back 32 = .ok (.getfield 38, 3) := by decide +kernel
theorem dX3_back_35 : decode cX3_back 35 = .ok (.imul, 1) := by decide +kernel
theorem dX3_back_36 : decode cX3_back 36 = .ok (.iload_n 1, 1) := by decide +kernel
theorem dX3_back_37 : decode cX3_back 37 = .ok (.iadd, 1) := by decide +kernel
theorem dX3_back_38 : decode cX3_back 38 = .ok (.aload_n 0, 1) := by decide +kernel
theorem dX3_back_39 : decode cX3_back 39 = .ok (.getfield 26, 3) := by decide +kernel
theorem dX3_back_42 : decode cX3_back 42 = .ok (.iload_n 1, 1) := by decide +kernel
theorem dX3_back_43 : decode cX3_back 43 = .ok (.laload, 1) := by decide +kernel
theorem dX3_back_44 : decode cX3_back 44 = .ok (.lastore, 1) := by decide +kernel
theorem dX3_back_45 : decode cX3_back 45 = .ok (.iinc 1 1, 3) := by decide +kernel
theorem dX3_back_48 : decode cX3_back 48 = .ok (.goto (-36), 3) := by decide +kernel
theorem dX3_back_51 : decode cX3_back 51 = .ok (.aload_n 0, 1) := by decide +kernel
theorem dX3_back_52 : decode cX3_back 52 = .ok (.iconst (-1), 1) := by decide +kernel
theorem dX3_back_53 : decode cX3_back 53 = .ok (.putfield 38, 3) := by decide +kernel
theorem dX3_back_56 : decode cX3_back 56 = .ok (.iconst 1, 1) := by decide +kernel
theorem dX3_back_57 : decode cX3_back 57 = .ok (.ireturn, 1) := by decide +kernel
theorem dX3_count_0 : decode cX3_count 0 = .ok (.iload_n 1, 1) := by decide +kernel
theorem dX3_count_1 : decode cX3_count 1 = .ok (.tableswitch 92 0 8 #[51, 56, 56, 56, 56, 63, 68, 73, 78], 51) := by decide +kernel
theorem dX3_count_52 : decode cX3_count 52 = .ok (.aload_n 0, 1) := by decide +kernel
theorem dX3_count_53 : decode cX3_count 53 = .ok (.getfield 69, 3) := by decide +kernel
theorem dX3_count_56 : decode cX3_count 56 = .ok (.ireturn, 1) := by decide +kernel
theorem dX3_count_57 : decode cX3_count 57 = .ok (.aload_n 0, 1) := by decide +kernel
theorem dX3_count_58 : decode cX3_count 58 = .ok (.getfield 35, 3) := by decide +kernel
theorem dX3_count_61 : decode cX3_count 61 = .ok (.iload_n 1, 1) := by decide +kernel
theorem dX3_count_62 : decode cX3_count 62 = .ok (.iaload, 1) := by decide +kernel
theorem dX3_count_63 : decode cX3_count 63 = .ok (.ireturn, 1) := by decide +kernel
theorem dX3_count_64 : decode cX3_count 64 = .ok (.aload_n 0, 1) := by decide +kernel
theorem dX3_count_65 : decode cX3_count 65 = .ok (.getfield 91, 3) := by decide +kernel
theorem dX3_count_68 : decode cX3_count 68 = .ok (.ireturn, 1) := by decide +kernel
theorem dX3_count_69 : decode cX3_count 69 = .ok (.aload_n 0, 1) := by decide +kernel
theorem dX3_count_70 : decode cX3_count 70 = .ok (.getfield 56, 3) := by decide +kernel
theorem dX3_count_73 : decode cX3_count 73 = .ok (.ireturn, 1) := by decide +kernel
theorem dX3_count_74 : decode cX3_count 74 = .ok (.aload_n 0, 1) := by decide +kernel
theorem dX3_count_75 : decode cX3_count 75 = .ok (.getfield 62, 3) := by decide +kernel
theorem dX3_count_78 : decode cX3_count 78 = .ok (.ireturn, 1) := by decide +kernel
theorem dX3_count_79 : decode cX3_count 79 = .ok (.aload_n 0, 1) := by decide +kernel
theorem dX3_count_80 : decode cX3_count 80 = .ok (.getfield 38, 3) := by decide +kernel
theorem dX3_count_83 : decode cX3_count 83 = .ok (.iconst (-1), 1) := by decide +kernel
theorem dX3_count_84 : decode cX3_count 84 = .ok (.if_icmp .ne 7, 3) := by decide +kernel
theorem dX3_count_87 : decode cX3_count 87 = .ok (.iconst 0, 1) := by decide +kernel
theorem dX3_count_88 : decode cX3_count 88 = .ok (.goto 4, 3) := by decide +kernel
theorem dX3_count_91 : decode cX3_count 91 = .ok (.iconst 1, 1) := by decide +kernel
theorem dX3_count_92 : decode cX3_count 92 = .ok (.ireturn, 1) := by decide +kernel
theorem dX3_count_93 : decode cX3_count 93 = .ok (.iconst (-1), 1) := by decide +kernel
theorem dX3_count_94 : decode cX3_count 94 = .ok (.ireturn, 1) := by decide +kernel
set_option maxRecDepth 20000 in
theorem ggX3_held_X3_isSpindle : GoodIn wsX3_held wsX3_isSpindle := goodIn_r _ [4] (by decide +kernel) (by decide +kernel)
set_option maxRecDepth 20000 in
theorem gX3_held_X3_isSpindle : GoodIn wsX3_held (va_wsS RX3 53 yX3_isSpindle wsX3_isSpindle) := goodIn_app (goodIn_of _ (by decide +kernel)) ggX3_held_X3_isSpindle
set_option maxRecDepth 20000 in
theorem ggX3_held_X3_kindOf : GoodIn wsX3_held wsX3_kindOf := goodIn_r _ [8, 9, 10, 25, 26, 27, 28, 29, 30, 31, 32, 33, 34, 35, 36, 37, 38] (by decide +kernel) (by decide +kernel)
set_option maxRecDepth 20000 in
theorem gX3_held_X3_kindOf : GoodIn wsX3_held (wsV RX3 46 RX3 yX3_kindOf wsX3_kindOf) := goodIn_app (goodIn_of _ (by decide +kernel)) ggX3_held_X3_kindOf
set_option maxRecDepth 20000 in
theorem ggX3_held_X3_sizeOf : GoodIn wsX3_held wsX3_sizeOf := goodIn_r _ [14, 15, 9, 16, 17, 18, 3, 19, 25, 26, 27, 28, 29, 30, 31, 32, 33, 34, 35, 36, 37, 38] (by decide +kernel) (by decide +kernel)
set_option maxRecDepth 20000 in
theorem gX3_held_X3_sizeOf : GoodIn wsX3_held (wsV RX3 50 RX3 yX3_sizeOf wsX3_sizeOf) := goodIn_app (goodIn_of _ (by decide +kernel)) ggX3_held_X3_sizeOf
set_option maxRecDepth 20000 in
theorem ggX3_held_X3_place : GoodIn wsX3_held wsX3_place := goodIn_r _ [23, 24, 9, 25, 26, 27, 28, 29, 30, 31, 32, 33, 34, 35, 36, 37, 38] (by decide +kernel) (by decide +kernel)
set_option maxRecDepth 20000 in
theorem gX3_held_X3_place : GoodIn wsX3_held (wsV RX3 79 RX3 yX3_place wsX3_place) := goodIn_app (goodIn_of _ (by decide +kernel)) ggX3_held_X3_place
theorem dX3_held_0 : decode cX3_held 0 = .ok (.iload_n 1, 1) := by decide +kernel
theorem dX3_held_1 : decode cX3_held 1 = .ok (.invokestatic 53, 3) := by decide +kernel
theorem dX3_held_4 : decode cX3_held 4 = .ok (.ifCond .ne 6, 3) := by decide +kernel
theorem dX3_held_7 : decode cX3_held 7 = .ok (.bipush (-9), 2) := by decide +kernel
theorem dX3_held_9 : decode cX3_held 9 = .ok (.ireturn, 1) := by decide +kernel
theorem dX3_held_10 : decode cX3_held 10 = .ok (.iload_n 2, 1) := by decide +kernel
theorem dX3_held_11 : decode cX3_held 11 = .ok (.ifCond .ne 9, 3) := by decide +kernel
theorem dX3_held_14 : decode cX3_held 14 = .ok (.aload_n 0, 1) := by decide +kernel
theorem dX3_held_15 : decode cX3_held 15 = .ok (.iload_n 1, 1) := by decide +kernel
theorem dX3_held_16 : decode cX3_held 16 = .ok (.invokevirtual 46, 3) := by decide +kernel
theorem dX3_held_19 : decode cX3_held 19 = .ok (.ireturn, 1) := by decide +kernel
theorem dX3_held_20 : decode cX3_held 20 = .ok (.iload_n 2, 1) := by decide +kernel
theorem dX3_held_21 : decode cX3_held 21 = .ok (.iconst 1, 1) := by decide +kernel
theorem dX3_held_22 : decode cX3_held 22 = .ok (.if_icmp .ne 9, 3) := by decide +kernel
theorem dX3_held_25 : decode cX3_held 25 = .ok (.aload_n 0, 1) := by decide +kernel
theorem dX3_held_26 : decode cX3_held 26 = .ok (.iload_n 1, 1) := by decide +kernel
theorem dX3_held_27 : decode cX3_held 27 = .ok (.invokevirtual 50, 3) := by decide +kernel
theorem dX3_held_30 : decode cX3_held 30 = .ok (.ireturn, 1) := by decide +kernel
theorem dX3_held_31 : decode cX3_held 31 = .ok (.iload_n 2, 1) := by decide +kernel
theorem dX3_held_32 : decode cX3_held 32 = .ok (.iconst 2, 1) := by decide +kernel
theorem dX3_held_33 : decode cX3_held 33 = .ok (.if_icmp .eq 5, 3) := by decide +kernel
theorem dX3_held_36 : decode cX3_held 36 = .ok (.iconst (-1), 1) := by decide +kernel
theorem dX3_held_37 : decode cX3_held 37 = .ok (.ireturn, 1) := by decide +kernel
theorem dX3_held_38 : decode cX3_held 38 = .ok (.iconst 0, 1) := by decide +kernel
theorem dX3_held_39 : decode cX3_held 39 = .ok (.istore_n 3, 1) := by decide +kernel
theorem dX3_held_40 : decode cX3_held 40 = .ok (.iconst 0, 1) := by decide +kernel
theorem dX3_held_41 : decode cX3_held 41 = .ok (.istore 4, 2) := by decide +kernel
theorem dX3_held_43 : decode cX3_held 43 = .ok (.iload 4, 2) := by decide +kernel
theorem dX3_held_45 : decode cX3_held 45 = .ok (.aload_n 0, 1) := by decide +kernel
theorem dX3_held_46 : decode cX3_held 46 = .ok (.iload_n 1, 1) := by decide +kernel
theorem dX3_held_47 : decode cX3_held 47 = .ok (.invokevirtual 50, 3) := by decide +kernel
theorem dX3_held_50 : decode cX3_held 50 = .ok (.if_icmp .ge 29, 3) := by decide +kernel
theorem dX3_held_53 : decode cX3_held 53 = .ok (.iload_n 3, 1) := by decide +kernel
theorem dX3_held_54 : decode cX3_held 54 = .ok (.aload_n 0, 1) := by decide +kernel
theorem dX3_held_55 : decode cX3_held 55 = .ok (.iload_n 1, 1) := by decide +kernel
theorem dX3_held_56 : decode cX3_held 56 = .ok (.iload 4, 2) := by decide +kernel
theorem dX3_held_58 : decode cX3_held 58 = .ok (.invokevirtual 79, 3) := by decide +kernel
theorem dX3_held_61 : decode cX3_held 61 = .ok (.lconst 0, 1) := by decide +kernel
theorem dX3_held_62 : decode cX3_held 62 = .ok (.lcmp, 1) := by decide +kernel
theorem dX3_held_63 : decode cX3_held 63 = .ok (.ifCond .ne 7, 3) := by decide +kernel
theorem dX3_held_66 : decode cX3_held 66 = .ok (.iconst 0, 1) := by decide +kernel
theorem dX3_held_67 : decode cX3_held 67 = .ok (.goto 4, 3) := by decide +kernel
theorem dX3_held_70 : decode cX3_held 70 = .ok (.iconst 1, 1) := by decide +kernel
theorem dX3_held_71 : decode cX3_held 71 = .ok (.iadd, 1) := by decide +kernel
theorem dX3_held_72 : decode cX3_held 72 = .ok (.istore_n 3, 1) := by decide +kernel
theorem dX3_held_73 : decode cX3_held 73 = .ok (.iinc 4 1, 3) := by decide +kernel
theorem dX3_held_76 : decode cX3_held 76 = .ok (.goto (-33), 3) := by decide +kernel
theorem dX3_held_79 : decode cX3_held 79 = .ok (.iload_n 3, 1) := by decide +kernel
theorem dX3_held_80 : decode cX3_held 80 = .ok (.ireturn, 1) := by decide +kernel
set_option maxRecDepth 20000 in
theorem ggX3_sort_X3_isSpindle : GoodIn wsX3_sort wsX3_isSpindle := goodIn_r _ [4] (by decide +kernel) (by decide +kernel)
set_option maxRecDepth 20000 in
theorem gX3_sort_X3_isSpindle : GoodIn wsX3_sort (va_wsS RX3 53 yX3_isSpindle wsX3_isSpindle) := goodIn_app (goodIn_of _ (by decide +kernel)) ggX3_sort_X3_isSpindle
set_option maxRecDepth 20000 in
theorem ggX3_sort_X3_isPlace : GoodIn wsX3_sort wsX3_isPlace := goodIn_r _ [8, 9, 10, 11, 3, 12, 13, 14, 15, 16, 17, 18, 38, 39, 40, 41, 42, 43, 44, 45, 46, 47, 48, 49, 50, 51] (by decide +kernel) (by decide +kernel)
set_option maxRecDepth 20000 in
theorem gX3_sort_X3_isPlace : GoodIn wsX3_sort (wsV RX3 65 RX3 yX3_isPlace wsX3_isPlace) := goodIn_app (goodIn_of _ (by decide +kernel)) ggX3_sort_X3_isPlace
set_option maxRecDepth 20000 in
theorem ggX3_sort_X3_isRack : GoodIn wsX3_sort wsX3_isRack := goodIn_r _ [22, 23, 24, 25, 3, 26, 14, 27, 38, 39, 40, 41, 42, 43, 44, 45, 46, 47, 48, 49, 50, 51] (by decide +kernel) (by decide +kernel)
set_option maxRecDepth 20000 in
theorem gX3_sort_X3_isRack : GoodIn wsX3_sort (wsV RX3 102 RX3 yX3_isRack wsX3_isRack) := goodIn_app (goodIn_of _ (by decide +kernel)) ggX3_sort_X3_isRack
set_option maxRecDepth 20000 in
theorem ggX3_sort_X3_place : GoodIn wsX3_sort wsX3_place := goodIn_r _ [31, 32, 14, 38, 39, 40, 41, 42, 43, 44, 45, 46, 47, 48, 49, 50, 51] (by decide +kernel) (by decide +kernel)
set_option maxRecDepth 20000 in
theorem gX3_sort_X3_place : GoodIn wsX3_sort (wsV RX3 79 RX3 yX3_place wsX3_place) := goodIn_app (goodIn_of _ (by decide +kernel)) ggX3_sort_X3_place
set_option maxRecDepth 20000 in
theorem ggX3_sort_X3_isPlain : GoodIn wsX3_sort wsX3_isPlain := goodIn_r _ [36, 37, 38, 39, 40, 41, 42, 43, 44, 45, 46, 47, 48, 49, 50, 51] (by decide +kernel) (by decide +kernel)
set_option maxRecDepth 20000 in
theorem gX3_sort_X3_isPlain : GoodIn wsX3_sort (wsV RX3 83 RX3 yX3_isPlain wsX3_isPlain) := goodIn_app (goodIn_of _ (by decide +kernel)) ggX3_sort_X3_isPlain
theorem dX3_sort_0 : decode cX3_sort 0 = .ok (.iload_n 1, 1) := by decide +kernel
theorem dX3_sort_1 : decode cX3_sort 1 = .ok (.invokestatic 53, 3) := by decide +kernel
theorem dX3_sort_4 : decode cX3_sort 4 = .ok (.ifCond .ne 6, 3) := by decide +kernel
theorem dX3_sort_7 : decode cX3_sort 7 = .ok (.bipush (-9), 2) := by decide +kernel
theorem dX3_sort_9 : decode cX3_sort 9 = .ok (.ireturn, 1) := by decide +kernel
theorem dX3_sort_10 : decode cX3_sort 10 = .ok (.aload_n 0, 1) := by decide +kernel
theorem dX3_sort_11 : decode cX3_sort 11 = .ok (.iload_n 1, 1) := by decide +kernel
theorem dX3_sort_12 : decode cX3_sort 12 = .ok (.iload_n 2, 1) := by decide +kernel
theorem dX3_sort_13 : decode cX3_sort 13 = .ok (.invokevirtual 65, 3) := by decide +kernel
theorem dX3_sort_16 : decode cX3_sort 16 = .ok (.ifCond .ne 5, 3) := by decide +kernel
theorem dX3_sort_19 : decode cX3_sort 19 = .ok (.iconst (-1), 1) := by decide +kernel
theorem dX3_sort_20 : decode cX3_sort 20 = .ok (.ireturn, 1) := by decide +kernel
theorem dX3_sort_21 : decode cX3_sort 21 = .ok (.aload_n 0, 1) := by decide +kernel
theorem dX3_sort_22 : decode cX3_sort 22 = .ok (.iload_n 1, 1) := by decide +kernel
theorem dX3_sort_23 : decode cX3_sort 23 = .ok (.invokevirtual 102, 3) := by decide +kernel
theorem dX3_sort_26 : decode cX3_sort 26 = .ok (.ifCond .ne 5, 3) := by decide +kernel
theorem dX3_sort_29 : decode cX3_sort 29 = .ok (.iconst 1, 1) := by decide +kernel
theorem dX3_sort_30 : decode cX3_sort 30 = .ok (.ireturn, 1) := by decide +kernel
theorem dX3_sort_31 : decode cX3_sort 31 = .ok (.aload_n 0, 1) := by decide +kernel
theorem dX3_sort_32 : decode cX3_sort 32 = .ok (.iload_n 1, 1) := by decide +kernel
theorem dX3_sort_33 : decode cX3_sort 33 = .ok (.iload_n 2, 1) := by decide +kernel
theorem dX3_sort_34 : decode cX3_sort 34 = .ok (.invokevirtual 79, 3) := by decide +kernel
theorem dX3_sort_37 : decode cX3_sort 37 = .ok (.lconst 0, 1) := by decide +kernel
theorem dX3_sort_38 : decode cX3_sort 38 = .ok (.lcmp, 1) := by decide +kernel
theorem dX3_sort_39 : decode cX3_sort 39 = .ok (.ifCond .ne 7, 3) := by decide +kernel
theorem dX3_sort_42 : decode cX3_sort 42 = .ok (.iconst 0, 1) := by decide +kernel
theorem dX3_sort_43 : decode cX3_sort 43 = .ok (.goto 21, 3) := by decide +kernel
theorem dX3_sort_46 : decode cX3_sort 46 = .ok (.aload_n 0, 1) := by decide +kernel
theorem dX3_sort_47 : decode cX3_sort 47 = .ok (.aload_n 0, 1) := by decide +kernel
theorem dX3_sort_48 : decode cX3_sort 48 = .ok (.iload_n 1, 1) := by decide +kernel
theorem dX3_sort_49 : decode cX3_sort 49 = .ok (.iload_n 2, 1) := by decide +kernel
theorem dX3_sort_50 : decode cX3_sort 50 = .ok (.invokevirtual 79, 3) := by decide +kernel
theorem dX3_sort_53 : decode cX3_sort 53 = .ok (.invokevirtual 83, 3) := by decide +kernel
theorem dX3_sort_56 : decode cX3_sort 56 = .ok (.ifCond .eq 7, 3) := by decide +kernel
theorem dX3_sort_59 : decode cX3_sort 59 = .ok (.iconst 2, 1) := by decide +kernel
theorem dX3_sort_60 : decode cX3_sort 60 = .ok (.goto 4, 3) := by decide +kernel
theorem dX3_sort_63 : decode cX3_sort 63 = .ok (.iconst 3, 1) := by decide +kernel
theorem dX3_sort_64 : decode cX3_sort 64 = .ok (.ireturn, 1) := by decide +kernel
set_option maxRecDepth 20000 in
theorem ggX3_number_X3_isSpindle : GoodIn wsX3_number wsX3_isSpindle := goodIn_r _ [7] (by decide +kernel) (by decide +kernel)
set_option maxRecDepth 20000 in
theorem gX3_number_X3_isSpindle : GoodIn wsX3_number (va_wsS RX3 53 yX3_isSpindle wsX3_isSpindle) := goodIn_app (goodIn_of _ (by decide +kernel)) ggX3_number_X3_isSpindle
set_option maxRecDepth 20000 in
theorem ggX3_number_X3_kindOf : GoodIn wsX3_number wsX3_kindOf := goodIn_r _ [11, 2, 12, 35, 36, 37, 38, 39, 40, 41, 42, 43, 44, 45, 46, 47, 48] (by decide +kernel) (by decide +kernel)
set_option maxRecDepth 20000 in
theorem gX3_number_X3_kindOf : GoodIn wsX3_number (wsV RX3 46 RX3 yX3_kindOf wsX3_kindOf) := goodIn_app (goodIn_of _ (by decide +kernel)) ggX3_number_X3_kindOf
set_option maxRecDepth 20000 in
theorem ggX3_number_X3_isPlace : GoodIn wsX3_number wsX3_isPlace := goodIn_r _ [16, 17, 18, 19, 6, 20, 21, 2, 22, 23, 24, 25, 35, 36, 37, 38, 39, 40, 41, 42, 43, 44, 45, 46, 47, 48] (by decide +kernel) (by decide +kernel)
set_option maxRecDepth 20000 in
theorem gX3_number_X3_isPlace : GoodIn wsX3_number (wsV RX3 65 RX3 yX3_isPlace wsX3_isPlace) := goodIn_app (goodIn_of _ (by decide +kernel)) ggX3_number_X3_isPlace
set_option maxRecDepth 20000 in
theorem ggX3_number_X3_place : GoodIn wsX3_number wsX3_place := goodIn_r _ [29, 30, 2, 35, 36, 37, 38, 39, 40, 41, 42, 43, 44, 45, 46, 47, 48] (by decide +kernel) (by decide +kernel)
set_option maxRecDepth 20000 in
theorem gX3_number_X3_place : GoodIn wsX3_number (wsV RX3 79 RX3 yX3_place wsX3_place) := goodIn_app (goodIn_of _ (by decide +kernel)) ggX3_number_X3_place
set_option maxRecDepth 20000 in
theorem ggX3_number_X3_isRack : GoodIn wsX3_number wsX3_isRack := goodIn_r _ [34, 8, 9, 10, 6, 11, 2, 12, 35, 36, 37, 38, 39, 40, 41, 42, 43, 44, 45, 46, 47, 48] (by decide +kernel) (by decide +kernel)
set_option maxRecDepth 20000 in
theorem gX3_number_X3_isRack : GoodIn wsX3_number (wsV RX3 102 RX3 yX3_isRack wsX3_isRack) := goodIn_app (goodIn_of _ (by decide +kernel)) ggX3_number_X3_isRack
theorem dX3_number_0 : decode cX3_number 0 = .ok (.iload_n 1, 1) := by decide +kernel
theorem dX3_number_1 : decode cX3_number 1 = .ok (.invokestatic 53, 3) := by decide +kernel
theorem dX3_number_4 : decode cX3_number 4 = .ok (.ifCond .ne 5, 3) := by decide +kernel
theorem dX3_number_7 : decode cX3_number 7 = .ok (.lconst 0, 1) := by decide +kernel
theorem dX3_number_8 : decode cX3_number 8 = .ok (.lreturn, 1) := by decide +kernel
theorem dX3_number_9 : decode cX3_number 9 = .ok (.aload_n 0, 1) := by decide +kernel
theorem dX3_number_10 : decode cX3_number 10 = .ok (.iload_n 1, 1) := by decide +kernel
theorem dX3_number_11 : decode cX3_number 11 = .ok (.invokevirtual 46, 3) := by decide +kernel
theorem dX3_number_14 : decode cX3_number 14 = .ok (.iconst 1, 1) := by decide +kernel
theorem dX3_number_15 : decode cX3_number 15 = .ok (.if_icmp .ne 18, 3) := by decide +kernel
theorem dX3_number_18 : decode cX3_number 18 = .ok (.aload_n 0, 1) := by decide +kernel
theorem dX3_number_19 : decode cX3_number 19 = .ok (.getfield 13, 3) := by decide +kernel
theorem dX3_number_22 : decode cX3_number 22 = .ok (.iconst (-1), 1) := by decide +kernel
theorem dX3_number_23 : decode cX3_number 23 = .ok (.aload_n 0, 1) := by decide +kernel
theorem dX3_number_24 : decode cX3_number 24 = .ok (.getfield 7, 3) := by decide +kernel
theorem dX3_number_27 : decode cX3_number 27 = .ok (.iload_n 1, 1) := by decide +kernel
theorem dX3_number_28 : decode cX3_number 28 = .ok (.iaload, 1) := by decide +kernel
theorem dX3_number_29 : decode cX3_number 29 = .ok (.isub, 1) := by decide +kernel
theorem dX3_number_30 : decode cX3_number 30 = .ok (.iaload, 1) := by decide +kernel
theorem dX3_number_31 : decode cX3_number 31 = .ok (.i2l, 1) := by decide +kernel
theorem dX3_number_32 : decode cX3_number 32 = .ok (.lreturn, 1) := by decide +kernel
theorem dX3_number_33 : decode cX3_number 33 = .ok (.aload_n 0, 1) := by decide +kernel
theorem dX3_number_34 : decode cX3_number 34 = .ok (.iload_n 1, 1) := by decide +kernel
theorem dX3_number_35 : decode cX3_number 35 = .ok (.iload_n 2, 1) := by decide +kernel
theorem dX3_number_36 : decode cX3_number 36 = .ok (.invokevirtual 65, 3) := by decide +kernel
theorem dX3_number_39 : decode cX3_number 39 = .ok (.ifCond .ne 5, 3) := by decide +kernel
theorem dX3_number_42 : decode cX3_number 42 = .ok (.lconst 0, 1) := by decide +kernel
theorem dX3_number_43 : decode cX3_number 43 = .ok (.lreturn, 1) := by decide +kernel
theorem dX3_number_44 : decode cX3_number 44 = .ok (.aload_n 0, 1) := by decide +kernel
theorem dX3_number_45 : decode cX3_number 45 = .ok (.iload_n 1, 1) := by decide +kernel
theorem dX3_number_46 : decode cX3_number 46 = .ok (.iload_n 2, 1) := by decide +kernel
theorem dX3_number_47 : decode cX3_number 47 = .ok (.invokevirtual 79, 3) := by decide +kernel
theorem dX3_number_50 : decode cX3_number 50 = .ok (.lstore_n 3, 1) := by decide +kernel
theorem dX3_number_51 : decode cX3_number 51 = .ok (.aload_n 0, 1) := by decide +kernel
theorem dX3_number_52 : decode cX3_number 52 = .ok (.iload_n 1, 1) := by decide +kernel
theorem dX3_number_53 : decode cX3_number 53 = .ok (.invokevirtual 102, 3) := by decide +kernel
theorem dX3_number_56 : decode cX3_number 56 = .ok (.ifCond .ne 7, 3) := by decide +kernel
theorem dX3_number_59 : decode cX3_number 59 = .ok (.lload_n 3, 1) := by decide +kernel
theorem dX3_number_60 : decode cX3_number 60 = .ok (.goto 22, 3) := by decide +kernel
theorem dX3_number_63 : decode cX3_number 63 = .ok (.lload_n 3, 1) := by decide +kernel
theorem dX3_number_64 : decode cX3_number 64 = .ok (.lconst 0, 1) := by decide +kernel
theorem dX3_number_65 : decode cX3_number 65 = .ok (.lcmp, 1) := by decide +kernel
theorem dX3_number_66 : decode cX3_number 66 = .ok (.ifCond .ne 7, 3) := by decide +kernel
theorem dX3_number_69 : decode cX3_number 69 = .ok (.lconst 0, 1) := by decide +kernel
theorem dX3_number_70 : decode cX3_number 70 = .ok (.goto 12, 3) := by decide +kernel
theorem dX3_number_73 : decode cX3_number 73 = .ok (.aload_n 0, 1) := by decide +kernel
theorem dX3_number_74 : decode cX3_number 74 = .ok (.getfield 29, 3) := by decide +kernel
theorem dX3_number_77 : decode cX3_number 77 = .ok (.lload_n 3, 1) := by decide +kernel
theorem dX3_number_78 : decode cX3_number 78 = .ok (.l2i, 1) := by decide +kernel
theorem dX3_number_79 : decode cX3_number 79 = .ok (.iconst 1, 1) := by decide +kernel
theorem dX3_number_80 : decode cX3_number 80 = .ok (.isub, 1) := by decide +kernel
theorem dX3_number_81 : decode cX3_number 81 = .ok (.laload, 1) := by decide +kernel
theorem dX3_number_82 : decode cX3_number 82 = .ok (.lreturn, 1) := by decide +kernel
set_option maxRecDepth 20000 in
theorem ggX3_show_X3_isSpindle : GoodIn wsX3_show wsX3_isSpindle := goodIn_r _ [5] (by decide +kernel) (by decide +kernel)
set_option maxRecDepth 20000 in
theorem gX3_show_X3_isSpindle : GoodIn wsX3_show (va_wsS RX3 53 yX3_isSpindle wsX3_isSpindle) := goodIn_app (goodIn_of _ (by decide +kernel)) ggX3_show_X3_isSpindle
set_option maxRecDepth 20000 in
theorem ggX3_show_X3_isRack : GoodIn wsX3_show wsX3_isRack := goodIn_r _ [9, 10, 11, 12, 4, 13, 14, 15, 30, 31, 32, 33, 34, 35, 36, 37, 38, 39, 40, 41, 42, 43] (by decide +kernel) (by decide +kernel)
set_option maxRecDepth 20000 in
theorem gX3_show_X3_isRack : GoodIn wsX3_show (wsV RX3 102 RX3 yX3_isRack wsX3_isRack) := goodIn_app (goodIn_of _ (by decide +kernel)) ggX3_show_X3_isRack
set_option maxRecDepth 20000 in
theorem ggX3_show_X3_sizeOf : GoodIn wsX3_show wsX3_sizeOf := goodIn_r _ [19, 20, 14, 21, 22, 23, 4, 24, 30, 31, 32, 33, 34, 35, 36, 37, 38, 39, 40, 41, 42, 43] (by decide +kernel) (by decide +kernel)
set_option maxRecDepth 20000 in
theorem gX3_show_X3_sizeOf : GoodIn wsX3_show (wsV RX3 50 RX3 yX3_sizeOf wsX3_sizeOf) := goodIn_app (goodIn_of _ (by decide +kernel)) ggX3_show_X3_sizeOf
set_option maxRecDepth 20000 in
theorem ggX3_show_X3_place : GoodIn wsX3_show wsX3_place := goodIn_r _ [28, 29, 14, 30, 31, 32, 33, 34, 35, 36, 37, 38, 39, 40, 41, 42, 43] (by decide +kernel) (by decide +kernel)
set_option maxRecDepth 20000 in
theorem gX3_show_X3_place : GoodIn wsX3_show (wsV RX3 79 RX3 yX3_place wsX3_place) := goodIn_app (goodIn_of _ (by decide +kernel)) ggX3_show_X3_place
theorem dX3_show_0 : decode cX3_show 0 = .ok (.iload_n 1, 1) := by decide +kernel
theorem dX3_show_1 : decode cX3_show 1 = .ok (.invokestatic 53, 3) := by decide +kernel
theorem dX3_show_4 : decode cX3_show 4 = .ok (.ifCond .ne 6, 3) := by decide +kernel
theorem dX3_show_7 : decode cX3_show 7 = .ok (.bipush (-9), 2) := by decide +kernel
theorem dX3_show_9 : decode cX3_show 9 = .ok (.ireturn, 1) := by decide +kernel
theorem dX3_show_10 : decode cX3_show 10 = .ok (.aload_n 0, 1) := by decide +kernel
theorem dX3_show_11 : decode cX3_show 11 = .ok (.iload_n 1, 1) := by decide +kernel
theorem dX3_show_12 : decode cX3_show 12 = .ok (.invokevirtual 102, 3) := by decide +kernel
theorem dX3_show_15 : decode cX3_show 15 = .ok (.ifCond .ne 5, 3) := by decide +kernel
theorem dX3_show_18 : decode cX3_show 18 = .ok (.iconst (-1), 1) := by decide +kernel
theorem dX3_show_19 : decode cX3_show 19 = .ok (.ireturn, 1) := by decide +kernel
theorem dX3_show_20 : decode cX3_show 20 = .ok (.iconst 0, 1) := by decide +kernel
theorem dX3_show_21 : decode cX3_show 21 = .ok (.istore_n 2, 1) := by decide +kernel
theorem dX3_show_22 : decode cX3_show 22 = .ok (.iconst 0, 1) := by decide +kernel
theorem dX3_show_23 : decode cX3_show 23 = .ok (.istore_n 3, 1) := by decide +kernel
theorem dX3_show_24 : decode cX3_show 24 = .ok (.iload_n 3, 1) := by decide +kernel
theorem dX3_show_25 : decode cX3_show 25 = .ok (.aload_n 0, 1) := by decide +kernel
theorem dX3_show_26 : decode cX3_show 26 = .ok (.iload_n 1, 1) := by decide +kernel
theorem dX3_show_27 : decode cX3_show 27 = .ok (.invokevirtual 50, 3) := by decide +kernel
theorem dX3_show_30 : decode cX3_show 30 = .ok (.if_icmp .ge 44, 3) := by decide +kernel
theorem dX3_show_33 : decode cX3_show 33 = .ok (.aload_n 0, 1) := by decide +kernel
theorem dX3_show_34 : decode cX3_show 34 = .ok (.iload_n 1, 1) := by decide +kernel
theorem dX3_show_35 : decode cX3_show 35 = .ok (.iload_n 3, 1) := by decide +kernel
theorem dX3_show_36 : decode cX3_show 36 = .ok (.invokevirtual 79, 3) := by decide +kernel
theorem dX3_show_39 : decode cX3_show 39 = .ok (.lconst 0, 1) := by decide +kernel
theorem dX3_show_40 : decode cX3_show 40 = .ok (.lcmp, 1) := by decide +kernel
theorem dX3_show_41 : decode cX3_show 41 = .ok (.ifCond .ne 6, 3) := by decide +kernel
theorem dX3_show_44 : decode cX3_show 44 = .ok (.goto 24, 3) := by decide +kernel
theorem dX3_show_47 : decode cX3_show 47 = .ok (.aload_n 0, 1) := by decide +kernel
theorem dX3_show_48 : decode cX3_show 48 = .ok (.getfield 32, 3) := by decide +kernel
theorem dX3_show_51 : decode cX3_show 51 = .ok (.aload_n 0, 1) := by decide +kernel
theorem dX3_show_52 : decode cX3_show 52 = .ok (.iload_n 1, 1) := by decide +kernel
theorem dX3_show_53 : decode cX3_show 53 = .ok (.iload_n 3, 1) := by decide +kernel
theorem dX3_show_54 : decode cX3_show 54 = .ok (.invokevirtual 79, 3) := by decide +kernel
theorem dX3_show_57 : decode cX3_show 57 = .ok (.l2i, 1) := by decide +kernel
theorem dX3_show_58 : decode cX3_show 58 = .ok (.iconst 1, 1) := by decide +kernel
theorem dX3_show_59 : decode cX3_show 59 = .ok (.isub, 1) := by decide +kernel
theorem dX3_show_60 : decode cX3_show 60 = .ok (.dup2, 1) := by decide +kernel
theorem dX3_show_61 : decode cX3_show 61 = .ok (.iaload, 1) := by decide +kernel
theorem dX3_show_62 : decode cX3_show 62 = .ok (.iconst 1, 1) := by decide +kernel
theorem dX3_show_63 : decode cX3_show 63 = .ok (.iadd, 1) := by decide +kernel
theorem dX3_show_64 : decode cX3_show 64 = .ok (.iastore, 1) := by decide +kernel
theorem dX3_show_65 : decode cX3_show 65 = .ok (.iinc 2 1, 3) := by decide +kernel
theorem dX3_show_68 : decode cX3_show 68 = .ok (.iinc 3 1, 3) := by decide +kernel
theorem dX3_show_71 : decode cX3_show 71 = .ok (.goto (-47), 3) := by decide +kernel
theorem dX3_show_74 : decode cX3_show 74 = .ok (.iload_n 2, 1) := by decide +kernel
theorem dX3_show_75 : decode cX3_show 75 = .ok (.ireturn, 1) := by decide +kernel
set_option maxRecDepth 20000 in
theorem ggX3_shown_X3_isSpindle : GoodIn wsX3_shown wsX3_isSpindle := goodIn_r _ [5] (by decide +kernel) (by decide +kernel)
set_option maxRecDepth 20000 in
theorem gX3_shown_X3_isSpindle : GoodIn wsX3_shown (va_wsS RX3 53 yX3_isSpindle wsX3_isSpindle) := goodIn_app (goodIn_of _ (by decide +kernel)) ggX3_shown_X3_isSpindle
set_option maxRecDepth 20000 in
theorem ggX3_shown_X3_isRack : GoodIn wsX3_shown wsX3_isRack := goodIn_r _ [9, 10, 11, 12, 4, 13, 14, 15, 34, 35, 36, 37, 38, 39, 40, 41, 42, 43, 44, 45, 46, 47] (by decide +kernel) (by decide +kernel)
set_option maxRecDepth 20000 in
theorem gX3_shown_X3_isRack : GoodIn wsX3_shown (wsV RX3 102 RX3 yX3_isRack wsX3_isRack) := goodIn_app (goodIn_of _ (by decide +kernel)) ggX3_shown_X3_isRack
set_option maxRecDepth 20000 in
theorem ggX3_shown_X3_isPlace : GoodIn wsX3_shown wsX3_isPlace := goodIn_r _ [19, 20, 21, 22, 4, 23, 24, 14, 25, 26, 27, 28, 34, 35, 36, 37, 38, 39, 40, 41, 42, 43, 44, 45, 46, 47] (by decide +kernel) (by decide +kernel)
set_option maxRecDepth 20000 in
theorem gX3_shown_X3_isPlace : GoodIn wsX3_shown (wsV RX3 65 RX3 yX3_isPlace wsX3_isPlace) := goodIn_app (goodIn_of _ (by decide +kernel)) ggX3_shown_X3_isPlace
set_option maxRecDepth 20000 in
theorem ggX3_shown_X3_place : GoodIn wsX3_shown wsX3_place := goodIn_r _ [32, 33, 14, 34, 35, 36, 37, 38, 39, 40, 41, 42, 43, 44, 45, 46, 47] (by decide +kernel) (by decide +kernel)
set_option maxRecDepth 20000 in
theorem gX3_shown_X3_place : GoodIn wsX3_shown (wsV RX3 79 RX3 yX3_place wsX3_place) := goodIn_app (goodIn_of _ (by decide +kernel)) ggX3_shown_X3_place
theorem dX3_shown_0 : decode cX3_shown 0 = .ok (.iload_n 1, 1) := by decide +kernel
theorem dX3_shown_1 : decode cX3_shown 1 = .ok (.invokestatic 53, 3) := by decide +kernel
theorem dX3_shown_4 : decode cX3_shown 4 = .ok (.ifCond .ne 6, 3) := by decide +kernel
theorem dX3_shown_7 : decode cX3_shown 7 = .ok (.bipush (-9), 2) := by decide +kernel
theorem dX3_shown_9 : decode cX3_shown 9 = .ok (.ireturn, 1) := by decide +kernel
theorem dX3_shown_10 : decode cX3_shown 10 = .ok (.aload_n 0, 1) := by decide +kernel
theorem dX3_shown_11 : decode cX3_shown 11 = .ok (.iload_n 1, 1) := by decide +kernel
theorem dX3_shown_12 : decode cX3_shown 12 = .ok (.invokevirtual 102, 3) := by decide +kernel
theorem dX3_shown_15 : decode cX3_shown 15 = .ok (.ifCond .eq 40, 3) := by decide +kernel
theorem dX3_shown_18 : decode cX3_shown 18 = .ok (.aload_n 0, 1) := by decide +kernel
theorem dX3_shown_19 : decode cX3_shown 19 = .ok (.iload_n 1, 1) := by decide +kernel
theorem dX3_shown_20 : decode cX3_shown 20 = .ok (.iload_n 2, 1) := by decide +kernel
theorem dX3_shown_21 : decode cX3_shown 21 = .ok (.invokevirtual 65, 3) := by decide +kernel
theorem dX3_shown_24 : decode cX3_shown 24 = .ok (.ifCond .eq 31, 3) := by decide +kernel
theorem dX3_shown_27 : decode cX3_shown 27 = .ok (.aload_n 0, 1) := by decide +kernel
theorem dX3_shown_28 : decode cX3_shown 28 = .ok (.iload_n 1, 1) := by decide +kernel
theorem dX3_shown_29 : decode cX3_shown 29 = .ok (.iload_n 2, 1) := by decide +kernel
theorem dX3_shown_30 : decode cX3_shown 30 = .ok (.invokevirtual 79, 3) := by decide +kernel
theorem dX3_shown_33 : decode cX3_shown 33 = .ok (.lconst 0, 1) := by decide +kernel
theorem dX3_shown_34 : decode cX3_shown 34 = .ok (.lcmp, 1) := by decide +kernel
theorem dX3_shown_35 : decode cX3_shown 35 = .ok (.ifCond .eq 20, 3) := by decide +kernel
theorem dX3_shown_38 : decode cX3_shown 38 = .ok (.aload_n 0, 1) := by decide +kernel
theorem dX3_shown_39 : decode cX3_shown 39 = .ok (.getfield 32, 3) := by decide +kernel
theorem dX3_shown_42 : decode cX3_shown 42 = .ok (.aload_n 0, 1) := by decide +kernel
theorem dX3_shown_43 : decode cX3_shown 43 = .ok (.iload_n 1, 1) := by decide +kernel
theorem dX3_shown_44 : decode cX3_shown 44 = .ok (.iload_n 2, 1) := by decide +kernel
theorem dX3_shown_45 : decode cX3_shown 45 = .ok (.invokevirtual 79, 3) := by decide +kernel
theorem dX3_shown_48 : decode cX3_shown 48 = .ok (.l2i, 1) := by decide +kernel
theorem dX3_shown_49 : decode cX3_shown 49 = .ok (.iconst 1, 1) := by decide +kernel
theorem dX3_shown_50 : decode cX3_shown 50 = .ok (.isub, 1) := by decide +kernel
theorem dX3_shown_51 : decode cX3_shown 51 = .ok (.iaload, 1) := by decide +kernel
theorem dX3_shown_52 : decode cX3_shown 52 = .ok (.goto 4, 3) := by decide +kernel
theorem dX3_shown_55 : decode cX3_shown 55 = .ok (.iconst (-1), 1) := by decide +kernel
theorem dX3_shown_56 : decode cX3_shown 56 = .ok (.ireturn, 1) := by decide +kernel
set_option maxRecDepth 20000 in
theorem ggX3_same_X3_isSpindle : GoodIn wsX3_same wsX3_isSpindle := goodIn_r _ [5] (by decide +kernel) (by decide +kernel)
set_option maxRecDepth 20000 in
theorem gX3_same_X3_isSpindle : GoodIn wsX3_same (va_wsS RX3 53 yX3_isSpindle wsX3_isSpindle) := goodIn_app (goodIn_of _ (by decide +kernel)) ggX3_same_X3_isSpindle
set_option maxRecDepth 20000 in
theorem ggX3_same_X3_isRack : GoodIn wsX3_same wsX3_isRack := goodIn_r _ [9, 10, 11, 12, 4, 13, 1, 14, 33, 34, 35, 36, 37, 38, 39, 40, 41, 42, 43, 44, 45, 46] (by decide +kernel) (by decide +kernel)
set_option maxRecDepth 20000 in
theorem gX3_same_X3_isRack : GoodIn wsX3_same (wsV RX3 102 RX3 yX3_isRack wsX3_isRack) := goodIn_app (goodIn_of _ (by decide +kernel)) ggX3_same_X3_isRack
set_option maxRecDepth 20000 in
theorem ggX3_same_X3_isPlace : GoodIn wsX3_same wsX3_isPlace := goodIn_r _ [18, 19, 20, 21, 4, 22, 23, 1, 24, 25, 26, 27, 33, 34, 35, 36, 37, 38, 39, 40, 41, 42, 43, 44, 45, 46] (by decide +kernel) (by decide +kernel)
set_option maxRecDepth 20000 in
theorem gX3_same_X3_isPlace : GoodIn wsX3_same (wsV RX3 65 RX3 yX3_isPlace wsX3_isPlace) := goodIn_app (goodIn_of _ (by decide +kernel)) ggX3_same_X3_isPlace
set_option maxRecDepth 20000 in
theorem ggX3_same_X3_place : GoodIn wsX3_same wsX3_place := goodIn_r _ [31, 32, 1, 33, 34, 35, 36, 37, 38, 39, 40, 41, 42, 43, 44, 45, 46] (by decide +kernel) (by decide +kernel)
set_option maxRecDepth 20000 in
theorem gX3_same_X3_place : GoodIn wsX3_same (wsV RX3 79 RX3 yX3_place wsX3_place) := goodIn_app (goodIn_of _ (by decide +kernel)) ggX3_same_X3_place
theorem dX3_same_0 : decode cX3_same 0 = .ok (.iload_n 1, 1) := by decide +kernel
theorem dX3_same_1 : decode cX3_same 1 = .ok (.invokestatic 53, 3) := by decide +kernel
theorem dX3_same_4 : decode cX3_same 4 = .ok (.ifCond .eq 10, 3) := by decide +kernel
theorem dX3_same_7 : decode cX3_same 7 = .ok (.iload_n 3, 1) := by decide +kernel
theorem dX3_same_8 : decode cX3_same 8 = .ok (.invokestatic 53, 3) := by decide +kernel
theorem dX3_same_11 : decode cX3_same 11 = .ok (.ifCond .ne 6, 3) := by decide +kernel
theorem dX3_same_14 : decode cX3_same 14 = .ok (.bipush (-9), 2) := by decide +kernel
theorem dX3_same_16 : decode cX3_same 16 = .ok (.ireturn, 1) := by decide +kernel
theorem dX3_same_17 : decode cX3_same 17 = .ok (.iload_n 2, 1) := by decide +kernel
theorem dX3_same_18 : decode cX3_same 18 = .ok (.ifCond .ge 38, 3) := by decide +kernel
theorem dX3_same_21 : decode cX3_same 21 = .ok (.iload 4, 2) := by decide +kernel
theorem dX3_same_23 : decode cX3_same 23 = .ok (.ifCond .ge 33, 3) := by decide +kernel
theorem dX3_same_26 : decode cX3_same 26 = .ok (.aload_n 0, 1) := by decide +kernel
theorem dX3_same_27 : decode cX3_same 27 = .ok (.getfield 7, 3) := by decide +kernel
theorem dX3_same_30 : decode cX3_same 30 = .ok (.iload_n 1, 1) := by decide +kernel
theorem dX3_same_31 : decode cX3_same 31 = .ok (.iaload, 1) := by decide +kernel
theorem dX3_same_32 : decode cX3_same 32 = .ok (.ifCond .eq 22, 3) := by decide +kernel
theorem dX3_same_35 : decode cX3_same 35 = .ok (.aload_n 0, 1) := by decide +kernel
theorem dX3_same_36 : decode cX3_same 36 = .ok (.getfield 7, 3) := by decide +kernel
theorem dX3_same_39 : decode cX3_same 39 = .ok (.iload_n 1, 1) := by decide +kernel
theorem dX3_same_40 : decode cX3_same 40 = .ok (.iaload, 1) := by decide +kernel
theorem dX3_same_41 : decode cX3_same 41 = .ok (.aload_n 0, 1) := by decide +kernel
theorem dX3_same_42 : decode cX3_same 42 = .ok (.getfield 7, 3) := by decide +kernel
theorem dX3_same_45 : decode cX3_same 45 = .ok (.iload_n 3, 1) := by decide +kernel
theorem dX3_same_46 : decode cX3_same 46 = .ok (.iaload, 1) := by decide +kernel
theorem dX3_same_47 : decode cX3_same 47 = .ok (.if_icmp .ne 7, 3) := by decide +kernel
theorem dX3_same_50 : decode cX3_same 50 = .ok (.iconst 1, 1) := by decide +kernel
theorem dX3_same_51 : decode cX3_same 51 = .ok (.goto 4, 3) := by decide +kernel
theorem dX3_same_54 : decode cX3_same 54 = .ok (.iconst 0, 1) := by decide +kernel
theorem dX3_same_55 : decode cX3_same 55 = .ok (.ireturn, 1) := by decide +kernel
theorem dX3_same_56 : decode cX3_same 56 = .ok (.aload_n 0, 1) := by decide +kernel
theorem dX3_same_57 : decode cX3_same 57 = .ok (.iload_n 1, 1) := by decide +kernel
theorem dX3_same_58 : decode cX3_same 58 = .ok (.invokevirtual 102, 3) := by decide +kernel
theorem dX3_same_61 : decode cX3_same 61 = .ok (.ifCond .eq 30, 3) := by decide +kernel
theorem dX3_same_64 : decode cX3_same 64 = .ok (.aload_n 0, 1) := by decide +kernel
theorem dX3_same_65 : decode cX3_same 65 = .ok (.iload_n 3, 1) := by decide +kernel
theorem dX3_same_66 : decode cX3_same 66 = .ok (.invokevirtual 102, 3) := by decide +kernel
theorem dX3_same_69 : decode cX3_same 69 = .ok (.ifCond .eq 22, 3) := by decide +kernel
theorem dX3_same_72 : decode cX3_same 72 = .ok (.aload_n 0, 1) := by decide +kernel
theorem dX3_same_73 : decode cX3_same 73 = .ok (.iload_n 1, 1) := by decide +kernel
theorem dX3_same_74 : decode cX3_same 74 = .ok (.iload_n 2, 1) := by decide +kernel
theorem dX3_same_75 : decode cX3_same 75 = .ok (.invokevirtual 65, 3) := by decide +kernel
theorem dX3_same_78 : decode cX3_same 78 = .ok (.ifCond .eq 13, 3) := by decide +kernel
theorem dX3_same_81 : decode cX3_same 81 = .ok (.aload_n 0, 1) := by decide +kernel
theorem dX3_same_82 : decode cX3_same 82 = .ok (.iload_n 3, 1) := by decide +kernel
theorem dX3_same_83 : decode cX3_same 83 = .ok (.iload 4, 2) := by decide +kernel
theorem dX3_same_85 : decode cX3_same 85 = .ok (.invokevirtual 65, 3) := by decide +kernel
theorem dX3_same_88 : decode cX3_same 88 = .ok (.ifCond .ne 5, 3) := by decide +kernel
theorem dX3_same_91 : decode cX3_same 91 = .ok (.iconst 0, 1) := by decide +kernel
theorem dX3_same_92 : decode cX3_same 92 = .ok (.ireturn, 1) := by decide +kernel
theorem dX3_same_93 : decode cX3_same 93 = .ok (.aload_n 0, 1) := by decide +kernel
theorem dX3_same_94 : decode cX3_same 94 = .ok (.iload_n 1, 1) := by decide +kernel
theorem dX3_same_95 : decode cX3_same 95 = .ok (.iload_n 2, 1) := by decide +kernel
theorem dX3_same_96 : decode cX3_same 96 = .ok (.invokevirtual 79, 3) := by decide +kernel
theorem dX3_same_99 : decode cX3_same 99 = .ok (.lconst 0, 1) := by decide +kernel
theorem dX3_same_100 : decode cX3_same 100 = .ok (.lcmp, 1) := by decide +kernel
theorem dX3_same_101 : decode cX3_same 101 = .ok (.ifCond .eq 24, 3) := by decide +kernel
theorem dX3_same_104 : decode cX3_same 104 = .ok (.aload_n 0, 1) := by decide +kernel
theorem dX3_same_105 : decode cX3_same 105 = .ok (.iload_n 1, 1) := by decide +kernel
theorem dX3_same_106 : decode cX3_same 106 = .ok (.iload_n 2, 1) := by decide +kernel
theorem dX3_same_107 : decode cX3_same 107 = .ok (.invokevirtual 79, 3) := by decide +kernel
theorem dX3_same_110 : decode cX3_same 110 = .ok (.aload_n 0, 1) := by decide +kernel
theorem dX3_same_111 : decode cX3_same 111 = .ok (.iload_n 3, 1) := by decide +kernel
theorem dX3_same_112 : decode cX3_same 112 = .ok (.iload 4, 2) := by decide +kernel
theorem dX3_same_114 : decode cX3_same 114 = .ok (.invokevirtual 79, 3) := by decide +kernel
theorem dX3_same_117 : decode cX3_same 117 = .ok (.lcmp, 1) := by decide +kernel
theorem dX3_same_118 : decode cX3_same 118 = .ok (.ifCond .ne 7, 3) := by decide +kernel
theorem dX3_same_121 : decode cX3_same 121 = .ok (.iconst 1, 1) := by decide +kernel
theorem dX3_same_122 : decode cX3_same 122 = .ok (.goto 4, 3) := by decide +kernel
theorem dX3_same_125 : decode cX3_same 125 = .ok (.iconst 0, 1) := by decide +kernel
theorem dX3_same_126 : decode cX3_same 126 = .ok (.ireturn, 1) := by decide +kernel
